section
-- ===== PART A: goes FIRST, ahead of the names: the tables' words, and 'selects' of the private methods out of them =====
/-- a private method of a class that the tables say can be made, by its rows of tables_1 -/
def lw_okq (q : MethodName × Nat) : Prop := (q.1.cls ≠ "java/lang/invoke/MethodHandle" ∧ q.1.cls ≠ "java/lang/invoke/VarHandle") ∧ Cond.instantiable q.1.cls q.2 ∈ tables_1 ∧ Cond.privateMethod q.1 ∈ tables_1 ∧ Cond.instanceMethod q.1 ∈ tables_1
theorem lw_p0 : lw_okq (⟨"GrudgeRennet$Page", "fitsPails", "(II)Z"⟩, 2) := ⟨⟨by decide +kernel, by decide +kernel⟩, List.mem_of_getElem? (i := 27) (by decide +kernel), List.mem_of_getElem? (i := 238) (by decide +kernel), List.mem_of_getElem? (i := 239) (by decide +kernel)⟩
theorem lw_p1 : lw_okq (⟨"GrudgeRennet$Page", "isDigit", "(III)Z"⟩, 2) := ⟨⟨by decide +kernel, by decide +kernel⟩, List.mem_of_getElem? (i := 27) (by decide +kernel), List.mem_of_getElem? (i := 242) (by decide +kernel), List.mem_of_getElem? (i := 243) (by decide +kernel)⟩
theorem lw_p2 : lw_okq (⟨"GrudgeRennet$Page", "fitsPeople", "(I)Z"⟩, 2) := ⟨⟨by decide +kernel, by decide +kernel⟩, List.mem_of_getElem? (i := 27) (by decide +kernel), List.mem_of_getElem? (i := 254) (by decide +kernel), List.mem_of_getElem? (i := 255) (by decide +kernel)⟩
theorem lw_p3 : lw_okq (⟨"GrudgeRennet$Page", "fitsBehindPeople", "(II)Z"⟩, 2) := ⟨⟨by decide +kernel, by decide +kernel⟩, List.mem_of_getElem? (i := 27) (by decide +kernel), List.mem_of_getElem? (i := 345) (by decide +kernel), List.mem_of_getElem? (i := 346) (by decide +kernel)⟩
theorem lw_p4 : lw_okq (⟨"GrudgeRennet$Seen", "allowsPride", "(III)Z"⟩, 4) := ⟨⟨by decide +kernel, by decide +kernel⟩, List.mem_of_getElem? (i := 81) (by decide +kernel), List.mem_of_getElem? (i := 439) (by decide +kernel), List.mem_of_getElem? (i := 440) (by decide +kernel)⟩
theorem lw_p5 : lw_okq (⟨"GrudgeRennet", "bottlesFor", "(I)I"⟩, 9) := ⟨⟨by decide +kernel, by decide +kernel⟩, List.mem_of_getElem? (i := 19) (by decide +kernel), List.mem_of_getElem? (i := 481) (by decide +kernel), List.mem_of_getElem? (i := 482) (by decide +kernel)⟩
theorem lw_p6 : lw_okq (⟨"GrudgeRennet$Standing", "heldIn", "(I)I"⟩, 11) := ⟨⟨by decide +kernel, by decide +kernel⟩, List.mem_of_getElem? (i := 75) (by decide +kernel), List.mem_of_getElem? (i := 493) (by decide +kernel), List.mem_of_getElem? (i := 494) (by decide +kernel)⟩
theorem lw_p7 : lw_okq (⟨"GrudgeRennet", "odds", "(IZ)I"⟩, 9) := ⟨⟨by decide +kernel, by decide +kernel⟩, List.mem_of_getElem? (i := 19) (by decide +kernel), List.mem_of_getElem? (i := 498) (by decide +kernel), List.mem_of_getElem? (i := 499) (by decide +kernel)⟩
theorem lw_p8 : lw_okq (⟨"GrudgeRennet$Outlook", "trySlight", "(LGrudgeRennet$Valley;LGrudgeRennet$Standing;I)V"⟩, 6) := ⟨⟨by decide +kernel, by decide +kernel⟩, List.mem_of_getElem? (i := 150) (by decide +kernel), List.mem_of_getElem? (i := 510) (by decide +kernel), List.mem_of_getElem? (i := 511) (by decide +kernel)⟩
theorem lw_p9 : lw_okq (⟨"GrudgeRennet", "hasBottle", "(I)Z"⟩, 9) := ⟨⟨by decide +kernel, by decide +kernel⟩, List.mem_of_getElem? (i := 19) (by decide +kernel), List.mem_of_getElem? (i := 573) (by decide +kernel), List.mem_of_getElem? (i := 574) (by decide +kernel)⟩
theorem lw_p10 : lw_okq (⟨"GrudgeRennet$Outlook", "rowSets", "(LGrudgeRennet$Valley;IIII)Z"⟩, 6) := ⟨⟨by decide +kernel, by decide +kernel⟩, List.mem_of_getElem? (i := 150) (by decide +kernel), List.mem_of_getElem? (i := 608) (by decide +kernel), List.mem_of_getElem? (i := 609) (by decide +kernel)⟩
theorem lw_p11 : lw_okq (⟨"GrudgeRennet$Outlook", "tryDay", "(LGrudgeRennet$Valley;IIII)V"⟩, 6) := ⟨⟨by decide +kernel, by decide +kernel⟩, List.mem_of_getElem? (i := 150) (by decide +kernel), List.mem_of_getElem? (i := 625) (by decide +kernel), List.mem_of_getElem? (i := 626) (by decide +kernel)⟩
theorem lw_p12 : lw_okq (⟨"GrudgeRennet$Outlook", "draw", "(I)I"⟩, 6) := ⟨⟨by decide +kernel, by decide +kernel⟩, List.mem_of_getElem? (i := 150) (by decide +kernel), List.mem_of_getElem? (i := 658) (by decide +kernel), List.mem_of_getElem? (i := 659) (by decide +kernel)⟩
theorem lw_p13 : lw_okq (⟨"GrudgeRennetModel", "faultOf", "()I"⟩, 40) := ⟨⟨by decide +kernel, by decide +kernel⟩, List.mem_of_getElem? (i := 714) (by decide +kernel), List.mem_of_getElem? (i := 857) (by decide +kernel), List.mem_of_getElem? (i := 858) (by decide +kernel)⟩
theorem lw_p14 : lw_okq (⟨"GrudgeRennetModel", "isGood", "(I)Z"⟩, 40) := ⟨⟨by decide +kernel, by decide +kernel⟩, List.mem_of_getElem? (i := 714) (by decide +kernel), List.mem_of_getElem? (i := 861) (by decide +kernel), List.mem_of_getElem? (i := 862) (by decide +kernel)⟩
theorem lw_p15 : lw_okq (⟨"GrudgeRennetModel", "isPersonLetter", "(I)Z"⟩, 40) := ⟨⟨by decide +kernel, by decide +kernel⟩, List.mem_of_getElem? (i := 714) (by decide +kernel), List.mem_of_getElem? (i := 867) (by decide +kernel), List.mem_of_getElem? (i := 868) (by decide +kernel)⟩
def lw_privs_1 : List (MethodName × Nat) := [(⟨"GrudgeRennet$Page", "fitsPails", "(II)Z"⟩, 2), (⟨"GrudgeRennet$Page", "isDigit", "(III)Z"⟩, 2), (⟨"GrudgeRennet$Page", "fitsPeople", "(I)Z"⟩, 2), (⟨"GrudgeRennet$Page", "fitsBehindPeople", "(II)Z"⟩, 2), (⟨"GrudgeRennet$Seen", "allowsPride", "(III)Z"⟩, 4), (⟨"GrudgeRennet", "bottlesFor", "(I)I"⟩, 9), (⟨"GrudgeRennet$Standing", "heldIn", "(I)I"⟩, 11), (⟨"GrudgeRennet", "odds", "(IZ)I"⟩, 9), (⟨"GrudgeRennet$Outlook", "trySlight", "(LGrudgeRennet$Valley;LGrudgeRennet$Standing;I)V"⟩, 6), (⟨"GrudgeRennet", "hasBottle", "(I)Z"⟩, 9), (⟨"GrudgeRennet$Outlook", "rowSets", "(LGrudgeRennet$Valley;IIII)Z"⟩, 6), (⟨"GrudgeRennet$Outlook", "tryDay", "(LGrudgeRennet$Valley;IIII)V"⟩, 6), (⟨"GrudgeRennet$Outlook", "draw", "(I)I"⟩, 6), (⟨"GrudgeRennetModel", "faultOf", "()I"⟩, 40), (⟨"GrudgeRennetModel", "isGood", "(I)Z"⟩, 40), (⟨"GrudgeRennetModel", "isPersonLetter", "(I)Z"⟩, 40)]
theorem lw_r1 : ∀ q ∈ lw_privs_1, lw_okq q := List.forall_mem_cons.mpr ⟨lw_p0, List.forall_mem_cons.mpr ⟨lw_p1, List.forall_mem_cons.mpr ⟨lw_p2, List.forall_mem_cons.mpr ⟨lw_p3, List.forall_mem_cons.mpr ⟨lw_p4, List.forall_mem_cons.mpr ⟨lw_p5, List.forall_mem_cons.mpr ⟨lw_p6, List.forall_mem_cons.mpr ⟨lw_p7, List.forall_mem_cons.mpr ⟨lw_p8, List.forall_mem_cons.mpr ⟨lw_p9, List.forall_mem_cons.mpr ⟨lw_p10, List.forall_mem_cons.mpr ⟨lw_p11, List.forall_mem_cons.mpr ⟨lw_p12, List.forall_mem_cons.mpr ⟨lw_p13, List.forall_mem_cons.mpr ⟨lw_p14, List.forall_mem_cons.mpr ⟨lw_p15, fun _ h => absurd h List.not_mem_nil⟩⟩⟩⟩⟩⟩⟩⟩⟩⟩⟩⟩⟩⟩⟩⟩
theorem lw_p16 : lw_okq (⟨"GrudgeRennetModel", "isPerson", "(I)Z"⟩, 40) := ⟨⟨by decide +kernel, by decide +kernel⟩, List.mem_of_getElem? (i := 714) (by decide +kernel), List.mem_of_getElem? (i := 884) (by decide +kernel), List.mem_of_getElem? (i := 885) (by decide +kernel)⟩
theorem lw_p17 : lw_okq (⟨"GrudgeRennetModel", "tellPerson", "(II)I"⟩, 40) := ⟨⟨by decide +kernel, by decide +kernel⟩, List.mem_of_getElem? (i := 714) (by decide +kernel), List.mem_of_getElem? (i := 888) (by decide +kernel), List.mem_of_getElem? (i := 889) (by decide +kernel)⟩
theorem lw_p18 : lw_okq (⟨"GrudgeRennetModel", "growsOf", "(II)I"⟩, 40) := ⟨⟨by decide +kernel, by decide +kernel⟩, List.mem_of_getElem? (i := 714) (by decide +kernel), List.mem_of_getElem? (i := 894) (by decide +kernel), List.mem_of_getElem? (i := 895) (by decide +kernel)⟩
theorem lw_p19 : lw_okq (⟨"GrudgeRennetModel", "seatOf", "(II)I"⟩, 40) := ⟨⟨by decide +kernel, by decide +kernel⟩, List.mem_of_getElem? (i := 714) (by decide +kernel), List.mem_of_getElem? (i := 904) (by decide +kernel), List.mem_of_getElem? (i := 905) (by decide +kernel)⟩
theorem lw_p20 : lw_okq (⟨"GrudgeRennetModel", "wouldNow", "()I"⟩, 40) := ⟨⟨by decide +kernel, by decide +kernel⟩, List.mem_of_getElem? (i := 714) (by decide +kernel), List.mem_of_getElem? (i := 908) (by decide +kernel), List.mem_of_getElem? (i := 909) (by decide +kernel)⟩
theorem lw_p21 : lw_okq (⟨"GrudgeRennetModel", "wouldOn", "([IZ)I"⟩, 40) := ⟨⟨by decide +kernel, by decide +kernel⟩, List.mem_of_getElem? (i := 714) (by decide +kernel), List.mem_of_getElem? (i := 912) (by decide +kernel), List.mem_of_getElem? (i := 913) (by decide +kernel)⟩
theorem lw_p22 : lw_okq (⟨"GrudgeRennetModel", "forceOn", "([II)I"⟩, 40) := ⟨⟨by decide +kernel, by decide +kernel⟩, List.mem_of_getElem? (i := 714) (by decide +kernel), List.mem_of_getElem? (i := 916) (by decide +kernel), List.mem_of_getElem? (i := 917) (by decide +kernel)⟩
theorem lw_p23 : lw_okq (⟨"GrudgeRennetModel", "dropsAt", "(I)I"⟩, 40) := ⟨⟨by decide +kernel, by decide +kernel⟩, List.mem_of_getElem? (i := 714) (by decide +kernel), List.mem_of_getElem? (i := 926) (by decide +kernel), List.mem_of_getElem? (i := 927) (by decide +kernel)⟩
theorem lw_p24 : lw_okq (⟨"GrudgeRennetModel", "pridesOf", "(I)I"⟩, 40) := ⟨⟨by decide +kernel, by decide +kernel⟩, List.mem_of_getElem? (i := 714) (by decide +kernel), List.mem_of_getElem? (i := 933) (by decide +kernel), List.mem_of_getElem? (i := 934) (by decide +kernel)⟩
theorem lw_p25 : lw_okq (⟨"GrudgeRennetModel", "tryOf", "(I)I"⟩, 40) := ⟨⟨by decide +kernel, by decide +kernel⟩, List.mem_of_getElem? (i := 714) (by decide +kernel), List.mem_of_getElem? (i := 937) (by decide +kernel), List.mem_of_getElem? (i := 938) (by decide +kernel)⟩
theorem lw_p26 : lw_okq (⟨"GrudgeRennetModel", "isPail", "(I)Z"⟩, 40) := ⟨⟨by decide +kernel, by decide +kernel⟩, List.mem_of_getElem? (i := 714) (by decide +kernel), List.mem_of_getElem? (i := 950) (by decide +kernel), List.mem_of_getElem? (i := 951) (by decide +kernel)⟩
theorem lw_p27 : lw_okq (⟨"GrudgeRennetModel", "tellPail", "(II)I"⟩, 40) := ⟨⟨by decide +kernel, by decide +kernel⟩, List.mem_of_getElem? (i := 714) (by decide +kernel), List.mem_of_getElem? (i := 954) (by decide +kernel), List.mem_of_getElem? (i := 955) (by decide +kernel)⟩
theorem lw_p28 : lw_okq (⟨"GrudgeRennetModel", "forceAt", "(I)I"⟩, 40) := ⟨⟨by decide +kernel, by decide +kernel⟩, List.mem_of_getElem? (i := 714) (by decide +kernel), List.mem_of_getElem? (i := 958) (by decide +kernel), List.mem_of_getElem? (i := 959) (by decide +kernel)⟩
theorem lw_p29 : lw_okq (⟨"GrudgeRennetModel", "pourOf", "(I)I"⟩, 40) := ⟨⟨by decide +kernel, by decide +kernel⟩, List.mem_of_getElem? (i := 714) (by decide +kernel), List.mem_of_getElem? (i := 962) (by decide +kernel), List.mem_of_getElem? (i := 963) (by decide +kernel)⟩
theorem lw_p30 : lw_okq (⟨"GrudgeRennetModel", "isOfFull", "(I)Z"⟩, 40) := ⟨⟨by decide +kernel, by decide +kernel⟩, List.mem_of_getElem? (i := 714) (by decide +kernel), List.mem_of_getElem? (i := 966) (by decide +kernel), List.mem_of_getElem? (i := 967) (by decide +kernel)⟩
theorem lw_p31 : lw_okq (⟨"GrudgeRennetModel", "inBottles", "(I)I"⟩, 40) := ⟨⟨by decide +kernel, by decide +kernel⟩, List.mem_of_getElem? (i := 714) (by decide +kernel), List.mem_of_getElem? (i := 970) (by decide +kernel), List.mem_of_getElem? (i := 971) (by decide +kernel)⟩
def lw_privs_2 : List (MethodName × Nat) := [(⟨"GrudgeRennetModel", "isPerson", "(I)Z"⟩, 40), (⟨"GrudgeRennetModel", "tellPerson", "(II)I"⟩, 40), (⟨"GrudgeRennetModel", "growsOf", "(II)I"⟩, 40), (⟨"GrudgeRennetModel", "seatOf", "(II)I"⟩, 40), (⟨"GrudgeRennetModel", "wouldNow", "()I"⟩, 40), (⟨"GrudgeRennetModel", "wouldOn", "([IZ)I"⟩, 40), (⟨"GrudgeRennetModel", "forceOn", "([II)I"⟩, 40), (⟨"GrudgeRennetModel", "dropsAt", "(I)I"⟩, 40), (⟨"GrudgeRennetModel", "pridesOf", "(I)I"⟩, 40), (⟨"GrudgeRennetModel", "tryOf", "(I)I"⟩, 40), (⟨"GrudgeRennetModel", "isPail", "(I)Z"⟩, 40), (⟨"GrudgeRennetModel", "tellPail", "(II)I"⟩, 40), (⟨"GrudgeRennetModel", "forceAt", "(I)I"⟩, 40), (⟨"GrudgeRennetModel", "pourOf", "(I)I"⟩, 40), (⟨"GrudgeRennetModel", "isOfFull", "(I)Z"⟩, 40), (⟨"GrudgeRennetModel", "inBottles", "(I)I"⟩, 40)]
theorem lw_r2 : ∀ q ∈ lw_privs_2, lw_okq q := List.forall_mem_cons.mpr ⟨lw_p16, List.forall_mem_cons.mpr ⟨lw_p17, List.forall_mem_cons.mpr ⟨lw_p18, List.forall_mem_cons.mpr ⟨lw_p19, List.forall_mem_cons.mpr ⟨lw_p20, List.forall_mem_cons.mpr ⟨lw_p21, List.forall_mem_cons.mpr ⟨lw_p22, List.forall_mem_cons.mpr ⟨lw_p23, List.forall_mem_cons.mpr ⟨lw_p24, List.forall_mem_cons.mpr ⟨lw_p25, List.forall_mem_cons.mpr ⟨lw_p26, List.forall_mem_cons.mpr ⟨lw_p27, List.forall_mem_cons.mpr ⟨lw_p28, List.forall_mem_cons.mpr ⟨lw_p29, List.forall_mem_cons.mpr ⟨lw_p30, List.forall_mem_cons.mpr ⟨lw_p31, fun _ h => absurd h List.not_mem_nil⟩⟩⟩⟩⟩⟩⟩⟩⟩⟩⟩⟩⟩⟩⟩⟩
theorem lw_p32 : lw_okq (⟨"GrudgeRennetModel", "oddsOf", "(II)I"⟩, 40) := ⟨⟨by decide +kernel, by decide +kernel⟩, List.mem_of_getElem? (i := 714) (by decide +kernel), List.mem_of_getElem? (i := 974) (by decide +kernel), List.mem_of_getElem? (i := 975) (by decide +kernel)⟩
theorem lw_p33 : lw_okq (⟨"GrudgeRennetModel", "oddsUp", "(I)I"⟩, 40) := ⟨⟨by decide +kernel, by decide +kernel⟩, List.mem_of_getElem? (i := 714) (by decide +kernel), List.mem_of_getElem? (i := 978) (by decide +kernel), List.mem_of_getElem? (i := 979) (by decide +kernel)⟩
theorem lw_p34 : lw_okq (⟨"GrudgeRennetModel", "slightOn", "([II)V"⟩, 40) := ⟨⟨by decide +kernel, by decide +kernel⟩, List.mem_of_getElem? (i := 714) (by decide +kernel), List.mem_of_getElem? (i := 985) (by decide +kernel), List.mem_of_getElem? (i := 986) (by decide +kernel)⟩
theorem lw_p35 : lw_okq (⟨"GrudgeRennetModel", "isPlace", "(I)Z"⟩, 40) := ⟨⟨by decide +kernel, by decide +kernel⟩, List.mem_of_getElem? (i := 714) (by decide +kernel), List.mem_of_getElem? (i := 1005) (by decide +kernel), List.mem_of_getElem? (i := 1006) (by decide +kernel)⟩
theorem lw_p36 : lw_okq (⟨"GrudgeRennetModel", "lacks", "()Z"⟩, 40) := ⟨⟨by decide +kernel, by decide +kernel⟩, List.mem_of_getElem? (i := 714) (by decide +kernel), List.mem_of_getElem? (i := 1009) (by decide +kernel), List.mem_of_getElem? (i := 1010) (by decide +kernel)⟩
theorem lw_p37 : lw_okq (⟨"GrudgeRennetModel", "nightOn", "([I)V"⟩, 40) := ⟨⟨by decide +kernel, by decide +kernel⟩, List.mem_of_getElem? (i := 714) (by decide +kernel), List.mem_of_getElem? (i := 1018) (by decide +kernel), List.mem_of_getElem? (i := 1019) (by decide +kernel)⟩
theorem lw_p38 : lw_okq (⟨"GrudgeRennetModel", "isBottle", "(I)Z"⟩, 40) := ⟨⟨by decide +kernel, by decide +kernel⟩, List.mem_of_getElem? (i := 714) (by decide +kernel), List.mem_of_getElem? (i := 1038) (by decide +kernel), List.mem_of_getElem? (i := 1039) (by decide +kernel)⟩
theorem lw_p39 : lw_okq (⟨"GrudgeRennetModel", "fewOf", "(II)I"⟩, 40) := ⟨⟨by decide +kernel, by decide +kernel⟩, List.mem_of_getElem? (i := 714) (by decide +kernel), List.mem_of_getElem? (i := 1059) (by decide +kernel), List.mem_of_getElem? (i := 1060) (by decide +kernel)⟩
theorem lw_p40 : lw_okq (⟨"GrudgeRennetModel", "layFew", "(I)I"⟩, 40) := ⟨⟨by decide +kernel, by decide +kernel⟩, List.mem_of_getElem? (i := 714) (by decide +kernel), List.mem_of_getElem? (i := 1063) (by decide +kernel), List.mem_of_getElem? (i := 1064) (by decide +kernel)⟩
theorem lw_p41 : lw_okq (⟨"GrudgeRennetModel", "isEnough", "(II)Z"⟩, 40) := ⟨⟨by decide +kernel, by decide +kernel⟩, List.mem_of_getElem? (i := 714) (by decide +kernel), List.mem_of_getElem? (i := 1067) (by decide +kernel), List.mem_of_getElem? (i := 1068) (by decide +kernel)⟩
theorem lw_p42 : lw_okq (⟨"GrudgeRennetModel", "nextRow", "(I)Z"⟩, 40) := ⟨⟨by decide +kernel, by decide +kernel⟩, List.mem_of_getElem? (i := 714) (by decide +kernel), List.mem_of_getElem? (i := 1071) (by decide +kernel), List.mem_of_getElem? (i := 1072) (by decide +kernel)⟩
theorem lw_p43 : lw_okq (⟨"GrudgeRennetModel", "weekOf", "(II)I"⟩, 40) := ⟨⟨by decide +kernel, by decide +kernel⟩, List.mem_of_getElem? (i := 714) (by decide +kernel), List.mem_of_getElem? (i := 1079) (by decide +kernel), List.mem_of_getElem? (i := 1080) (by decide +kernel)⟩
theorem lw_p44 : lw_okq (⟨"GrudgeRennetModel", "settingBy", "(II)I"⟩, 40) := ⟨⟨by decide +kernel, by decide +kernel⟩, List.mem_of_getElem? (i := 714) (by decide +kernel), List.mem_of_getElem? (i := 1083) (by decide +kernel), List.mem_of_getElem? (i := 1084) (by decide +kernel)⟩
theorem lw_p45 : lw_okq (⟨"GrudgeRennetModel", "whoOf", "(I)I"⟩, 40) := ⟨⟨by decide +kernel, by decide +kernel⟩, List.mem_of_getElem? (i := 714) (by decide +kernel), List.mem_of_getElem? (i := 1091) (by decide +kernel), List.mem_of_getElem? (i := 1092) (by decide +kernel)⟩
theorem lw_p46 : lw_okq (⟨"GrudgeRennetModel", "draw", "(I)I"⟩, 40) := ⟨⟨by decide +kernel, by decide +kernel⟩, List.mem_of_getElem? (i := 714) (by decide +kernel), List.mem_of_getElem? (i := 1109) (by decide +kernel), List.mem_of_getElem? (i := 1110) (by decide +kernel)⟩
theorem lw_p47 : lw_okq (⟨"GrudgeRennetModel", "sumPeople", "([I)I"⟩, 40) := ⟨⟨by decide +kernel, by decide +kernel⟩, List.mem_of_getElem? (i := 714) (by decide +kernel), List.mem_of_getElem? (i := 1117) (by decide +kernel), List.mem_of_getElem? (i := 1118) (by decide +kernel)⟩
def lw_privs_3 : List (MethodName × Nat) := [(⟨"GrudgeRennetModel", "oddsOf", "(II)I"⟩, 40), (⟨"GrudgeRennetModel", "oddsUp", "(I)I"⟩, 40), (⟨"GrudgeRennetModel", "slightOn", "([II)V"⟩, 40), (⟨"GrudgeRennetModel", "isPlace", "(I)Z"⟩, 40), (⟨"GrudgeRennetModel", "lacks", "()Z"⟩, 40), (⟨"GrudgeRennetModel", "nightOn", "([I)V"⟩, 40), (⟨"GrudgeRennetModel", "isBottle", "(I)Z"⟩, 40), (⟨"GrudgeRennetModel", "fewOf", "(II)I"⟩, 40), (⟨"GrudgeRennetModel", "layFew", "(I)I"⟩, 40), (⟨"GrudgeRennetModel", "isEnough", "(II)Z"⟩, 40), (⟨"GrudgeRennetModel", "nextRow", "(I)Z"⟩, 40), (⟨"GrudgeRennetModel", "weekOf", "(II)I"⟩, 40), (⟨"GrudgeRennetModel", "settingBy", "(II)I"⟩, 40), (⟨"GrudgeRennetModel", "whoOf", "(I)I"⟩, 40), (⟨"GrudgeRennetModel", "draw", "(I)I"⟩, 40), (⟨"GrudgeRennetModel", "sumPeople", "([I)I"⟩, 40)]
theorem lw_r3 : ∀ q ∈ lw_privs_3, lw_okq q := List.forall_mem_cons.mpr ⟨lw_p32, List.forall_mem_cons.mpr ⟨lw_p33, List.forall_mem_cons.mpr ⟨lw_p34, List.forall_mem_cons.mpr ⟨lw_p35, List.forall_mem_cons.mpr ⟨lw_p36, List.forall_mem_cons.mpr ⟨lw_p37, List.forall_mem_cons.mpr ⟨lw_p38, List.forall_mem_cons.mpr ⟨lw_p39, List.forall_mem_cons.mpr ⟨lw_p40, List.forall_mem_cons.mpr ⟨lw_p41, List.forall_mem_cons.mpr ⟨lw_p42, List.forall_mem_cons.mpr ⟨lw_p43, List.forall_mem_cons.mpr ⟨lw_p44, List.forall_mem_cons.mpr ⟨lw_p45, List.forall_mem_cons.mpr ⟨lw_p46, List.forall_mem_cons.mpr ⟨lw_p47, fun _ h => absurd h List.not_mem_nil⟩⟩⟩⟩⟩⟩⟩⟩⟩⟩⟩⟩⟩⟩⟩⟩
theorem lw_p48 : lw_okq (⟨"GrudgeRennetModel", "countOf", "(I)I"⟩, 40) := ⟨⟨by decide +kernel, by decide +kernel⟩, List.mem_of_getElem? (i := 714) (by decide +kernel), List.mem_of_getElem? (i := 1133) (by decide +kernel), List.mem_of_getElem? (i := 1134) (by decide +kernel)⟩
theorem lw_p49 : lw_okq (⟨"GrudgeRennetModel", "setNow", "()I"⟩, 40) := ⟨⟨by decide +kernel, by decide +kernel⟩, List.mem_of_getElem? (i := 714) (by decide +kernel), List.mem_of_getElem? (i := 1137) (by decide +kernel), List.mem_of_getElem? (i := 1138) (by decide +kernel)⟩
theorem lw_p50 : lw_okq (⟨"GrudgeRennetModel", "fullBottles", "()I"⟩, 40) := ⟨⟨by decide +kernel, by decide +kernel⟩, List.mem_of_getElem? (i := 714) (by decide +kernel), List.mem_of_getElem? (i := 1141) (by decide +kernel), List.mem_of_getElem? (i := 1142) (by decide +kernel)⟩
theorem lw_p51 : lw_okq (⟨"GrudgeRennetModel", "countMore", "(I)I"⟩, 40) := ⟨⟨by decide +kernel, by decide +kernel⟩, List.mem_of_getElem? (i := 714) (by decide +kernel), List.mem_of_getElem? (i := 1145) (by decide +kernel), List.mem_of_getElem? (i := 1146) (by decide +kernel)⟩
theorem lw_p52 : lw_okq (⟨"GrudgeRennetModel", "say", "(J)V"⟩, 40) := ⟨⟨by decide +kernel, by decide +kernel⟩, List.mem_of_getElem? (i := 714) (by decide +kernel), List.mem_of_getElem? (i := 1154) (by decide +kernel), List.mem_of_getElem? (i := 1155) (by decide +kernel)⟩
theorem lw_p53 : lw_okq (⟨"GrudgeRennetModel", "sayValley", "()V"⟩, 40) := ⟨⟨by decide +kernel, by decide +kernel⟩, List.mem_of_getElem? (i := 714) (by decide +kernel), List.mem_of_getElem? (i := 1159) (by decide +kernel), List.mem_of_getElem? (i := 1160) (by decide +kernel)⟩
def lw_privs_4 : List (MethodName × Nat) := [(⟨"GrudgeRennetModel", "countOf", "(I)I"⟩, 40), (⟨"GrudgeRennetModel", "setNow", "()I"⟩, 40), (⟨"GrudgeRennetModel", "fullBottles", "()I"⟩, 40), (⟨"GrudgeRennetModel", "countMore", "(I)I"⟩, 40), (⟨"GrudgeRennetModel", "say", "(J)V"⟩, 40), (⟨"GrudgeRennetModel", "sayValley", "()V"⟩, 40)]
theorem lw_r4 : ∀ q ∈ lw_privs_4, lw_okq q := List.forall_mem_cons.mpr ⟨lw_p48, List.forall_mem_cons.mpr ⟨lw_p49, List.forall_mem_cons.mpr ⟨lw_p50, List.forall_mem_cons.mpr ⟨lw_p51, List.forall_mem_cons.mpr ⟨lw_p52, List.forall_mem_cons.mpr ⟨lw_p53, fun _ h => absurd h List.not_mem_nil⟩⟩⟩⟩⟩⟩
def lw_privs : List (MethodName × Nat) := lw_privs_1 ++ (lw_privs_2 ++ (lw_privs_3 ++ (lw_privs_4)))
def lw_tbl : List Cond := k2_sels lw_privs ++ tables_1
theorem lw_privs_ok : ∀ q ∈ lw_privs, lw_okq q := by
  show ∀ q ∈ lw_privs_1 ++ (lw_privs_2 ++ (lw_privs_3 ++ (lw_privs_4))), lw_okq q
  exact List.forall_mem_append.mpr ⟨lw_r1, List.forall_mem_append.mpr ⟨lw_r2, List.forall_mem_append.mpr ⟨lw_r3, lw_r4⟩⟩⟩
end
section
def RX0 : String := "GrudgeRennet$Outlook"
def TX0 : u_T := fun k => match k with
  | 0 => ("GrudgeRennet$Outlook", "trial", "LGrudgeRennet$Standing;", true)
  | 1 => ("GrudgeRennet$Outlook", "row", "[I", true)
  | 2 => ("GrudgeRennet$Outlook", "bestRow", "[I", true)
  | 3 => ("GrudgeRennet$Outlook", "mornings", "[[I", true)
  | 4 => ("GrudgeRennet$Outlook", "howMany", "I", false)
  | _ => ("GrudgeRennet$Outlook", "seed", "I", false)
def tyX0 : Nat → FieldType := fun k => match k with
  | 0 => .object "GrudgeRennet$Standing"
  | 1 => .array .int
  | 2 => .array .int
  | 3 => .array (.array .int)
  | 4 => .int
  | _ => .int
abbrev wsX00 : List Cond := u_ws RX0 TX0 6
theorem nmX0 : ∀ a, a < 6 → ∀ b, b < 6 → a ≠ b → (TX0 a).2.1 ≠ (TX0 b).2.1 := by decide +kernel
theorem tyX0_ok : ∀ k, k < 6 → parseFieldDescriptor (TX0 k).2.2.1 = some (tyX0 k) := by decide +kernel
abbrev cX0_init : ByteArray := prog_2_method_1_code
def yX0_init : MethodName := ⟨RX0, "<init>", "()V"⟩
abbrev cX0_findSeat : ByteArray := prog_2_method_2_code
def yX0_findSeat : MethodName := ⟨RX0, "findSeat", "(LGrudgeRennet$Valley;LGrudgeRennet$Standing;I)I"⟩
abbrev cX0_trySlight : ByteArray := prog_2_method_3_code
def yX0_trySlight : MethodName := ⟨RX0, "trySlight", "(LGrudgeRennet$Valley;LGrudgeRennet$Standing;I)V"⟩
abbrev cX0_slightsThatSet : ByteArray := prog_2_method_4_code
def yX0_slightsThatSet : MethodName := ⟨RX0, "slightsThatSet", "(LGrudgeRennet$Valley;LGrudgeRennet$Standing;I)I"⟩
abbrev cX0_slightsThatSetJust : ByteArray := prog_2_method_5_code
def yX0_slightsThatSetJust : MethodName := ⟨RX0, "slightsThatSetJust", "(LGrudgeRennet$Valley;LGrudgeRennet$Standing;I)I"⟩
abbrev cX0_findFew : ByteArray := prog_2_method_6_code
def yX0_findFew : MethodName := ⟨RX0, "findFew", "(LGrudgeRennet$Valley;LGrudgeRennet$Standing;I)V"⟩
abbrev cX0_rowSets : ByteArray := prog_2_method_7_code
def yX0_rowSets : MethodName := ⟨RX0, "rowSets", "(LGrudgeRennet$Valley;IIII)Z"⟩
abbrev cX0_findWeek : ByteArray := prog_2_method_8_code
def yX0_findWeek : MethodName := ⟨RX0, "findWeek", "(LGrudgeRennet$Valley;LGrudgeRennet$Standing;I)V"⟩
abbrev cX0_tryDay : ByteArray := prog_2_method_9_code
def yX0_tryDay : MethodName := ⟨RX0, "tryDay", "(LGrudgeRennet$Valley;IIII)V"⟩
abbrev cX0_tell : ByteArray := prog_2_method_10_code
def yX0_tell : MethodName := ⟨RX0, "tell", "(II)I"⟩
abbrev cX0_runWeeks : ByteArray := prog_2_method_11_code
def yX0_runWeeks : MethodName := ⟨RX0, "runWeeks", "(LGrudgeRennet$Valley;LGrudgeRennet$Standing;II)V"⟩
abbrev cX0_draw : ByteArray := prog_2_method_12_code
def yX0_draw : MethodName := ⟨RX0, "draw", "(I)I"⟩
def RX1 : String := "GrudgeRennet$Page"
def TX1 : u_T := fun k => match k with
  | 0 => ("GrudgeRennet$Page", "codes", "[I", true)
  | _ => ("GrudgeRennet$Page", "size", "I", false)
def tyX1 : Nat → FieldType := fun k => match k with
  | 0 => .array .int
  | _ => .int
abbrev wsX10 : List Cond := u_ws RX1 TX1 2
theorem nmX1 : ∀ a, a < 2 → ∀ b, b < 2 → a ≠ b → (TX1 a).2.1 ≠ (TX1 b).2.1 := by decide +kernel
theorem tyX1_ok : ∀ k, k < 2 → parseFieldDescriptor (TX1 k).2.2.1 = some (tyX1 k) := by decide +kernel
abbrev cX1_init : ByteArray := prog_3_method_1_code
def yX1_init : MethodName := ⟨RX1, "<init>", "()V"⟩
abbrev cX1_add : ByteArray := prog_3_method_2_code
def yX1_add : MethodName := ⟨RX1, "add", "(I)V"⟩
abbrev cX1_clear : ByteArray := prog_3_method_3_code
def yX1_clear : MethodName := ⟨RX1, "clear", "()I"⟩
abbrev cX1_codeAt : ByteArray := prog_3_method_4_code
def yX1_codeAt : MethodName := ⟨RX1, "codeAt", "(I)I"⟩
abbrev cX1_digitAt : ByteArray := prog_3_method_5_code
def yX1_digitAt : MethodName := ⟨RX1, "digitAt", "(I)I"⟩
abbrev cX1_firstFault : ByteArray := prog_3_method_6_code
def yX1_firstFault : MethodName := ⟨RX1, "firstFault", "()I"⟩
abbrev cX1_isValley : ByteArray := prog_3_method_7_code
def yX1_isValley : MethodName := ⟨RX1, "isValley", "()Z"⟩
abbrev cX1_markPlace : ByteArray := prog_3_method_8_code
def yX1_markPlace : MethodName := ⟨RX1, "markPlace", "()I"⟩
abbrev cX1_fitsPeople : ByteArray := prog_3_method_9_code
def yX1_fitsPeople : MethodName := ⟨RX1, "fitsPeople", "(I)Z"⟩
abbrev cX1_fitsBehindPeople : ByteArray := prog_3_method_10_code
def yX1_fitsBehindPeople : MethodName := ⟨RX1, "fitsBehindPeople", "(II)Z"⟩
abbrev cX1_fitsPails : ByteArray := prog_3_method_11_code
def yX1_fitsPails : MethodName := ⟨RX1, "fitsPails", "(II)Z"⟩
abbrev cX1_isDigit : ByteArray := prog_3_method_12_code
def yX1_isDigit : MethodName := ⟨RX1, "isDigit", "(III)Z"⟩
def RX2 : String := "GrudgeRennet$Seen"
def TX2 : u_T := fun k => match k with
  | 0 => ("GrudgeRennet$Seen", "who", "[I", true)
  | 1 => ("GrudgeRennet$Seen", "how", "[I", true)
  | 2 => ("GrudgeRennet$Seen", "by", "[I", true)
  | _ => ("GrudgeRennet$Seen", "size", "I", false)
def tyX2 : Nat → FieldType := fun k => match k with
  | 0 => .array .int
  | 1 => .array .int
  | 2 => .array .int
  | _ => .int
abbrev wsX20 : List Cond := u_ws RX2 TX2 4
theorem nmX2 : ∀ a, a < 4 → ∀ b, b < 4 → a ≠ b → (TX2 a).2.1 ≠ (TX2 b).2.1 := by decide +kernel
theorem tyX2_ok : ∀ k, k < 4 → parseFieldDescriptor (TX2 k).2.2.1 = some (tyX2 k) := by decide +kernel
abbrev cX2_init : ByteArray := prog_4_method_1_code
def yX2_init : MethodName := ⟨RX2, "<init>", "()V"⟩
abbrev cX2_add : ByteArray := prog_4_method_2_code
def yX2_add : MethodName := ⟨RX2, "add", "(III)V"⟩
abbrev cX2_copyFrom : ByteArray := prog_4_method_3_code
def yX2_copyFrom : MethodName := ⟨RX2, "copyFrom", "(LGrudgeRennet$Seen;)V"⟩
abbrev cX2_prides : ByteArray := prog_4_method_4_code
def yX2_prides : MethodName := ⟨RX2, "prides", "(II)I"⟩
abbrev cX2_allowsPride : ByteArray := prog_4_method_5_code
def yX2_allowsPride : MethodName := ⟨RX2, "allowsPride", "(III)Z"⟩
def RX3 : String := "GrudgeRennet$Standing"
def TX3 : u_T := fun k => match k with
  | 0 => ("GrudgeRennet$Standing", "grudges", "[I", true)
  | 1 => ("GrudgeRennet$Standing", "places", "[I", true)
  | 2 => ("GrudgeRennet$Standing", "slighted", "[I", true)
  | 3 => ("GrudgeRennet$Standing", "bottles", "[I", true)
  | 4 => ("GrudgeRennet$Standing", "drops", "[I", true)
  | 5 => ("GrudgeRennet$Standing", "dropPlaces", "[I", true)
  | 6 => ("GrudgeRennet$Standing", "seen", "LGrudgeRennet$Seen;", true)
  | 7 => ("GrudgeRennet$Standing", "dropCount", "I", false)
  | 8 => ("GrudgeRennet$Standing", "setBits", "I", false)
  | 9 => ("GrudgeRennet$Standing", "nights", "I", false)
  | _ => ("GrudgeRennet$Standing", "setTimes", "I", false)
def tyX3 : Nat → FieldType := fun k => match k with
  | 0 => .array .int
  | 1 => .array .int
  | 2 => .array .int
  | 3 => .array .int
  | 4 => .array .int
  | 5 => .array .int
  | 6 => .object "GrudgeRennet$Seen"
  | 7 => .int
  | 8 => .int
  | 9 => .int
  | _ => .int
abbrev wsX30 : List Cond := u_ws RX3 TX3 11
theorem nmX3 : ∀ a, a < 11 → ∀ b, b < 11 → a ≠ b → (TX3 a).2.1 ≠ (TX3 b).2.1 := by decide +kernel
theorem tyX3_ok : ∀ k, k < 11 → parseFieldDescriptor (TX3 k).2.2.1 = some (tyX3 k) := by decide +kernel
abbrev cX3_init : ByteArray := prog_5_method_1_code
def yX3_init : MethodName := ⟨RX3, "<init>", "()V"⟩
abbrev cX3_clear : ByteArray := prog_5_method_2_code
def yX3_clear : MethodName := ⟨RX3, "clear", "()V"⟩
abbrev cX3_copyFrom : ByteArray := prog_5_method_3_code
def yX3_copyFrom : MethodName := ⟨RX3, "copyFrom", "(LGrudgeRennet$Standing;)V"⟩
abbrev cX3_copyForcesFrom : ByteArray := prog_5_method_4_code
def yX3_copyForcesFrom : MethodName := ⟨RX3, "copyForcesFrom", "(LGrudgeRennet$Standing;)V"⟩
abbrev cX3_addDrop : ByteArray := prog_5_method_5_code
def yX3_addDrop : MethodName := ⟨RX3, "addDrop", "(II)V"⟩
abbrev cX3_isSet : ByteArray := prog_5_method_6_code
def yX3_isSet : MethodName := ⟨RX3, "isSet", "(I)Z"⟩
abbrev cX3_forceAt : ByteArray := prog_5_method_7_code
def yX3_forceAt : MethodName := ⟨RX3, "forceAt", "(I)I"⟩
abbrev cX3_reach : ByteArray := prog_5_method_8_code
def yX3_reach : MethodName := ⟨RX3, "reach", "(III)I"⟩
abbrev cX3_allGrudges : ByteArray := prog_5_method_9_code
def yX3_allGrudges : MethodName := ⟨RX3, "allGrudges", "()I"⟩
abbrev cX3_allSlights : ByteArray := prog_5_method_10_code
def yX3_allSlights : MethodName := ⟨RX3, "allSlights", "()I"⟩
abbrev cX3_sumOf : ByteArray := prog_5_method_11_code
def yX3_sumOf : MethodName := ⟨RX3, "sumOf", "([I)I"⟩
abbrev cX3_fullBottles : ByteArray := prog_5_method_12_code
def yX3_fullBottles : MethodName := ⟨RX3, "fullBottles", "()I"⟩
abbrev cX3_bottlesWorth : ByteArray := prog_5_method_13_code
def yX3_bottlesWorth : MethodName := ⟨RX3, "bottlesWorth", "(I)I"⟩
abbrev cX3_heldIn : ByteArray := prog_5_method_14_code
def yX3_heldIn : MethodName := ⟨RX3, "heldIn", "(I)I"⟩
def RX4 : String := "GrudgeRennet$Temper"
def TX4 : u_T := fun k => match k with
  | _ => ("", "", "", false)
def tyX4 : Nat → FieldType := fun k => match k with
  | _ => .int
abbrev wsX40 : List Cond := u_ws RX4 TX4 0
theorem nmX4 : ∀ a, a < 0 → ∀ b, b < 0 → a ≠ b → (TX4 a).2.1 ≠ (TX4 b).2.1 := by decide +kernel
theorem tyX4_ok : ∀ k, k < 0 → parseFieldDescriptor (TX4 k).2.2.1 = some (tyX4 k) := by decide +kernel
abbrev cX4_isOf : ByteArray := prog_6_method_2_code
def yX4_isOf : MethodName := ⟨RX4, "isOf", "(II)Z"⟩
abbrev cX4_growthFromNone : ByteArray := prog_6_method_3_code
def yX4_growthFromNone : MethodName := ⟨RX4, "growthFromNone", "(III)I"⟩
abbrev cX4_overnight : ByteArray := prog_6_method_4_code
def yX4_overnight : MethodName := ⟨RX4, "overnight", "(II)I"⟩
abbrev cX4_bestTry : ByteArray := prog_6_method_5_code
def yX4_bestTry : MethodName := ⟨RX4, "bestTry", "(II)I"⟩
abbrev cX4_mostLeft : ByteArray := prog_6_method_6_code
def yX4_mostLeft : MethodName := ⟨RX4, "mostLeft", "(III)I"⟩
abbrev cX4_likeOnes : ByteArray := prog_6_method_7_code
def yX4_likeOnes : MethodName := ⟨RX4, "likeOnes", "(IIII)I"⟩
abbrev cX4_hasPride : ByteArray := prog_6_method_8_code
def yX4_hasPride : MethodName := ⟨RX4, "hasPride", "(II)Z"⟩
def RX5 : String := "GrudgeRennet$Valley"
def TX5 : u_T := fun k => match k with
  | 0 => ("GrudgeRennet$Valley", "kinds", "[I", true)
  | 1 => ("GrudgeRennet$Valley", "prides", "[I", true)
  | 2 => ("GrudgeRennet$Valley", "growths", "[I", true)
  | 3 => ("GrudgeRennet$Valley", "wants", "[I", true)
  | 4 => ("GrudgeRennet$Valley", "people", "I", false)
  | _ => ("GrudgeRennet$Valley", "pails", "I", false)
def tyX5 : Nat → FieldType := fun k => match k with
  | 0 => .array .int
  | 1 => .array .int
  | 2 => .array .int
  | 3 => .array .int
  | 4 => .int
  | _ => .int
abbrev wsX50 : List Cond := u_ws RX5 TX5 6
theorem nmX5 : ∀ a, a < 6 → ∀ b, b < 6 → a ≠ b → (TX5 a).2.1 ≠ (TX5 b).2.1 := by decide +kernel
theorem tyX5_ok : ∀ k, k < 6 → parseFieldDescriptor (TX5 k).2.2.1 = some (tyX5 k) := by decide +kernel
abbrev cX5_init : ByteArray := prog_7_method_1_code
def yX5_init : MethodName := ⟨RX5, "<init>", "()V"⟩
abbrev cX5_read : ByteArray := prog_7_method_2_code
def yX5_read : MethodName := ⟨RX5, "read", "(LGrudgeRennet$Page;LGrudgeRennet$Standing;)V"⟩
abbrev cX5_isThere : ByteArray := prog_7_method_3_code
def yX5_isThere : MethodName := ⟨RX5, "isThere", "()Z"⟩
abbrev cX5_hasPerson : ByteArray := prog_7_method_4_code
def yX5_hasPerson : MethodName := ⟨RX5, "hasPerson", "(I)Z"⟩
abbrev cX5_hasPail : ByteArray := prog_7_method_5_code
def yX5_hasPail : MethodName := ⟨RX5, "hasPail", "(I)Z"⟩
abbrev cX5_arePails : ByteArray := prog_7_method_6_code
def yX5_arePails : MethodName := ⟨RX5, "arePails", "(I)Z"⟩
abbrev cX5_slightNumbers : ByteArray := prog_7_method_7_code
def yX5_slightNumbers : MethodName := ⟨RX5, "slightNumbers", "()I"⟩
abbrev cX5_hasSlight : ByteArray := prog_7_method_8_code
def yX5_hasSlight : MethodName := ⟨RX5, "hasSlight", "(I)Z"⟩
abbrev cX5_growth : ByteArray := prog_7_method_9_code
def yX5_growth : MethodName := ⟨RX5, "growth", "(LGrudgeRennet$Standing;I)I"⟩
abbrev cX5_offend : ByteArray := prog_7_method_10_code
def yX5_offend : MethodName := ⟨RX5, "offend", "(LGrudgeRennet$Standing;I)V"⟩
abbrev cX5_passNight : ByteArray := prog_7_method_11_code
def yX5_passNight : MethodName := ⟨RX5, "passNight", "(LGrudgeRennet$Standing;)V"⟩
abbrev cX5_wouldSet : ByteArray := prog_7_method_12_code
def yX5_wouldSet : MethodName := ⟨RX5, "wouldSet", "(LGrudgeRennet$Standing;I)Z"⟩
abbrev cX5_allThatWouldSet : ByteArray := prog_7_method_13_code
def yX5_allThatWouldSet : MethodName := ⟨RX5, "allThatWouldSet", "(LGrudgeRennet$Standing;)I"⟩
def RX6 : String := "GrudgeRennet"
def TX6 : u_T := fun k => match k with
  | 0 => ("GrudgeRennet", "page", "LGrudgeRennet$Page;", true)
  | 1 => ("GrudgeRennet", "valley", "LGrudgeRennet$Valley;", true)
  | 2 => ("GrudgeRennet", "now", "LGrudgeRennet$Standing;", true)
  | 3 => ("GrudgeRennet", "kept", "LGrudgeRennet$Standing;", true)
  | 4 => ("GrudgeRennet", "outlook", "LGrudgeRennet$Outlook;", true)
  | 5 => ("GrudgeRennet", "hasKept", "Z", false)
  | 6 => ("GrudgeRennet", "valleysRead", "I", false)
  | 7 => ("GrudgeRennet", "fewDone", "I", false)
  | _ => ("GrudgeRennet", "weekDone", "I", false)
def tyX6 : Nat → FieldType := fun k => match k with
  | 0 => .object "GrudgeRennet$Page"
  | 1 => .object "GrudgeRennet$Valley"
  | 2 => .object "GrudgeRennet$Standing"
  | 3 => .object "GrudgeRennet$Standing"
  | 4 => .object "GrudgeRennet$Outlook"
  | 5 => .boolean
  | 6 => .int
  | 7 => .int
  | _ => .int
abbrev wsX60 : List Cond := u_ws RX6 TX6 9
theorem nmX6 : ∀ a, a < 9 → ∀ b, b < 9 → a ≠ b → (TX6 a).2.1 ≠ (TX6 b).2.1 := by decide +kernel
theorem tyX6_ok : ∀ k, k < 9 → parseFieldDescriptor (TX6 k).2.2.1 = some (tyX6 k) := by decide +kernel
abbrev cX6_init : ByteArray := prog_1_method_1_code
def yX6_init : MethodName := ⟨RX6, "<init>", "()V"⟩
abbrev cX6_letter : ByteArray := prog_1_method_2_code
def yX6_letter : MethodName := ⟨RX6, "letter", "(I)I"⟩
abbrev cX6_blank : ByteArray := prog_1_method_3_code
def yX6_blank : MethodName := ⟨RX6, "blank", "()I"⟩
abbrev cX6_fault : ByteArray := prog_1_method_4_code
def yX6_fault : MethodName := ⟨RX6, "fault", "()I"⟩
abbrev cX6_valley : ByteArray := prog_1_method_5_code
def yX6_valley : MethodName := ⟨RX6, "valley", "()I"⟩
abbrev cX6_person : ByteArray := prog_1_method_6_code
def yX6_person : MethodName := ⟨RX6, "person", "(II)I"⟩
abbrev cX6_as : ByteArray := prog_1_method_7_code
def yX6_as : MethodName := ⟨RX6, "as", "(II)I"⟩
abbrev cX6_pail : ByteArray := prog_1_method_8_code
def yX6_pail : MethodName := ⟨RX6, "pail", "(II)I"⟩
abbrev cX6_slight : ByteArray := prog_1_method_9_code
def yX6_slight : MethodName := ⟨RX6, "slight", "(II)I"⟩
abbrev cX6_soothe : ByteArray := prog_1_method_10_code
def yX6_soothe : MethodName := ⟨RX6, "soothe", "(I)I"⟩
abbrev cX6_sit : ByteArray := prog_1_method_11_code
def yX6_sit : MethodName := ⟨RX6, "sit", "(II)I"⟩
abbrev cX6_night : ByteArray := prog_1_method_12_code
def yX6_night : MethodName := ⟨RX6, "night", "()I"⟩
abbrev cX6_curdle : ByteArray := prog_1_method_13_code
def yX6_curdle : MethodName := ⟨RX6, "curdle", "()I"⟩
abbrev cX6_fresh : ByteArray := prog_1_method_14_code
def yX6_fresh : MethodName := ⟨RX6, "fresh", "(I)I"⟩
abbrev cX6_force : ByteArray := prog_1_method_15_code
def yX6_force : MethodName := ⟨RX6, "force", "(I)I"⟩
abbrev cX6_keep : ByteArray := prog_1_method_16_code
def yX6_keep : MethodName := ⟨RX6, "keep", "(II)I"⟩
abbrev cX6_pour : ByteArray := prog_1_method_17_code
def yX6_pour : MethodName := ⟨RX6, "pour", "(II)I"⟩
abbrev cX6_bottle : ByteArray := prog_1_method_18_code
def yX6_bottle : MethodName := ⟨RX6, "bottle", "(I)I"⟩
abbrev cX6_would : ByteArray := prog_1_method_19_code
def yX6_would : MethodName := ⟨RX6, "would", "()I"⟩
abbrev cX6_few : ByteArray := prog_1_method_20_code
def yX6_few : MethodName := ⟨RX6, "few", "(II)I"⟩
abbrev cX6_week : ByteArray := prog_1_method_21_code
def yX6_week : MethodName := ⟨RX6, "week", "(II)I"⟩
abbrev cX6_who : ByteArray := prog_1_method_22_code
def yX6_who : MethodName := ⟨RX6, "who", "(I)I"⟩
abbrev cX6_see : ByteArray := prog_1_method_23_code
def yX6_see : MethodName := ⟨RX6, "see", "(III)I"⟩
abbrev cX6_forget : ByteArray := prog_1_method_24_code
def yX6_forget : MethodName := ⟨RX6, "forget", "()I"⟩
abbrev cX6_weeks : ByteArray := prog_1_method_25_code
def yX6_weeks : MethodName := ⟨RX6, "weeks", "(III)I"⟩
abbrev cX6_image : ByteArray := prog_1_method_26_code
def yX6_image : MethodName := ⟨RX6, "image", "()I"⟩
abbrev cX6_restore : ByteArray := prog_1_method_27_code
def yX6_restore : MethodName := ⟨RX6, "restore", "()I"⟩
abbrev cX6_count : ByteArray := prog_1_method_28_code
def yX6_count : MethodName := ⟨RX6, "count", "(I)I"⟩
abbrev cX6_digest : ByteArray := prog_1_method_29_code
def yX6_digest : MethodName := ⟨RX6, "digest", "()J"⟩
abbrev cX6_isSlight : ByteArray := prog_1_method_30_code
def yX6_isSlight : MethodName := ⟨RX6, "isSlight", "(I)Z"⟩
abbrev cX6_isPlace : ByteArray := prog_1_method_31_code
def yX6_isPlace : MethodName := ⟨RX6, "isPlace", "(I)Z"⟩
abbrev cX6_isRowPlace : ByteArray := prog_1_method_32_code
def yX6_isRowPlace : MethodName := ⟨RX6, "isRowPlace", "(I)Z"⟩
abbrev cX6_isRowTell : ByteArray := prog_1_method_33_code
def yX6_isRowTell : MethodName := ⟨RX6, "isRowTell", "(I)Z"⟩
abbrev cX6_hasBottle : ByteArray := prog_1_method_34_code
def yX6_hasBottle : MethodName := ⟨RX6, "hasBottle", "(I)Z"⟩
abbrev cX6_bottlesFor : ByteArray := prog_1_method_35_code
def yX6_bottlesFor : MethodName := ⟨RX6, "bottlesFor", "(I)I"⟩
abbrev cX6_odds : ByteArray := prog_1_method_36_code
def yX6_odds : MethodName := ⟨RX6, "odds", "(IZ)I"⟩
abbrev cX6_commonDivisor : ByteArray := prog_1_method_37_code
def yX6_commonDivisor : MethodName := ⟨RX6, "commonDivisor", "(II)I"⟩
def RX7 : String := "GrudgeRennetModel"
def TX7 : u_T := fun k => match k with
  | 0 => ("GrudgeRennetModel", "page", "[I", true)
  | 1 => ("GrudgeRennetModel", "pageMany", "I", false)
  | 2 => ("GrudgeRennetModel", "endAt", "I", false)
  | 3 => ("GrudgeRennetModel", "people", "I", false)
  | 4 => ("GrudgeRennetModel", "pails", "I", false)
  | 5 => ("GrudgeRennetModel", "nights", "I", false)
  | 6 => ("GrudgeRennetModel", "slights", "I", false)
  | 7 => ("GrudgeRennetModel", "setAll", "I", false)
  | 8 => ("GrudgeRennetModel", "pouredMany", "I", false)
  | 9 => ("GrudgeRennetModel", "valleysRead", "I", false)
  | 10 => ("GrudgeRennetModel", "rows", "[I", true)
  | 11 => ("GrudgeRennetModel", "places", "[I", true)
  | 12 => ("GrudgeRennetModel", "grudges", "[I", true)
  | 13 => ("GrudgeRennetModel", "wants", "[I", true)
  | 14 => ("GrudgeRennetModel", "isSet", "[I", true)
  | 15 => ("GrudgeRennetModel", "bottles", "[I", true)
  | 16 => ("GrudgeRennetModel", "poured", "[I", true)
  | 17 => ("GrudgeRennetModel", "work", "[I", true)
  | 18 => ("GrudgeRennetModel", "fewsDone", "I", false)
  | 19 => ("GrudgeRennetModel", "row", "[I", true)
  | 20 => ("GrudgeRennetModel", "best", "[I", true)
  | 21 => ("GrudgeRennetModel", "weeksDone", "I", false)
  | 22 => ("GrudgeRennetModel", "seenMany", "I", false)
  | 23 => ("GrudgeRennetModel", "sights", "[I", true)
  | 24 => ("GrudgeRennetModel", "parts", "[I", true)
  | 25 => ("GrudgeRennetModel", "seedNow", "I", false)
  | 26 => ("GrudgeRennetModel", "keptValley", "I", false)
  | 27 => ("GrudgeRennetModel", "keptNights", "I", false)
  | 28 => ("GrudgeRennetModel", "keptSlights", "I", false)
  | 29 => ("GrudgeRennetModel", "keptSetAll", "I", false)
  | 30 => ("GrudgeRennetModel", "keptPouredMany", "I", false)
  | 31 => ("GrudgeRennetModel", "keptSeen", "I", false)
  | 32 => ("GrudgeRennetModel", "keptRows", "[I", true)
  | 33 => ("GrudgeRennetModel", "keptPlaces", "[I", true)
  | 34 => ("GrudgeRennetModel", "keptGrudges", "[I", true)
  | 35 => ("GrudgeRennetModel", "keptIsSet", "[I", true)
  | 36 => ("GrudgeRennetModel", "keptBottles", "[I", true)
  | 37 => ("GrudgeRennetModel", "keptPoured", "[I", true)
  | 38 => ("GrudgeRennetModel", "keptSights", "[I", true)
  | _ => ("GrudgeRennetModel", "hash", "J", false)
def tyX7 : Nat → FieldType := fun k => match k with
  | 0 => .array .int
  | 1 => .int
  | 2 => .int
  | 3 => .int
  | 4 => .int
  | 5 => .int
  | 6 => .int
  | 7 => .int
  | 8 => .int
  | 9 => .int
  | 10 => .array .int
  | 11 => .array .int
  | 12 => .array .int
  | 13 => .array .int
  | 14 => .array .int
  | 15 => .array .int
  | 16 => .array .int
  | 17 => .array .int
  | 18 => .int
  | 19 => .array .int
  | 20 => .array .int
  | 21 => .int
  | 22 => .int
  | 23 => .array .int
  | 24 => .array .int
  | 25 => .int
  | 26 => .int
  | 27 => .int
  | 28 => .int
  | 29 => .int
  | 30 => .int
  | 31 => .int
  | 32 => .array .int
  | 33 => .array .int
  | 34 => .array .int
  | 35 => .array .int
  | 36 => .array .int
  | 37 => .array .int
  | 38 => .array .int
  | _ => .long
abbrev wsX70 : List Cond := u_ws RX7 TX7 40
theorem nmX7 : ∀ a, a < 40 → ∀ b, b < 40 → a ≠ b → (TX7 a).2.1 ≠ (TX7 b).2.1 := by decide +kernel
theorem tyX7_ok : ∀ k, k < 40 → parseFieldDescriptor (TX7 k).2.2.1 = some (tyX7 k) := by decide +kernel
abbrev cX7_init : ByteArray := prog_9_method_1_code
def yX7_init : MethodName := ⟨RX7, "<init>", "()V"⟩
abbrev cX7_in : ByteArray := prog_9_method_2_code
def yX7_in : MethodName := ⟨RX7, "in", "(JJJ)Z"⟩
abbrev cX7_copy : ByteArray := prog_9_method_3_code
def yX7_copy : MethodName := ⟨RX7, "copy", "([I[I)V"⟩
abbrev cX7_ones : ByteArray := prog_9_method_4_code
def yX7_ones : MethodName := ⟨RX7, "ones", "(I)I"⟩
abbrev cX7_common : ByteArray := prog_9_method_5_code
def yX7_common : MethodName := ⟨RX7, "common", "(II)I"⟩
abbrev cX7_apart : ByteArray := prog_9_method_6_code
def yX7_apart : MethodName := ⟨RX7, "apart", "(II)I"⟩
abbrev cX7_letter : ByteArray := prog_9_method_7_code
def yX7_letter : MethodName := ⟨RX7, "letter", "(I)I"⟩
abbrev cX7_blank : ByteArray := prog_9_method_8_code
def yX7_blank : MethodName := ⟨RX7, "blank", "()I"⟩
abbrev cX7_kindBy : ByteArray := prog_9_method_9_code
def yX7_kindBy : MethodName := ⟨RX7, "kindBy", "(I)I"⟩
abbrev cX7_isPersonLetter : ByteArray := prog_9_method_10_code
def yX7_isPersonLetter : MethodName := ⟨RX7, "isPersonLetter", "(I)Z"⟩
abbrev cX7_isGood : ByteArray := prog_9_method_11_code
def yX7_isGood : MethodName := ⟨RX7, "isGood", "(I)Z"⟩
abbrev cX7_faultOf : ByteArray := prog_9_method_12_code
def yX7_faultOf : MethodName := ⟨RX7, "faultOf", "()I"⟩
abbrev cX7_fault : ByteArray := prog_9_method_13_code
def yX7_fault : MethodName := ⟨RX7, "fault", "()I"⟩
abbrev cX7_valley : ByteArray := prog_9_method_14_code
def yX7_valley : MethodName := ⟨RX7, "valley", "()I"⟩
abbrev cX7_lacks : ByteArray := prog_9_method_15_code
def yX7_lacks : MethodName := ⟨RX7, "lacks", "()Z"⟩
abbrev cX7_isPerson : ByteArray := prog_9_method_16_code
def yX7_isPerson : MethodName := ⟨RX7, "isPerson", "(I)Z"⟩
abbrev cX7_isPail : ByteArray := prog_9_method_17_code
def yX7_isPail : MethodName := ⟨RX7, "isPail", "(I)Z"⟩
abbrev cX7_isPlace : ByteArray := prog_9_method_18_code
def yX7_isPlace : MethodName := ⟨RX7, "isPlace", "(I)Z"⟩
abbrev cX7_isBottle : ByteArray := prog_9_method_19_code
def yX7_isBottle : MethodName := ⟨RX7, "isBottle", "(I)Z"⟩
abbrev cX7_grievedBy : ByteArray := prog_9_method_20_code
def yX7_grievedBy : MethodName := ⟨RX7, "grievedBy", "(III)I"⟩
abbrev cX7_topped : ByteArray := prog_9_method_21_code
def yX7_topped : MethodName := ⟨RX7, "topped", "(I)I"⟩
abbrev cX7_slightOn : ByteArray := prog_9_method_22_code
def yX7_slightOn : MethodName := ⟨RX7, "slightOn", "([II)V"⟩
abbrev cX7_nightOn : ByteArray := prog_9_method_23_code
def yX7_nightOn : MethodName := ⟨RX7, "nightOn", "([I)V"⟩
abbrev cX7_forceBy : ByteArray := prog_9_method_24_code
def yX7_forceBy : MethodName := ⟨RX7, "forceBy", "(II)I"⟩
abbrev cX7_dropsAt : ByteArray := prog_9_method_25_code
def yX7_dropsAt : MethodName := ⟨RX7, "dropsAt", "(I)I"⟩
abbrev cX7_forceOn : ByteArray := prog_9_method_26_code
def yX7_forceOn : MethodName := ⟨RX7, "forceOn", "([II)I"⟩
abbrev cX7_forceAt : ByteArray := prog_9_method_27_code
def yX7_forceAt : MethodName := ⟨RX7, "forceAt", "(I)I"⟩
abbrev cX7_wouldOn : ByteArray := prog_9_method_28_code
def yX7_wouldOn : MethodName := ⟨RX7, "wouldOn", "([IZ)I"⟩
abbrev cX7_wouldNow : ByteArray := prog_9_method_29_code
def yX7_wouldNow : MethodName := ⟨RX7, "wouldNow", "()I"⟩
abbrev cX7_seatOf : ByteArray := prog_9_method_30_code
def yX7_seatOf : MethodName := ⟨RX7, "seatOf", "(II)I"⟩
abbrev cX7_growsOf : ByteArray := prog_9_method_31_code
def yX7_growsOf : MethodName := ⟨RX7, "growsOf", "(II)I"⟩
abbrev cX7_tellPerson : ByteArray := prog_9_method_32_code
def yX7_tellPerson : MethodName := ⟨RX7, "tellPerson", "(II)I"⟩
abbrev cX7_person : ByteArray := prog_9_method_33_code
def yX7_person : MethodName := ⟨RX7, "person", "(II)I"⟩
abbrev cX7_as : ByteArray := prog_9_method_34_code
def yX7_as : MethodName := ⟨RX7, "as", "(II)I"⟩
abbrev cX7_inBottles : ByteArray := prog_9_method_35_code
def yX7_inBottles : MethodName := ⟨RX7, "inBottles", "(I)I"⟩
abbrev cX7_isOfFull : ByteArray := prog_9_method_36_code
def yX7_isOfFull : MethodName := ⟨RX7, "isOfFull", "(I)Z"⟩
abbrev cX7_pourOf : ByteArray := prog_9_method_37_code
def yX7_pourOf : MethodName := ⟨RX7, "pourOf", "(I)I"⟩
abbrev cX7_oddsUp : ByteArray := prog_9_method_38_code
def yX7_oddsUp : MethodName := ⟨RX7, "oddsUp", "(I)I"⟩
abbrev cX7_oddsOf : ByteArray := prog_9_method_39_code
def yX7_oddsOf : MethodName := ⟨RX7, "oddsOf", "(II)I"⟩
abbrev cX7_tellPail : ByteArray := prog_9_method_40_code
def yX7_tellPail : MethodName := ⟨RX7, "tellPail", "(II)I"⟩
abbrev cX7_pail : ByteArray := prog_9_method_41_code
def yX7_pail : MethodName := ⟨RX7, "pail", "(II)I"⟩
abbrev cX7_slight : ByteArray := prog_9_method_42_code
def yX7_slight : MethodName := ⟨RX7, "slight", "(II)I"⟩
abbrev cX7_soothe : ByteArray := prog_9_method_43_code
def yX7_soothe : MethodName := ⟨RX7, "soothe", "(I)I"⟩
abbrev cX7_sit : ByteArray := prog_9_method_44_code
def yX7_sit : MethodName := ⟨RX7, "sit", "(II)I"⟩
abbrev cX7_night : ByteArray := prog_9_method_45_code
def yX7_night : MethodName := ⟨RX7, "night", "()I"⟩
abbrev cX7_curdle : ByteArray := prog_9_method_46_code
def yX7_curdle : MethodName := ⟨RX7, "curdle", "()I"⟩
abbrev cX7_fresh : ByteArray := prog_9_method_47_code
def yX7_fresh : MethodName := ⟨RX7, "fresh", "(I)I"⟩
abbrev cX7_force : ByteArray := prog_9_method_48_code
def yX7_force : MethodName := ⟨RX7, "force", "(I)I"⟩
abbrev cX7_keep : ByteArray := prog_9_method_49_code
def yX7_keep : MethodName := ⟨RX7, "keep", "(II)I"⟩
abbrev cX7_pour : ByteArray := prog_9_method_50_code
def yX7_pour : MethodName := ⟨RX7, "pour", "(II)I"⟩
abbrev cX7_bottle : ByteArray := prog_9_method_51_code
def yX7_bottle : MethodName := ⟨RX7, "bottle", "(I)I"⟩
abbrev cX7_would : ByteArray := prog_9_method_52_code
def yX7_would : MethodName := ⟨RX7, "would", "()I"⟩
abbrev cX7_isEnough : ByteArray := prog_9_method_53_code
def yX7_isEnough : MethodName := ⟨RX7, "isEnough", "(II)Z"⟩
abbrev cX7_nextRow : ByteArray := prog_9_method_54_code
def yX7_nextRow : MethodName := ⟨RX7, "nextRow", "(I)Z"⟩
abbrev cX7_layFew : ByteArray := prog_9_method_55_code
def yX7_layFew : MethodName := ⟨RX7, "layFew", "(I)I"⟩
abbrev cX7_fewOf : ByteArray := prog_9_method_56_code
def yX7_fewOf : MethodName := ⟨RX7, "fewOf", "(II)I"⟩
abbrev cX7_few : ByteArray := prog_9_method_57_code
def yX7_few : MethodName := ⟨RX7, "few", "(II)I"⟩
abbrev cX7_settingBy : ByteArray := prog_9_method_58_code
def yX7_settingBy : MethodName := ⟨RX7, "settingBy", "(II)I"⟩
abbrev cX7_weekOf : ByteArray := prog_9_method_59_code
def yX7_weekOf : MethodName := ⟨RX7, "weekOf", "(II)I"⟩
abbrev cX7_week : ByteArray := prog_9_method_60_code
def yX7_week : MethodName := ⟨RX7, "week", "(II)I"⟩
abbrev cX7_whoOf : ByteArray := prog_9_method_61_code
def yX7_whoOf : MethodName := ⟨RX7, "whoOf", "(I)I"⟩
abbrev cX7_who : ByteArray := prog_9_method_62_code
def yX7_who : MethodName := ⟨RX7, "who", "(I)I"⟩
abbrev cX7_see : ByteArray := prog_9_method_63_code
def yX7_see : MethodName := ⟨RX7, "see", "(III)I"⟩
abbrev cX7_forget : ByteArray := prog_9_method_64_code
def yX7_forget : MethodName := ⟨RX7, "forget", "()I"⟩
abbrev cX7_pridesOf : ByteArray := prog_9_method_65_code
def yX7_pridesOf : MethodName := ⟨RX7, "pridesOf", "(I)I"⟩
abbrev cX7_tryOf : ByteArray := prog_9_method_66_code
def yX7_tryOf : MethodName := ⟨RX7, "tryOf", "(I)I"⟩
abbrev cX7_draw : ByteArray := prog_9_method_67_code
def yX7_draw : MethodName := ⟨RX7, "draw", "(I)I"⟩
abbrev cX7_weeks : ByteArray := prog_9_method_68_code
def yX7_weeks : MethodName := ⟨RX7, "weeks", "(III)I"⟩
abbrev cX7_image : ByteArray := prog_9_method_69_code
def yX7_image : MethodName := ⟨RX7, "image", "()I"⟩
abbrev cX7_restore : ByteArray := prog_9_method_70_code
def yX7_restore : MethodName := ⟨RX7, "restore", "()I"⟩
abbrev cX7_sumPeople : ByteArray := prog_9_method_71_code
def yX7_sumPeople : MethodName := ⟨RX7, "sumPeople", "([I)I"⟩
abbrev cX7_setNow : ByteArray := prog_9_method_72_code
def yX7_setNow : MethodName := ⟨RX7, "setNow", "()I"⟩
abbrev cX7_fullBottles : ByteArray := prog_9_method_73_code
def yX7_fullBottles : MethodName := ⟨RX7, "fullBottles", "()I"⟩
abbrev cX7_countOf : ByteArray := prog_9_method_74_code
def yX7_countOf : MethodName := ⟨RX7, "countOf", "(I)I"⟩
abbrev cX7_countMore : ByteArray := prog_9_method_75_code
def yX7_countMore : MethodName := ⟨RX7, "countMore", "(I)I"⟩
abbrev cX7_count : ByteArray := prog_9_method_76_code
def yX7_count : MethodName := ⟨RX7, "count", "(I)I"⟩
abbrev cX7_say : ByteArray := prog_9_method_77_code
def yX7_say : MethodName := ⟨RX7, "say", "(J)V"⟩
abbrev cX7_sayValley : ByteArray := prog_9_method_78_code
def yX7_sayValley : MethodName := ⟨RX7, "sayValley", "()V"⟩
abbrev cX7_digest : ByteArray := prog_9_method_79_code
def yX7_digest : MethodName := ⟨RX7, "digest", "()J"⟩
def RJx145de : String := "java/io/Serializable"
def TJx145de : u_T := fun k => match k with
  | _ => ("", "", "", false)
def tyJx145de : Nat → FieldType := fun k => match k with
  | _ => .int
abbrev wsJx145de0 : List Cond := u_ws RJx145de TJx145de 0
theorem nmJx145de : ∀ a, a < 0 → ∀ b, b < 0 → a ≠ b → (TJx145de a).2.1 ≠ (TJx145de b).2.1 := by decide +kernel
theorem tyJx145de_ok : ∀ k, k < 0 → parseFieldDescriptor (TJx145de k).2.2.1 = some (tyJx145de k) := by decide +kernel
def RJx9f9b0 : String := "java/lang/CharSequence"
def TJx9f9b0 : u_T := fun k => match k with
  | _ => ("", "", "", false)
def tyJx9f9b0 : Nat → FieldType := fun k => match k with
  | _ => .int
abbrev wsJx9f9b00 : List Cond := u_ws RJx9f9b0 TJx9f9b0 0
theorem nmJx9f9b0 : ∀ a, a < 0 → ∀ b, b < 0 → a ≠ b → (TJx9f9b0 a).2.1 ≠ (TJx9f9b0 b).2.1 := by decide +kernel
theorem tyJx9f9b0_ok : ∀ k, k < 0 → parseFieldDescriptor (TJx9f9b0 k).2.2.1 = some (tyJx9f9b0 k) := by decide +kernel
def RJ11 : String := "java/lang/Character"
def TJ11 : u_T := fun k => match k with
  | _ => ("", "", "", false)
def tyJ11 : Nat → FieldType := fun k => match k with
  | _ => .int
abbrev wsJ110 : List Cond := u_ws RJ11 TJ11 0
theorem nmJ11 : ∀ a, a < 0 → ∀ b, b < 0 → a ≠ b → (TJ11 a).2.1 ≠ (TJ11 b).2.1 := by decide +kernel
theorem tyJ11_ok : ∀ k, k < 0 → parseFieldDescriptor (TJ11 k).2.2.1 = some (tyJ11 k) := by decide +kernel
abbrev cJ11_isValidCodePoint_9a6ad : ByteArray := prog_10_method_11_code
def yJ11_isValidCodePoint_9a6ad : MethodName := ⟨RJ11, "isValidCodePoint", "(I)Z"⟩
abbrev cJ11_highSurrogate_5068e : ByteArray := prog_10_method_28_code
def yJ11_highSurrogate_5068e : MethodName := ⟨RJ11, "highSurrogate", "(I)C"⟩
abbrev cJ11_lowSurrogate_5068e : ByteArray := prog_10_method_29_code
def yJ11_lowSurrogate_5068e : MethodName := ⟨RJ11, "lowSurrogate", "(I)C"⟩
def RJxb160c : String := "java/lang/Comparable"
def TJxb160c : u_T := fun k => match k with
  | _ => ("", "", "", false)
def tyJxb160c : Nat → FieldType := fun k => match k with
  | _ => .int
abbrev wsJxb160c0 : List Cond := u_ws RJxb160c TJxb160c 0
theorem nmJxb160c : ∀ a, a < 0 → ∀ b, b < 0 → a ≠ b → (TJxb160c a).2.1 ≠ (TJxb160c b).2.1 := by decide +kernel
theorem tyJxb160c_ok : ∀ k, k < 0 → parseFieldDescriptor (TJxb160c k).2.2.1 = some (tyJxb160c k) := by decide +kernel
def RJ6 : String := "java/lang/Integer"
def TJ6 : u_T := fun k => match k with
  | _ => ("", "", "", false)
def tyJ6 : Nat → FieldType := fun k => match k with
  | _ => .int
abbrev wsJ60 : List Cond := u_ws RJ6 TJ6 0
theorem nmJ6 : ∀ a, a < 0 → ∀ b, b < 0 → a ≠ b → (TJ6 a).2.1 ≠ (TJ6 b).2.1 := by decide +kernel
theorem tyJ6_ok : ∀ k, k < 0 → parseFieldDescriptor (TJ6 k).2.2.1 = some (tyJ6 k) := by decide +kernel
abbrev cJ6_bitCount_0f7a4 : ByteArray := prog_11_method_49_code
def yJ6_bitCount_0f7a4 : MethodName := ⟨RJ6, "bitCount", "(I)I"⟩
def RJ9 : String := "java/lang/Math"
def TJ9 : u_T := fun k => match k with
  | _ => ("", "", "", false)
def tyJ9 : Nat → FieldType := fun k => match k with
  | _ => .int
abbrev wsJ90 : List Cond := u_ws RJ9 TJ9 0
theorem nmJ9 : ∀ a, a < 0 → ∀ b, b < 0 → a ≠ b → (TJ9 a).2.1 ≠ (TJ9 b).2.1 := by decide +kernel
theorem tyJ9_ok : ∀ k, k < 0 → parseFieldDescriptor (TJ9 k).2.2.1 = some (tyJ9 k) := by decide +kernel
abbrev cJ9_max_7cf53 : ByteArray := prog_12_method_65_code
def yJ9_max_7cf53 : MethodName := ⟨RJ9, "max", "(II)I"⟩
abbrev cJ9_min_7cf53 : ByteArray := prog_12_method_69_code
def yJ9_min_7cf53 : MethodName := ⟨RJ9, "min", "(II)I"⟩
def RJ0 : String := "java/lang/String"
def TJ0 : u_T := fun k => match k with
  | _ => ("", "", "", false)
def tyJ0 : Nat → FieldType := fun k => match k with
  | _ => .int
abbrev wsJ00 : List Cond := u_ws RJ0 TJ0 0
theorem nmJ0 : ∀ a, a < 0 → ∀ b, b < 0 → a ≠ b → (TJ0 a).2.1 ≠ (TJ0 b).2.1 := by decide +kernel
theorem tyJ0_ok : ∀ k, k < 0 → parseFieldDescriptor (TJ0 k).2.2.1 = some (tyJ0 k) := by decide +kernel
abbrev cJ0_length_8abf5 : ByteArray := prog_13_method_54_code
def yJ0_length_8abf5 : MethodName := ⟨RJ0, "length", "()I"⟩
abbrev cJ0_indexOf_0f7a4 : ByteArray := prog_13_method_79_code
def yJ0_indexOf_0f7a4 : MethodName := ⟨RJ0, "indexOf", "(I)I"⟩
abbrev cJ0_indexOf_7cf53 : ByteArray := prog_13_method_80_code
def yJ0_indexOf_7cf53 : MethodName := ⟨RJ0, "indexOf", "(II)I"⟩
abbrev cJ0_coder_7d493 : ByteArray := prog_13_method_152_code
def yJ0_coder_7d493 : MethodName := ⟨RJ0, "coder", "()B"⟩
abbrev cJ0_isLatin1_aae02 : ByteArray := prog_13_method_154_code
def yJ0_isLatin1_aae02 : MethodName := ⟨RJ0, "isLatin1", "()Z"⟩
abbrev cJ0_checkBoundsBeginEnd_23922 : ByteArray := prog_13_method_158_code
def yJ0_checkBoundsBeginEnd_23922 : MethodName := ⟨RJ0, "checkBoundsBeginEnd", "(III)V"⟩
def RJ1 : String := "java/lang/StringLatin1"
def TJ1 : u_T := fun k => match k with
  | _ => ("", "", "", false)
def tyJ1 : Nat → FieldType := fun k => match k with
  | _ => .int
abbrev wsJ10 : List Cond := u_ws RJ1 TJ1 0
theorem nmJ1 : ∀ a, a < 0 → ∀ b, b < 0 → a ≠ b → (TJ1 a).2.1 ≠ (TJ1 b).2.1 := by decide +kernel
theorem tyJ1_ok : ∀ k, k < 0 → parseFieldDescriptor (TJ1 k).2.2.1 = some (tyJ1 k) := by decide +kernel
abbrev cJ1_canEncode_9a6ad : ByteArray := prog_14_method_4_code
def yJ1_canEncode_9a6ad : MethodName := ⟨RJ1, "canEncode", "(I)Z"⟩
abbrev cJ1_indexOf_4cfef : ByteArray := prog_14_method_22_code
def yJ1_indexOf_4cfef : MethodName := ⟨RJ1, "indexOf", "([BIII)I"⟩
abbrev cJ1_indexOfChar_4cfef : ByteArray := prog_14_method_23_code
def yJ1_indexOfChar_4cfef : MethodName := ⟨RJ1, "indexOfChar", "([BIII)I"⟩
def RJ2 : String := "java/lang/StringUTF16"
def TJ2 : u_T := fun k => match k with
  | _ => ("", "", "", false)
def tyJ2 : Nat → FieldType := fun k => match k with
  | _ => .int
abbrev wsJ20 : List Cond := u_ws RJ2 TJ2 0
theorem nmJ2 : ∀ a, a < 0 → ∀ b, b < 0 → a ≠ b → (TJ2 a).2.1 ≠ (TJ2 b).2.1 := by decide +kernel
theorem tyJ2_ok : ∀ k, k < 0 → parseFieldDescriptor (TJ2 k).2.2.1 = some (tyJ2 k) := by decide +kernel
abbrev cJ2_getChar_3b067 : ByteArray := prog_15_method_5_code
def yJ2_getChar_3b067 : MethodName := ⟨RJ2, "getChar", "([BI)C"⟩
abbrev cJ2_length_9d52b : ByteArray := prog_15_method_6_code
def yJ2_length_9d52b : MethodName := ⟨RJ2, "length", "([B)I"⟩
abbrev cJ2_indexOf_4cfef : ByteArray := prog_15_method_40_code
def yJ2_indexOf_4cfef : MethodName := ⟨RJ2, "indexOf", "([BIII)I"⟩
abbrev cJ2_indexOfChar_4cfef : ByteArray := prog_15_method_47_code
def yJ2_indexOfChar_4cfef : MethodName := ⟨RJ2, "indexOfChar", "([BIII)I"⟩
abbrev cJ2_indexOfCharUnsafe_4cfef : ByteArray := prog_15_method_48_code
def yJ2_indexOfCharUnsafe_4cfef : MethodName := ⟨RJ2, "indexOfCharUnsafe", "([BIII)I"⟩
abbrev cJ2_indexOfSupplementary_4cfef : ByteArray := prog_15_method_49_code
def yJ2_indexOfSupplementary_4cfef : MethodName := ⟨RJ2, "indexOfSupplementary", "([BIII)I"⟩
abbrev cJ2_checkBoundsBeginEnd_d044e : ByteArray := prog_15_method_93_code
def yJ2_checkBoundsBeginEnd_d044e : MethodName := ⟨RJ2, "checkBoundsBeginEnd", "(II[B)V"⟩
def RJ10 : String := "java/lang/System"
def TJ10 : u_T := fun k => match k with
  | _ => ("", "", "", false)
def tyJ10 : Nat → FieldType := fun k => match k with
  | _ => .int
abbrev wsJ100 : List Cond := u_ws RJ10 TJ10 0
theorem nmJ10 : ∀ a, a < 0 → ∀ b, b < 0 → a ≠ b → (TJ10 a).2.1 ≠ (TJ10 b).2.1 := by decide +kernel
theorem tyJ10_ok : ∀ k, k < 0 → parseFieldDescriptor (TJ10 k).2.2.1 = some (tyJ10 k) := by decide +kernel
def RJxfd54e : String := "java/lang/constant/Constable"
def TJxfd54e : u_T := fun k => match k with
  | _ => ("", "", "", false)
def tyJxfd54e : Nat → FieldType := fun k => match k with
  | _ => .int
abbrev wsJxfd54e0 : List Cond := u_ws RJxfd54e TJxfd54e 0
theorem nmJxfd54e : ∀ a, a < 0 → ∀ b, b < 0 → a ≠ b → (TJxfd54e a).2.1 ≠ (TJxfd54e b).2.1 := by decide +kernel
theorem tyJxfd54e_ok : ∀ k, k < 0 → parseFieldDescriptor (TJxfd54e k).2.2.1 = some (tyJxfd54e k) := by decide +kernel
def RJx3cf43 : String := "java/lang/constant/ConstantDesc"
def TJx3cf43 : u_T := fun k => match k with
  | _ => ("", "", "", false)
def tyJx3cf43 : Nat → FieldType := fun k => match k with
  | _ => .int
abbrev wsJx3cf430 : List Cond := u_ws RJx3cf43 TJx3cf43 0
theorem nmJx3cf43 : ∀ a, a < 0 → ∀ b, b < 0 → a ≠ b → (TJx3cf43 a).2.1 ≠ (TJx3cf43 b).2.1 := by decide +kernel
theorem tyJx3cf43_ok : ∀ k, k < 0 → parseFieldDescriptor (TJx3cf43 k).2.2.1 = some (tyJx3cf43 k) := by decide +kernel
def RJ7 : String := "java/util/Arrays"
def TJ7 : u_T := fun k => match k with
  | _ => ("", "", "", false)
def tyJ7 : Nat → FieldType := fun k => match k with
  | _ => .int
abbrev wsJ70 : List Cond := u_ws RJ7 TJ7 0
theorem nmJ7 : ∀ a, a < 0 → ∀ b, b < 0 → a ≠ b → (TJ7 a).2.1 ≠ (TJ7 b).2.1 := by decide +kernel
theorem tyJ7_ok : ∀ k, k < 0 → parseFieldDescriptor (TJ7 k).2.2.1 = some (tyJ7 k) := by decide +kernel
abbrev cJ7_fill_53178 : ByteArray := prog_17_method_103_code
def yJ7_fill_53178 : MethodName := ⟨RJ7, "fill", "([II)V"⟩
def RJ3 : String := "jdk/internal/util/Preconditions"
def TJ3 : u_T := fun k => match k with
  | _ => ("", "", "", false)
def tyJ3 : Nat → FieldType := fun k => match k with
  | _ => .int
abbrev wsJ30 : List Cond := u_ws RJ3 TJ3 0
theorem nmJ3 : ∀ a, a < 0 → ∀ b, b < 0 → a ≠ b → (TJ3 a).2.1 ≠ (TJ3 b).2.1 := by decide +kernel
theorem tyJ3_ok : ∀ k, k < 0 → parseFieldDescriptor (TJ3 k).2.2.1 = some (tyJ3 k) := by decide +kernel
abbrev cJ3_checkFromToIndex_8c36e : ByteArray := prog_18_method_12_code
def yJ3_checkFromToIndex_8c36e : MethodName := ⟨RJ3, "checkFromToIndex", "(IIILjava/util/function/BiFunction;)I"⟩
def RL : String := "GrudgeRennetLaw"
abbrev cL_law : ByteArray := code
def yL_law : MethodName := ⟨RL, "law", "([I)Z"⟩
abbrev vwCl : List vw_C := [(RX0, TX0, 6), (RX1, TX1, 2), (RX2, TX2, 4), (RX3, TX3, 11), (RX5, TX5, 6), (RX6, TX6, 9), (RX7, TX7, 40)]
end
section
theorem dJ11_isValidCodePoint_9a6ad_0 : decode cJ11_isValidCodePoint_9a6ad 0 = .ok (.iload_n 0, 1) := by decide +kernel
theorem dJ11_isValidCodePoint_9a6ad_1 : decode cJ11_isValidCodePoint_9a6ad 1 = .ok (.bipush 16, 2) := by decide +kernel
theorem dJ11_isValidCodePoint_9a6ad_3 : decode cJ11_isValidCodePoint_9a6ad 3 = .ok (.iushr, 1) := by decide +kernel
theorem dJ11_isValidCodePoint_9a6ad_4 : decode cJ11_isValidCodePoint_9a6ad 4 = .ok (.istore_n 1, 1) := by decide +kernel
theorem dJ11_isValidCodePoint_9a6ad_5 : decode cJ11_isValidCodePoint_9a6ad 5 = .ok (.iload_n 1, 1) := by decide +kernel
theorem dJ11_isValidCodePoint_9a6ad_6 : decode cJ11_isValidCodePoint_9a6ad 6 = .ok (.bipush 17, 2) := by decide +kernel
theorem dJ11_isValidCodePoint_9a6ad_8 : decode cJ11_isValidCodePoint_9a6ad 8 = .ok (.if_icmp .ge 7, 3) := by decide +kernel
theorem dJ11_isValidCodePoint_9a6ad_11 : decode cJ11_isValidCodePoint_9a6ad 11 = .ok (.iconst 1, 1) := by decide +kernel
theorem dJ11_isValidCodePoint_9a6ad_12 : decode cJ11_isValidCodePoint_9a6ad 12 = .ok (.goto 4, 3) := by decide +kernel
theorem dJ11_isValidCodePoint_9a6ad_15 : decode cJ11_isValidCodePoint_9a6ad 15 = .ok (.iconst 0, 1) := by decide +kernel
theorem dJ11_isValidCodePoint_9a6ad_16 : decode cJ11_isValidCodePoint_9a6ad 16 = .ok (.ireturn, 1) := by decide +kernel
theorem dJ11_highSurrogate_5068e_0 : decode cJ11_highSurrogate_5068e 0 = .ok (.iload_n 0, 1) := by decide +kernel
theorem dJ11_highSurrogate_5068e_1 : decode cJ11_highSurrogate_5068e 1 = .ok (.bipush 10, 2) := by decide +kernel
theorem dJ11_highSurrogate_5068e_3 : decode cJ11_highSurrogate_5068e 3 = .ok (.iushr, 1) := by decide +kernel
theorem dJ11_highSurrogate_5068e_4 : decode cJ11_highSurrogate_5068e 4 = .ok (.ldc 110, 2) := by decide +kernel
theorem dJ11_highSurrogate_5068e_6 : decode cJ11_highSurrogate_5068e 6 = .ok (.iadd, 1) := by decide +kernel
theorem dJ11_highSurrogate_5068e_7 : decode cJ11_highSurrogate_5068e 7 = .ok (.i2c, 1) := by decide +kernel
theorem dJ11_highSurrogate_5068e_8 : decode cJ11_highSurrogate_5068e 8 = .ok (.ireturn, 1) := by decide +kernel
theorem dJ11_lowSurrogate_5068e_0 : decode cJ11_lowSurrogate_5068e 0 = .ok (.iload_n 0, 1) := by decide +kernel
theorem dJ11_lowSurrogate_5068e_1 : decode cJ11_lowSurrogate_5068e 1 = .ok (.sipush 1023, 3) := by decide +kernel
theorem dJ11_lowSurrogate_5068e_4 : decode cJ11_lowSurrogate_5068e 4 = .ok (.iand, 1) := by decide +kernel
theorem dJ11_lowSurrogate_5068e_5 : decode cJ11_lowSurrogate_5068e 5 = .ok (.ldc 76, 2) := by decide +kernel
theorem dJ11_lowSurrogate_5068e_7 : decode cJ11_lowSurrogate_5068e 7 = .ok (.iadd, 1) := by decide +kernel
theorem dJ11_lowSurrogate_5068e_8 : decode cJ11_lowSurrogate_5068e 8 = .ok (.i2c, 1) := by decide +kernel
theorem dJ11_lowSurrogate_5068e_9 : decode cJ11_lowSurrogate_5068e 9 = .ok (.ireturn, 1) := by decide +kernel
theorem dJ6_bitCount_0f7a4_0 : decode cJ6_bitCount_0f7a4 0 = .ok (.iload_n 0, 1) := by decide +kernel
theorem dJ6_bitCount_0f7a4_1 : decode cJ6_bitCount_0f7a4 1 = .ok (.iload_n 0, 1) := by decide +kernel
theorem dJ6_bitCount_0f7a4_2 : decode cJ6_bitCount_0f7a4 2 = .ok (.iconst 1, 1) := by decide +kernel
theorem dJ6_bitCount_0f7a4_3 : decode cJ6_bitCount_0f7a4 3 = .ok (.iushr, 1) := by decide +kernel
theorem dJ6_bitCount_0f7a4_4 : decode cJ6_bitCount_0f7a4 4 = .ok (.ldc_w 265, 3) := by decide +kernel
theorem dJ6_bitCount_0f7a4_7 : decode cJ6_bitCount_0f7a4 7 = .ok (.iand, 1) := by decide +kernel
theorem dJ6_bitCount_0f7a4_8 : decode cJ6_bitCount_0f7a4 8 = .ok (.isub, 1) := by decide +kernel
theorem dJ6_bitCount_0f7a4_9 : decode cJ6_bitCount_0f7a4 9 = .ok (.istore_n 0, 1) := by decide +kernel
theorem dJ6_bitCount_0f7a4_10 : decode cJ6_bitCount_0f7a4 10 = .ok (.iload_n 0, 1) := by decide +kernel
theorem dJ6_bitCount_0f7a4_11 : decode cJ6_bitCount_0f7a4 11 = .ok (.ldc_w 266, 3) := by decide +kernel
theorem dJ6_bitCount_0f7a4_14 : decode cJ6_bitCount_0f7a4 14 = .ok (.iand, 1) := by decide +kernel
theorem dJ6_bitCount_0f7a4_15 : decode cJ6_bitCount_0f7a4 15 = .ok (.iload_n 0, 1) := by decide +kernel
theorem dJ6_bitCount_0f7a4_16 : decode cJ6_bitCount_0f7a4 16 = .ok (.iconst 2, 1) := by decide +kernel
theorem dJ6_bitCount_0f7a4_17 : decode cJ6_bitCount_0f7a4 17 = .ok (.iushr, 1) := by decide +kernel
theorem dJ6_bitCount_0f7a4_18 : decode cJ6_bitCount_0f7a4 18 = .ok (.ldc_w 266, 3) := by decide +kernel
theorem dJ6_bitCount_0f7a4_21 : decode cJ6_bitCount_0f7a4 21 = .ok (.iand, 1) := by decide +kernel
theorem dJ6_bitCount_0f7a4_22 : decode cJ6_bitCount_0f7a4 22 = .ok (.iadd, 1) := by decide +kernel
theorem dJ6_bitCount_0f7a4_23 : decode cJ6_bitCount_0f7a4 23 = .ok (.istore_n 0, 1) := by decide +kernel
theorem dJ6_bitCount_0f7a4_24 : decode cJ6_bitCount_0f7a4 24 = .ok (.iload_n 0, 1) := by decide +kernel
theorem dJ6_bitCount_0f7a4_25 : decode cJ6_bitCount_0f7a4 25 = .ok (.iload_n 0, 1) := by decide +kernel
theorem dJ6_bitCount_0f7a4_26 : decode cJ6_bitCount_0f7a4 26 = .ok (.iconst 4, 1) := by decide +kernel
theorem dJ6_bitCount_0f7a4_27 : decode cJ6_bitCount_0f7a4 27 = .ok (.iushr, 1) := by decide +kernel
theorem dJ6_bitCount_0f7a4_28 : decode cJ6_bitCount_0f7a4 28 = .ok (.iadd, 1) := by decide +kernel
theorem dJ6_bitCount_0f7a4_29 : decode cJ6_bitCount_0f7a4 29 = .ok (.ldc_w 267, 3) := by decide +kernel
theorem dJ6_bitCount_0f7a4_32 : decode cJ6_bitCount_0f7a4 32 = .ok (.iand, 1) := by decide +kernel
theorem dJ6_bitCount_0f7a4_33 : decode cJ6_bitCount_0f7a4 33 = .ok (.istore_n 0, 1) := by decide +kernel
theorem dJ6_bitCount_0f7a4_34 : decode cJ6_bitCount_0f7a4 34 = .ok (.iload_n 0, 1) := by decide +kernel
theorem dJ6_bitCount_0f7a4_35 : decode cJ6_bitCount_0f7a4 35 = .ok (.iload_n 0, 1) := by decide +kernel
theorem dJ6_bitCount_0f7a4_36 : decode cJ6_bitCount_0f7a4 36 = .ok (.bipush 8, 2) := by decide +kernel
theorem dJ6_bitCount_0f7a4_38 : decode cJ6_bitCount_0f7a4 38 = .ok (.iushr, 1) := by decide +kernel
theorem dJ6_bitCount_0f7a4_39 : decode cJ6_bitCount_0f7a4 39 = .ok (.iadd, 1) := by decide +kernel
theorem dJ6_bitCount_0f7a4_40 : decode cJ6_bitCount_0f7a4 40 = .ok (.istore_n 0, 1) := by decide +kernel
theorem dJ6_bitCount_0f7a4_41 : decode cJ6_bitCount_0f7a4 41 = .ok (.iload_n 0, 1) := by decide +kernel
theorem dJ6_bitCount_0f7a4_42 : decode cJ6_bitCount_0f7a4 42 = .ok (.iload_n 0, 1) := by decide +kernel
theorem dJ6_bitCount_0f7a4_43 : decode cJ6_bitCount_0f7a4 43 = .ok (.bipush 16, 2) := by decide +kernel
theorem dJ6_bitCount_0f7a4_45 : decode cJ6_bitCount_0f7a4 45 = .ok (.iushr, 1) := by decide +kernel
theorem dJ6_bitCount_0f7a4_46 : decode cJ6_bitCount_0f7a4 46 = .ok (.iadd, 1) := by decide +kernel
theorem dJ6_bitCount_0f7a4_47 : decode cJ6_bitCount_0f7a4 47 = .ok (.istore_n 0, 1) := by decide +kernel
theorem dJ6_bitCount_0f7a4_48 : decode cJ6_bitCount_0f7a4 48 = .ok (.iload_n 0, 1) := by decide +kernel
theorem dJ6_bitCount_0f7a4_49 : decode cJ6_bitCount_0f7a4 49 = .ok (.bipush 63, 2) := by decide +kernel
theorem dJ6_bitCount_0f7a4_51 : decode cJ6_bitCount_0f7a4 51 = .ok (.iand, 1) := by decide +kernel
theorem dJ6_bitCount_0f7a4_52 : decode cJ6_bitCount_0f7a4 52 = .ok (.ireturn, 1) := by decide +kernel
theorem dJ9_max_7cf53_0 : decode cJ9_max_7cf53 0 = .ok (.iload_n 0, 1) := by decide +kernel
theorem dJ9_max_7cf53_1 : decode cJ9_max_7cf53 1 = .ok (.iload_n 1, 1) := by decide +kernel
theorem dJ9_max_7cf53_2 : decode cJ9_max_7cf53 2 = .ok (.if_icmp .lt 7, 3) := by decide +kernel
theorem dJ9_max_7cf53_5 : decode cJ9_max_7cf53 5 = .ok (.iload_n 0, 1) := by decide +kernel
theorem dJ9_max_7cf53_6 : decode cJ9_max_7cf53 6 = .ok (.goto 4, 3) := by decide +kernel
theorem dJ9_max_7cf53_9 : decode cJ9_max_7cf53 9 = .ok (.iload_n 1, 1) := by decide +kernel
theorem dJ9_max_7cf53_10 : decode cJ9_max_7cf53 10 = .ok (.ireturn, 1) := by decide +kernel
theorem dJ9_min_7cf53_0 : decode cJ9_min_7cf53 0 = .ok (.iload_n 0, 1) := by decide +kernel
theorem dJ9_min_7cf53_1 : decode cJ9_min_7cf53 1 = .ok (.iload_n 1, 1) := by decide +kernel
theorem dJ9_min_7cf53_2 : decode cJ9_min_7cf53 2 = .ok (.if_icmp .gt 7, 3) := by decide +kernel
theorem dJ9_min_7cf53_5 : decode cJ9_min_7cf53 5 = .ok (.iload_n 0, 1) := by decide +kernel
theorem dJ9_min_7cf53_6 : decode cJ9_min_7cf53 6 = .ok (.goto 4, 3) := by decide +kernel
theorem dJ9_min_7cf53_9 : decode cJ9_min_7cf53 9 = .ok (.iload_n 1, 1) := by decide +kernel
theorem dJ9_min_7cf53_10 : decode cJ9_min_7cf53 10 = .ok (.ireturn, 1) := by decide +kernel
theorem dJ0_length_8abf5_0 : decode cJ0_length_8abf5 0 = .ok (.aload_n 0, 1) := by decide +kernel
theorem dJ0_length_8abf5_1 : decode cJ0_length_8abf5 1 = .ok (.getfield 9, 3) := by decide +kernel
theorem dJ0_length_8abf5_4 : decode cJ0_length_8abf5 4 = .ok (.arraylength, 1) := by decide +kernel
theorem dJ0_length_8abf5_5 : decode cJ0_length_8abf5 5 = .ok (.aload_n 0, 1) := by decide +kernel
theorem dJ0_length_8abf5_6 : decode cJ0_length_8abf5 6 = .ok (.invokevirtual 335, 3) := by decide +kernel
theorem dJ0_length_8abf5_9 : decode cJ0_length_8abf5 9 = .ok (.ishr, 1) := by decide +kernel
theorem dJ0_length_8abf5_10 : decode cJ0_length_8abf5 10 = .ok (.ireturn, 1) := by decide +kernel
theorem dJ0_indexOf_0f7a4_0 : decode cJ0_indexOf_0f7a4 0 = .ok (.aload_n 0, 1) := by decide +kernel
theorem dJ0_indexOf_0f7a4_1 : decode cJ0_indexOf_0f7a4 1 = .ok (.iload_n 1, 1) := by decide +kernel
theorem dJ0_indexOf_0f7a4_2 : decode cJ0_indexOf_0f7a4 2 = .ok (.iconst 0, 1) := by decide +kernel
theorem dJ0_indexOf_0f7a4_3 : decode cJ0_indexOf_0f7a4 3 = .ok (.invokevirtual 633, 3) := by decide +kernel
theorem dJ0_indexOf_0f7a4_6 : decode cJ0_indexOf_0f7a4 6 = .ok (.ireturn, 1) := by decide +kernel
theorem dJ0_indexOf_7cf53_0 : decode cJ0_indexOf_7cf53 0 = .ok (.aload_n 0, 1) := by decide +kernel
theorem dJ0_indexOf_7cf53_1 : decode cJ0_indexOf_7cf53 1 = .ok (.invokevirtual 492, 3) := by decide +kernel
theorem dJ0_indexOf_7cf53_4 : decode cJ0_indexOf_7cf53 4 = .ok (.ifCond .eq 19, 3) := by decide +kernel
theorem dJ0_indexOf_7cf53_7 : decode cJ0_indexOf_7cf53 7 = .ok (.aload_n 0, 1) := by decide +kernel
theorem dJ0_indexOf_7cf53_8 : decode cJ0_indexOf_7cf53 8 = .ok (.getfield 9, 3) := by decide +kernel
theorem dJ0_indexOf_7cf53_11 : decode cJ0_indexOf_7cf53 11 = .ok (.iload_n 1, 1) := by decide +kernel
theorem dJ0_indexOf_7cf53_12 : decode cJ0_indexOf_7cf53 12 = .ok (.iload_n 2, 1) := by decide +kernel
theorem dJ0_indexOf_7cf53_13 : decode cJ0_indexOf_7cf53 13 = .ok (.aload_n 0, 1) := by decide +kernel
theorem dJ0_indexOf_7cf53_14 : decode cJ0_indexOf_7cf53 14 = .ok (.invokevirtual 505, 3) := by decide +kernel
theorem dJ0_indexOf_7cf53_17 : decode cJ0_indexOf_7cf53 17 = .ok (.invokestatic 637, 3) := by decide +kernel
theorem dJ0_indexOf_7cf53_20 : decode cJ0_indexOf_7cf53 20 = .ok (.goto 16, 3) := by decide +kernel
theorem dJ0_indexOf_7cf53_23 : decode cJ0_indexOf_7cf53 23 = .ok (.aload_n 0, 1) := by decide +kernel
theorem dJ0_indexOf_7cf53_24 : decode cJ0_indexOf_7cf53 24 = .ok (.getfield 9, 3) := by decide +kernel
theorem dJ0_indexOf_7cf53_27 : decode cJ0_indexOf_7cf53 27 = .ok (.iload_n 1, 1) := by decide +kernel
theorem dJ0_indexOf_7cf53_28 : decode cJ0_indexOf_7cf53 28 = .ok (.iload_n 2, 1) := by decide +kernel
theorem dJ0_indexOf_7cf53_29 : decode cJ0_indexOf_7cf53 29 = .ok (.aload_n 0, 1) := by decide +kernel
theorem dJ0_indexOf_7cf53_30 : decode cJ0_indexOf_7cf53 30 = .ok (.invokevirtual 505, 3) := by decide +kernel
theorem dJ0_indexOf_7cf53_33 : decode cJ0_indexOf_7cf53 33 = .ok (.invokestatic 640, 3) := by decide +kernel
theorem dJ0_indexOf_7cf53_36 : decode cJ0_indexOf_7cf53 36 = .ok (.ireturn, 1) := by decide +kernel
theorem dJ0_coder_7d493_0 : decode cJ0_coder_7d493 0 = .ok (.getstatic 38, 3) := by decide +kernel
theorem dJ0_coder_7d493_3 : decode cJ0_coder_7d493 3 = .ok (.ifCond .eq 10, 3) := by decide +kernel
theorem dJ0_coder_7d493_6 : decode cJ0_coder_7d493 6 = .ok (.aload_n 0, 1) := by decide +kernel
theorem dJ0_coder_7d493_7 : decode cJ0_coder_7d493 7 = .ok (.getfield 15, 3) := by decide +kernel
theorem dJ0_coder_7d493_10 : decode cJ0_coder_7d493 10 = .ok (.goto 4, 3) := by decide +kernel
theorem dJ0_coder_7d493_13 : decode cJ0_coder_7d493 13 = .ok (.iconst 1, 1) := by decide +kernel
theorem dJ0_coder_7d493_14 : decode cJ0_coder_7d493 14 = .ok (.ireturn, 1) := by decide +kernel
theorem dJ0_isLatin1_aae02_0 : decode cJ0_isLatin1_aae02 0 = .ok (.getstatic 38, 3) := by decide +kernel
theorem dJ0_isLatin1_aae02_3 : decode cJ0_isLatin1_aae02 3 = .ok (.ifCond .eq 14, 3) := by decide +kernel
theorem dJ0_isLatin1_aae02_6 : decode cJ0_isLatin1_aae02 6 = .ok (.aload_n 0, 1) := by decide +kernel
theorem dJ0_isLatin1_aae02_7 : decode cJ0_isLatin1_aae02 7 = .ok (.getfield 15, 3) := by decide +kernel
theorem dJ0_isLatin1_aae02_10 : decode cJ0_isLatin1_aae02 10 = .ok (.ifCond .ne 7, 3) := by decide +kernel
theorem dJ0_isLatin1_aae02_13 : decode cJ0_isLatin1_aae02 13 = .ok (.iconst 1, 1) := by decide +kernel
theorem dJ0_isLatin1_aae02_14 : decode cJ0_isLatin1_aae02 14 = .ok (.goto 4, 3) := by decide +kernel
theorem dJ0_isLatin1_aae02_17 : decode cJ0_isLatin1_aae02 17 = .ok (.iconst 0, 1) := by decide +kernel
theorem dJ0_isLatin1_aae02_18 : decode cJ0_isLatin1_aae02 18 = .ok (.ireturn, 1) := by decide +kernel
theorem dJ0_checkBoundsBeginEnd_23922_0 : decode cJ0_checkBoundsBeginEnd_23922 0 = .ok (.iload_n 0, 1) := by decide +kernel
theorem dJ0_checkBoundsBeginEnd_23922_1 : decode cJ0_checkBoundsBeginEnd_23922 1 = .ok (.iload_n 1, 1) := by decide +kernel
theorem dJ0_checkBoundsBeginEnd_23922_2 : decode cJ0_checkBoundsBeginEnd_23922 2 = .ok (.iload_n 2, 1) := by decide +kernel
theorem dJ0_checkBoundsBeginEnd_23922_3 : decode cJ0_checkBoundsBeginEnd_23922 3 = .ok (.getstatic 1053, 3) := by decide +kernel
theorem dJ0_checkBoundsBeginEnd_23922_6 : decode cJ0_checkBoundsBeginEnd_23922 6 = .ok (.invokestatic 1062, 3) := by decide +kernel
theorem dJ0_checkBoundsBeginEnd_23922_9 : decode cJ0_checkBoundsBeginEnd_23922 9 = .ok (.pop, 1) := by decide +kernel
theorem dJ0_checkBoundsBeginEnd_23922_10 : decode cJ0_checkBoundsBeginEnd_23922 10 = .ok (.return_, 1) := by decide +kernel
theorem dJ1_canEncode_9a6ad_0 : decode cJ1_canEncode_9a6ad 0 = .ok (.iload_n 0, 1) := by decide +kernel
theorem dJ1_canEncode_9a6ad_1 : decode cJ1_canEncode_9a6ad 1 = .ok (.ifCond .lt 14, 3) := by decide +kernel
theorem dJ1_canEncode_9a6ad_4 : decode cJ1_canEncode_9a6ad 4 = .ok (.iload_n 0, 1) := by decide +kernel
theorem dJ1_canEncode_9a6ad_5 : decode cJ1_canEncode_9a6ad 5 = .ok (.sipush 255, 3) := by decide +kernel
theorem dJ1_canEncode_9a6ad_8 : decode cJ1_canEncode_9a6ad 8 = .ok (.if_icmp .gt 7, 3) := by decide +kernel
theorem dJ1_canEncode_9a6ad_11 : decode cJ1_canEncode_9a6ad 11 = .ok (.iconst 1, 1) := by decide +kernel
theorem dJ1_canEncode_9a6ad_12 : decode cJ1_canEncode_9a6ad 12 = .ok (.goto 4, 3) := by decide +kernel
theorem dJ1_canEncode_9a6ad_15 : decode cJ1_canEncode_9a6ad 15 = .ok (.iconst 0, 1) := by decide +kernel
theorem dJ1_canEncode_9a6ad_16 : decode cJ1_canEncode_9a6ad 16 = .ok (.ireturn, 1) := by decide +kernel
theorem dJ1_indexOf_4cfef_0 : decode cJ1_indexOf_4cfef 0 = .ok (.iload_n 1, 1) := by decide +kernel
theorem dJ1_indexOf_4cfef_1 : decode cJ1_indexOf_4cfef 1 = .ok (.invokestatic 88, 3) := by decide +kernel
theorem dJ1_indexOf_4cfef_4 : decode cJ1_indexOf_4cfef 4 = .ok (.ifCond .ne 5, 3) := by decide +kernel
theorem dJ1_indexOf_4cfef_7 : decode cJ1_indexOf_4cfef 7 = .ok (.iconst (-1), 1) := by decide +kernel
theorem dJ1_indexOf_4cfef_8 : decode cJ1_indexOf_4cfef 8 = .ok (.ireturn, 1) := by decide +kernel
theorem dJ1_indexOf_4cfef_9 : decode cJ1_indexOf_4cfef 9 = .ok (.iload_n 2, 1) := by decide +kernel
theorem dJ1_indexOf_4cfef_10 : decode cJ1_indexOf_4cfef 10 = .ok (.iconst 0, 1) := by decide +kernel
theorem dJ1_indexOf_4cfef_11 : decode cJ1_indexOf_4cfef 11 = .ok (.invokestatic 92, 3) := by decide +kernel
theorem dJ1_indexOf_4cfef_14 : decode cJ1_indexOf_4cfef 14 = .ok (.istore_n 2, 1) := by decide +kernel
theorem dJ1_indexOf_4cfef_15 : decode cJ1_indexOf_4cfef 15 = .ok (.iload_n 3, 1) := by decide +kernel
theorem dJ1_indexOf_4cfef_16 : decode cJ1_indexOf_4cfef 16 = .ok (.aload_n 0, 1) := by decide +kernel
theorem dJ1_indexOf_4cfef_17 : decode cJ1_indexOf_4cfef 17 = .ok (.arraylength, 1) := by decide +kernel
theorem dJ1_indexOf_4cfef_18 : decode cJ1_indexOf_4cfef 18 = .ok (.invokestatic 38, 3) := by decide +kernel
theorem dJ1_indexOf_4cfef_21 : decode cJ1_indexOf_4cfef 21 = .ok (.istore_n 3, 1) := by decide +kernel
theorem dJ1_indexOf_4cfef_22 : decode cJ1_indexOf_4cfef 22 = .ok (.iload_n 2, 1) := by decide +kernel
theorem dJ1_indexOf_4cfef_23 : decode cJ1_indexOf_4cfef 23 = .ok (.iload_n 3, 1) := by decide +kernel
theorem dJ1_indexOf_4cfef_24 : decode cJ1_indexOf_4cfef 24 = .ok (.if_icmp .lt 5, 3) := by decide +kernel
theorem dJ1_indexOf_4cfef_27 : decode cJ1_indexOf_4cfef 27 = .ok (.iconst (-1), 1) := by decide +kernel
theorem dJ1_indexOf_4cfef_28 : decode cJ1_indexOf_4cfef 28 = .ok (.ireturn, 1) := by decide +kernel
theorem dJ1_indexOf_4cfef_29 : decode cJ1_indexOf_4cfef 29 = .ok (.aload_n 0, 1) := by decide +kernel
theorem dJ1_indexOf_4cfef_30 : decode cJ1_indexOf_4cfef 30 = .ok (.iload_n 1, 1) := by decide +kernel
theorem dJ1_indexOf_4cfef_31 : decode cJ1_indexOf_4cfef 31 = .ok (.iload_n 2, 1) := by decide +kernel
theorem dJ1_indexOf_4cfef_32 : decode cJ1_indexOf_4cfef 32 = .ok (.iload_n 3, 1) := by decide +kernel
theorem dJ1_indexOf_4cfef_33 : decode cJ1_indexOf_4cfef 33 = .ok (.invokestatic 95, 3) := by decide +kernel
theorem dJ1_indexOf_4cfef_36 : decode cJ1_indexOf_4cfef 36 = .ok (.ireturn, 1) := by decide +kernel
theorem dJ1_indexOfChar_4cfef_0 : decode cJ1_indexOfChar_4cfef 0 = .ok (.iload_n 1, 1) := by decide +kernel
theorem dJ1_indexOfChar_4cfef_1 : decode cJ1_indexOfChar_4cfef 1 = .ok (.i2b, 1) := by decide +kernel
theorem dJ1_indexOfChar_4cfef_2 : decode cJ1_indexOfChar_4cfef 2 = .ok (.istore 4, 2) := by decide +kernel
theorem dJ1_indexOfChar_4cfef_4 : decode cJ1_indexOfChar_4cfef 4 = .ok (.iload_n 2, 1) := by decide +kernel
theorem dJ1_indexOfChar_4cfef_5 : decode cJ1_indexOfChar_4cfef 5 = .ok (.istore 5, 2) := by decide +kernel
theorem dJ1_indexOfChar_4cfef_7 : decode cJ1_indexOfChar_4cfef 7 = .ok (.iload 5, 2) := by decide +kernel
theorem dJ1_indexOfChar_4cfef_9 : decode cJ1_indexOfChar_4cfef 9 = .ok (.iload_n 3, 1) := by decide +kernel
theorem dJ1_indexOfChar_4cfef_10 : decode cJ1_indexOfChar_4cfef 10 = .ok (.if_icmp .ge 21, 3) := by decide +kernel
theorem dJ1_indexOfChar_4cfef_13 : decode cJ1_indexOfChar_4cfef 13 = .ok (.aload_n 0, 1) := by decide +kernel
theorem dJ1_indexOfChar_4cfef_14 : decode cJ1_indexOfChar_4cfef 14 = .ok (.iload 5, 2) := by decide +kernel
theorem dJ1_indexOfChar_4cfef_16 : decode cJ1_indexOfChar_4cfef 16 = .ok (.baload, 1) := by decide +kernel
theorem dJ1_indexOfChar_4cfef_17 : decode cJ1_indexOfChar_4cfef 17 = .ok (.iload 4, 2) := by decide +kernel
theorem dJ1_indexOfChar_4cfef_19 : decode cJ1_indexOfChar_4cfef 19 = .ok (.if_icmp .ne 6, 3) := by decide +kernel
theorem dJ1_indexOfChar_4cfef_22 : decode cJ1_indexOfChar_4cfef 22 = .ok (.iload 5, 2) := by decide +kernel
theorem dJ1_indexOfChar_4cfef_24 : decode cJ1_indexOfChar_4cfef 24 = .ok (.ireturn, 1) := by decide +kernel
theorem dJ1_indexOfChar_4cfef_25 : decode cJ1_indexOfChar_4cfef 25 = .ok (.iinc 5 1, 3) := by decide +kernel
theorem dJ1_indexOfChar_4cfef_28 : decode cJ1_indexOfChar_4cfef 28 = .ok (.goto (-21), 3) := by decide +kernel
theorem dJ1_indexOfChar_4cfef_31 : decode cJ1_indexOfChar_4cfef 31 = .ok (.iconst (-1), 1) := by decide +kernel
theorem dJ1_indexOfChar_4cfef_32 : decode cJ1_indexOfChar_4cfef 32 = .ok (.ireturn, 1) := by decide +kernel
theorem dJ2_getChar_3b067_0 : decode cJ2_getChar_3b067 0 = .ok (.getstatic 44, 3) := by decide +kernel
theorem dJ2_getChar_3b067_3 : decode cJ2_getChar_3b067 3 = .ok (.ifCond .ne 25, 3) := by decide +kernel
theorem dJ2_getChar_3b067_6 : decode cJ2_getChar_3b067 6 = .ok (.iload_n 1, 1) := by decide +kernel
theorem dJ2_getChar_3b067_7 : decode cJ2_getChar_3b067 7 = .ok (.ifCond .lt 11, 3) := by decide +kernel
theorem dJ2_getChar_3b067_10 : decode cJ2_getChar_3b067 10 = .ok (.iload_n 1, 1) := by decide +kernel
theorem dJ2_getChar_3b067_11 : decode cJ2_getChar_3b067 11 = .ok (.aload_n 0, 1) := by decide +kernel
theorem dJ2_getChar_3b067_12 : decode cJ2_getChar_3b067 12 = .ok (.invokestatic 48, 3) := by decide +kernel
theorem dJ2_getChar_3b067_15 : decode cJ2_getChar_3b067 15 = .ok (.if_icmp .lt 13, 3) := by decide +kernel
theorem dJ2_getChar_3b067_18 : decode cJ2_getChar_3b067 18 = .ok (.new 52, 3) := by decide +kernel
theorem dJ2_getChar_3b067_21 : decode cJ2_getChar_3b067 21 = .ok (.dup, 1) := by decide +kernel
theorem dJ2_getChar_3b067_22 : decode cJ2_getChar_3b067 22 = .ok (.ldc 54, 2) := by decide +kernel
theorem dJ2_getChar_3b067_24 : decode cJ2_getChar_3b067 24 = .ok (.invokespecial 56, 3) := by decide +kernel
theorem dJ2_getChar_3b067_27 : decode cJ2_getChar_3b067 27 = .ok (.athrow, 1) := by decide +kernel
theorem dJ2_getChar_3b067_28 : decode cJ2_getChar_3b067 28 = .ok (.iload_n 1, 1) := by decide +kernel
theorem dJ2_getChar_3b067_29 : decode cJ2_getChar_3b067 29 = .ok (.iconst 1, 1) := by decide +kernel
theorem dJ2_getChar_3b067_30 : decode cJ2_getChar_3b067 30 = .ok (.ishl, 1) := by decide +kernel
theorem dJ2_getChar_3b067_31 : decode cJ2_getChar_3b067 31 = .ok (.istore_n 1, 1) := by decide +kernel
theorem dJ2_getChar_3b067_32 : decode cJ2_getChar_3b067 32 = .ok (.aload_n 0, 1) := by decide +kernel
theorem dJ2_getChar_3b067_33 : decode cJ2_getChar_3b067 33 = .ok (.iload_n 1, 1) := by decide +kernel
theorem dJ2_getChar_3b067_34 : decode cJ2_getChar_3b067 34 = .ok (.iinc 1 1, 3) := by decide +kernel
theorem dJ2_getChar_3b067_37 : decode cJ2_getChar_3b067 37 = .ok (.baload, 1) := by decide +kernel
theorem dJ2_getChar_3b067_38 : decode cJ2_getChar_3b067 38 = .ok (.sipush 255, 3) := by decide +kernel
theorem dJ2_getChar_3b067_41 : decode cJ2_getChar_3b067 41 = .ok (.iand, 1) := by decide +kernel
theorem dJ2_getChar_3b067_42 : decode cJ2_getChar_3b067 42 = .ok (.getstatic 59, 3) := by decide +kernel
theorem dJ2_getChar_3b067_45 : decode cJ2_getChar_3b067 45 = .ok (.ishl, 1) := by decide +kernel
theorem dJ2_getChar_3b067_46 : decode cJ2_getChar_3b067 46 = .ok (.aload_n 0, 1) := by decide +kernel
theorem dJ2_getChar_3b067_47 : decode cJ2_getChar_3b067 47 = .ok (.iload_n 1, 1) := by decide +kernel
theorem dJ2_getChar_3b067_48 : decode cJ2_getChar_3b067 48 = .ok (.baload, 1) := by decide +kernel
theorem dJ2_getChar_3b067_49 : decode cJ2_getChar_3b067 49 = .ok (.sipush 255, 3) := by decide +kernel
theorem dJ2_getChar_3b067_52 : decode cJ2_getChar_3b067 52 = .ok (.iand, 1) := by decide +kernel
theorem dJ2_getChar_3b067_53 : decode cJ2_getChar_3b067 53 = .ok (.getstatic 63, 3) := by decide +kernel
theorem dJ2_getChar_3b067_56 : decode cJ2_getChar_3b067 56 = .ok (.ishl, 1) := by decide +kernel
theorem dJ2_getChar_3b067_57 : decode cJ2_getChar_3b067 57 = .ok (.ior, 1) := by decide +kernel
theorem dJ2_getChar_3b067_58 : decode cJ2_getChar_3b067 58 = .ok (.i2c, 1) := by decide +kernel
theorem dJ2_getChar_3b067_59 : decode cJ2_getChar_3b067 59 = .ok (.ireturn, 1) := by decide +kernel
theorem dJ2_length_9d52b_0 : decode cJ2_length_9d52b 0 = .ok (.aload_n 0, 1) := by decide +kernel
theorem dJ2_length_9d52b_1 : decode cJ2_length_9d52b 1 = .ok (.arraylength, 1) := by decide +kernel
theorem dJ2_length_9d52b_2 : decode cJ2_length_9d52b 2 = .ok (.iconst 1, 1) := by decide +kernel
theorem dJ2_length_9d52b_3 : decode cJ2_length_9d52b 3 = .ok (.ishr, 1) := by decide +kernel
theorem dJ2_length_9d52b_4 : decode cJ2_length_9d52b 4 = .ok (.ireturn, 1) := by decide +kernel
theorem dJ2_indexOf_4cfef_0 : decode cJ2_indexOf_4cfef 0 = .ok (.iload_n 2, 1) := by decide +kernel
theorem dJ2_indexOf_4cfef_1 : decode cJ2_indexOf_4cfef 1 = .ok (.iconst 0, 1) := by decide +kernel
theorem dJ2_indexOf_4cfef_2 : decode cJ2_indexOf_4cfef 2 = .ok (.invokestatic 224, 3) := by decide +kernel
theorem dJ2_indexOf_4cfef_5 : decode cJ2_indexOf_4cfef 5 = .ok (.istore_n 2, 1) := by decide +kernel
theorem dJ2_indexOf_4cfef_6 : decode cJ2_indexOf_4cfef 6 = .ok (.iload_n 3, 1) := by decide +kernel
theorem dJ2_indexOf_4cfef_7 : decode cJ2_indexOf_4cfef 7 = .ok (.aload_n 0, 1) := by decide +kernel
theorem dJ2_indexOf_4cfef_8 : decode cJ2_indexOf_4cfef 8 = .ok (.arraylength, 1) := by decide +kernel
theorem dJ2_indexOf_4cfef_9 : decode cJ2_indexOf_4cfef 9 = .ok (.iconst 1, 1) := by decide +kernel
theorem dJ2_indexOf_4cfef_10 : decode cJ2_indexOf_4cfef 10 = .ok (.ishr, 1) := by decide +kernel
theorem dJ2_indexOf_4cfef_11 : decode cJ2_indexOf_4cfef 11 = .ok (.invokestatic 183, 3) := by decide +kernel
theorem dJ2_indexOf_4cfef_14 : decode cJ2_indexOf_4cfef 14 = .ok (.istore_n 3, 1) := by decide +kernel
theorem dJ2_indexOf_4cfef_15 : decode cJ2_indexOf_4cfef 15 = .ok (.iload_n 2, 1) := by decide +kernel
theorem dJ2_indexOf_4cfef_16 : decode cJ2_indexOf_4cfef 16 = .ok (.iload_n 3, 1) := by decide +kernel
theorem dJ2_indexOf_4cfef_17 : decode cJ2_indexOf_4cfef 17 = .ok (.if_icmp .lt 5, 3) := by decide +kernel
theorem dJ2_indexOf_4cfef_20 : decode cJ2_indexOf_4cfef 20 = .ok (.iconst (-1), 1) := by decide +kernel
theorem dJ2_indexOf_4cfef_21 : decode cJ2_indexOf_4cfef 21 = .ok (.ireturn, 1) := by decide +kernel
theorem dJ2_indexOf_4cfef_22 : decode cJ2_indexOf_4cfef 22 = .ok (.iload_n 1, 1) := by decide +kernel
theorem dJ2_indexOf_4cfef_23 : decode cJ2_indexOf_4cfef 23 = .ok (.ldc 227, 2) := by decide +kernel
theorem dJ2_indexOf_4cfef_25 : decode cJ2_indexOf_4cfef 25 = .ok (.if_icmp .ge 11, 3) := by decide +kernel
theorem dJ2_indexOf_4cfef_28 : decode cJ2_indexOf_4cfef 28 = .ok (.aload_n 0, 1) := by decide +kernel
theorem dJ2_indexOf_4cfef_29 : decode cJ2_indexOf_4cfef 29 = .ok (.iload_n 1, 1) := by decide +kernel
theorem dJ2_indexOf_4cfef_30 : decode cJ2_indexOf_4cfef 30 = .ok (.iload_n 2, 1) := by decide +kernel
theorem dJ2_indexOf_4cfef_31 : decode cJ2_indexOf_4cfef 31 = .ok (.iload_n 3, 1) := by decide +kernel
theorem dJ2_indexOf_4cfef_32 : decode cJ2_indexOf_4cfef 32 = .ok (.invokestatic 228, 3) := by decide +kernel
theorem dJ2_indexOf_4cfef_35 : decode cJ2_indexOf_4cfef 35 = .ok (.ireturn, 1) := by decide +kernel
theorem dJ2_indexOf_4cfef_36 : decode cJ2_indexOf_4cfef 36 = .ok (.aload_n 0, 1) := by decide +kernel
theorem dJ2_indexOf_4cfef_37 : decode cJ2_indexOf_4cfef 37 = .ok (.iload_n 1, 1) := by decide +kernel
theorem dJ2_indexOf_4cfef_38 : decode cJ2_indexOf_4cfef 38 = .ok (.iload_n 2, 1) := by decide +kernel
theorem dJ2_indexOf_4cfef_39 : decode cJ2_indexOf_4cfef 39 = .ok (.iload_n 3, 1) := by decide +kernel
theorem dJ2_indexOf_4cfef_40 : decode cJ2_indexOf_4cfef 40 = .ok (.invokestatic 232, 3) := by decide +kernel
theorem dJ2_indexOf_4cfef_43 : decode cJ2_indexOf_4cfef 43 = .ok (.ireturn, 1) := by decide +kernel
theorem dJ2_indexOfChar_4cfef_0 : decode cJ2_indexOfChar_4cfef 0 = .ok (.iload_n 2, 1) := by decide +kernel
theorem dJ2_indexOfChar_4cfef_1 : decode cJ2_indexOfChar_4cfef 1 = .ok (.iload_n 3, 1) := by decide +kernel
theorem dJ2_indexOfChar_4cfef_2 : decode cJ2_indexOfChar_4cfef 2 = .ok (.aload_n 0, 1) := by decide +kernel
theorem dJ2_indexOfChar_4cfef_3 : decode cJ2_indexOfChar_4cfef 3 = .ok (.invokestatic 96, 3) := by decide +kernel
theorem dJ2_indexOfChar_4cfef_6 : decode cJ2_indexOfChar_4cfef 6 = .ok (.aload_n 0, 1) := by decide +kernel
theorem dJ2_indexOfChar_4cfef_7 : decode cJ2_indexOfChar_4cfef 7 = .ok (.iload_n 1, 1) := by decide +kernel
theorem dJ2_indexOfChar_4cfef_8 : decode cJ2_indexOfChar_4cfef 8 = .ok (.iload_n 2, 1) := by decide +kernel
theorem dJ2_indexOfChar_4cfef_9 : decode cJ2_indexOfChar_4cfef 9 = .ok (.iload_n 3, 1) := by decide +kernel
theorem dJ2_indexOfChar_4cfef_10 : decode cJ2_indexOfChar_4cfef 10 = .ok (.invokestatic 244, 3) := by decide +kernel
theorem dJ2_indexOfChar_4cfef_13 : decode cJ2_indexOfChar_4cfef 13 = .ok (.ireturn, 1) := by decide +kernel
theorem dJ2_indexOfCharUnsafe_4cfef_0 : decode cJ2_indexOfCharUnsafe_4cfef 0 = .ok (.iload_n 2, 1) := by decide +kernel
theorem dJ2_indexOfCharUnsafe_4cfef_1 : decode cJ2_indexOfCharUnsafe_4cfef 1 = .ok (.istore 4, 2) := by decide +kernel
theorem dJ2_indexOfCharUnsafe_4cfef_3 : decode cJ2_indexOfCharUnsafe_4cfef 3 = .ok (.iload 4, 2) := by decide +kernel
theorem dJ2_indexOfCharUnsafe_4cfef_5 : decode cJ2_indexOfCharUnsafe_4cfef 5 = .ok (.iload_n 3, 1) := by decide +kernel
theorem dJ2_indexOfCharUnsafe_4cfef_6 : decode cJ2_indexOfCharUnsafe_4cfef 6 = .ok (.if_icmp .ge 22, 3) := by decide +kernel
theorem dJ2_indexOfCharUnsafe_4cfef_9 : decode cJ2_indexOfCharUnsafe_4cfef 9 = .ok (.aload_n 0, 1) := by decide +kernel
theorem dJ2_indexOfCharUnsafe_4cfef_10 : decode cJ2_indexOfCharUnsafe_4cfef 10 = .ok (.iload 4, 2) := by decide +kernel
theorem dJ2_indexOfCharUnsafe_4cfef_12 : decode cJ2_indexOfCharUnsafe_4cfef 12 = .ok (.invokestatic 71, 3) := by decide +kernel
theorem dJ2_indexOfCharUnsafe_4cfef_15 : decode cJ2_indexOfCharUnsafe_4cfef 15 = .ok (.iload_n 1, 1) := by decide +kernel
theorem dJ2_indexOfCharUnsafe_4cfef_16 : decode cJ2_indexOfCharUnsafe_4cfef 16 = .ok (.if_icmp .ne 6, 3) := by decide +kernel
theorem dJ2_indexOfCharUnsafe_4cfef_19 : decode cJ2_indexOfCharUnsafe_4cfef 19 = .ok (.iload 4, 2) := by decide +kernel
theorem dJ2_indexOfCharUnsafe_4cfef_21 : decode cJ2_indexOfCharUnsafe_4cfef 21 = .ok (.ireturn, 1) := by decide +kernel
theorem dJ2_indexOfCharUnsafe_4cfef_22 : decode cJ2_indexOfCharUnsafe_4cfef 22 = .ok (.iinc 4 1, 3) := by decide +kernel
theorem dJ2_indexOfCharUnsafe_4cfef_25 : decode cJ2_indexOfCharUnsafe_4cfef 25 = .ok (.goto (-22), 3) := by decide +kernel
theorem dJ2_indexOfCharUnsafe_4cfef_28 : decode cJ2_indexOfCharUnsafe_4cfef 28 = .ok (.iconst (-1), 1) := by decide +kernel
theorem dJ2_indexOfCharUnsafe_4cfef_29 : decode cJ2_indexOfCharUnsafe_4cfef 29 = .ok (.ireturn, 1) := by decide +kernel
theorem dJ2_indexOfSupplementary_4cfef_0 : decode cJ2_indexOfSupplementary_4cfef 0 = .ok (.iload_n 1, 1) := by decide +kernel
theorem dJ2_indexOfSupplementary_4cfef_1 : decode cJ2_indexOfSupplementary_4cfef 1 = .ok (.invokestatic 164, 3) := by decide +kernel
theorem dJ2_indexOfSupplementary_4cfef_4 : decode cJ2_indexOfSupplementary_4cfef 4 = .ok (.ifCond .eq 65, 3) := by decide +kernel
theorem dJ2_indexOfSupplementary_4cfef_7 : decode cJ2_indexOfSupplementary_4cfef 7 = .ok (.iload_n 1, 1) := by decide +kernel
theorem dJ2_indexOfSupplementary_4cfef_8 : decode cJ2_indexOfSupplementary_4cfef 8 = .ok (.invokestatic 157, 3) := by decide +kernel
theorem dJ2_indexOfSupplementary_4cfef_11 : decode cJ2_indexOfSupplementary_4cfef 11 = .ok (.istore 4, 2) := by decide +kernel
theorem dJ2_indexOfSupplementary_4cfef_13 : decode cJ2_indexOfSupplementary_4cfef 13 = .ok (.iload_n 1, 1) := by decide +kernel
theorem dJ2_indexOfSupplementary_4cfef_14 : decode cJ2_indexOfSupplementary_4cfef 14 = .ok (.invokestatic 161, 3) := by decide +kernel
theorem dJ2_indexOfSupplementary_4cfef_17 : decode cJ2_indexOfSupplementary_4cfef 17 = .ok (.istore 5, 2) := by decide +kernel
theorem dJ2_indexOfSupplementary_4cfef_19 : decode cJ2_indexOfSupplementary_4cfef 19 = .ok (.iload_n 2, 1) := by decide +kernel
theorem dJ2_indexOfSupplementary_4cfef_20 : decode cJ2_indexOfSupplementary_4cfef 20 = .ok (.iload_n 3, 1) := by decide +kernel
theorem dJ2_indexOfSupplementary_4cfef_21 : decode cJ2_indexOfSupplementary_4cfef 21 = .ok (.aload_n 0, 1) := by decide +kernel
theorem dJ2_indexOfSupplementary_4cfef_22 : decode cJ2_indexOfSupplementary_4cfef 22 = .ok (.invokestatic 96, 3) := by decide +kernel
theorem dJ2_indexOfSupplementary_4cfef_25 : decode cJ2_indexOfSupplementary_4cfef 25 = .ok (.iload_n 2, 1) := by decide +kernel
theorem dJ2_indexOfSupplementary_4cfef_26 : decode cJ2_indexOfSupplementary_4cfef 26 = .ok (.istore 6, 2) := by decide +kernel
theorem dJ2_indexOfSupplementary_4cfef_28 : decode cJ2_indexOfSupplementary_4cfef 28 = .ok (.iload 6, 2) := by decide +kernel
theorem dJ2_indexOfSupplementary_4cfef_30 : decode cJ2_indexOfSupplementary_4cfef 30 = .ok (.iload_n 3, 1) := by decide +kernel
theorem dJ2_indexOfSupplementary_4cfef_31 : decode cJ2_indexOfSupplementary_4cfef 31 = .ok (.iconst 1, 1) := by decide +kernel
theorem dJ2_indexOfSupplementary_4cfef_32 : decode cJ2_indexOfSupplementary_4cfef 32 = .ok (.isub, 1) := by decide +kernel
theorem dJ2_indexOfSupplementary_4cfef_33 : decode cJ2_indexOfSupplementary_4cfef 33 = .ok (.if_icmp .ge 36, 3) := by decide +kernel
theorem dJ2_indexOfSupplementary_4cfef_36 : decode cJ2_indexOfSupplementary_4cfef 36 = .ok (.aload_n 0, 1) := by decide +kernel
theorem dJ2_indexOfSupplementary_4cfef_37 : decode cJ2_indexOfSupplementary_4cfef 37 = .ok (.iload 6, 2) := by decide +kernel
theorem dJ2_indexOfSupplementary_4cfef_39 : decode cJ2_indexOfSupplementary_4cfef 39 = .ok (.invokestatic 71, 3) := by decide +kernel
theorem dJ2_indexOfSupplementary_4cfef_42 : decode cJ2_indexOfSupplementary_4cfef 42 = .ok (.iload 4, 2) := by decide +kernel
theorem dJ2_indexOfSupplementary_4cfef_44 : decode cJ2_indexOfSupplementary_4cfef 44 = .ok (.if_icmp .ne 19, 3) := by decide +kernel
theorem dJ2_indexOfSupplementary_4cfef_47 : decode cJ2_indexOfSupplementary_4cfef 47 = .ok (.aload_n 0, 1) := by decide +kernel
theorem dJ2_indexOfSupplementary_4cfef_48 : decode cJ2_indexOfSupplementary_4cfef 48 = .ok (.iload 6, 2) := by decide +kernel
theorem dJ2_indexOfSupplementary_4cfef_50 : decode cJ2_indexOfSupplementary_4cfef 50 = .ok (.iconst 1, 1) := by decide +kernel
theorem dJ2_indexOfSupplementary_4cfef_51 : decode cJ2_indexOfSupplementary_4cfef 51 = .ok (.iadd, 1) := by decide +kernel
theorem dJ2_indexOfSupplementary_4cfef_52 : decode cJ2_indexOfSupplementary_4cfef 52 = .ok (.invokestatic 71, 3) := by decide +kernel
theorem dJ2_indexOfSupplementary_4cfef_55 : decode cJ2_indexOfSupplementary_4cfef 55 = .ok (.iload 5, 2) := by decide +kernel
theorem dJ2_indexOfSupplementary_4cfef_57 : decode cJ2_indexOfSupplementary_4cfef 57 = .ok (.if_icmp .ne 6, 3) := by decide +kernel
theorem dJ2_indexOfSupplementary_4cfef_60 : decode cJ2_indexOfSupplementary_4cfef 60 = .ok (.iload 6, 2) := by decide +kernel
theorem dJ2_indexOfSupplementary_4cfef_62 : decode cJ2_indexOfSupplementary_4cfef 62 = .ok (.ireturn, 1) := by decide +kernel
theorem dJ2_indexOfSupplementary_4cfef_63 : decode cJ2_indexOfSupplementary_4cfef 63 = .ok (.iinc 6 1, 3) := by decide +kernel
theorem dJ2_indexOfSupplementary_4cfef_66 : decode cJ2_indexOfSupplementary_4cfef 66 = .ok (.goto (-38), 3) := by decide +kernel
theorem dJ2_indexOfSupplementary_4cfef_69 : decode cJ2_indexOfSupplementary_4cfef 69 = .ok (.iconst (-1), 1) := by decide +kernel
theorem dJ2_indexOfSupplementary_4cfef_70 : decode cJ2_indexOfSupplementary_4cfef 70 = .ok (.ireturn, 1) := by decide +kernel
theorem dJ2_checkBoundsBeginEnd_d044e_0 : decode cJ2_checkBoundsBeginEnd_d044e 0 = .ok (.iload_n 0, 1) := by decide +kernel
theorem dJ2_checkBoundsBeginEnd_d044e_1 : decode cJ2_checkBoundsBeginEnd_d044e 1 = .ok (.iload_n 1, 1) := by decide +kernel
theorem dJ2_checkBoundsBeginEnd_d044e_2 : decode cJ2_checkBoundsBeginEnd_d044e 2 = .ok (.aload_n 2, 1) := by decide +kernel
theorem dJ2_checkBoundsBeginEnd_d044e_3 : decode cJ2_checkBoundsBeginEnd_d044e 3 = .ok (.invokestatic 48, 3) := by decide +kernel
theorem dJ2_checkBoundsBeginEnd_d044e_6 : decode cJ2_checkBoundsBeginEnd_d044e 6 = .ok (.invokestatic 241, 3) := by decide +kernel
theorem dJ2_checkBoundsBeginEnd_d044e_9 : decode cJ2_checkBoundsBeginEnd_d044e 9 = .ok (.return_, 1) := by decide +kernel
theorem dJ7_fill_53178_0 : decode cJ7_fill_53178 0 = .ok (.iconst 0, 1) := by decide +kernel
theorem dJ7_fill_53178_1 : decode cJ7_fill_53178 1 = .ok (.istore_n 2, 1) := by decide +kernel
theorem dJ7_fill_53178_2 : decode cJ7_fill_53178 2 = .ok (.aload_n 0, 1) := by decide +kernel
theorem dJ7_fill_53178_3 : decode cJ7_fill_53178 3 = .ok (.arraylength, 1) := by decide +kernel
theorem dJ7_fill_53178_4 : decode cJ7_fill_53178 4 = .ok (.istore_n 3, 1) := by decide +kernel
theorem dJ7_fill_53178_5 : decode cJ7_fill_53178 5 = .ok (.iload_n 2, 1) := by decide +kernel
theorem dJ7_fill_53178_6 : decode cJ7_fill_53178 6 = .ok (.iload_n 3, 1) := by decide +kernel
theorem dJ7_fill_53178_7 : decode cJ7_fill_53178 7 = .ok (.if_icmp .ge 13, 3) := by decide +kernel
theorem dJ7_fill_53178_10 : decode cJ7_fill_53178 10 = .ok (.aload_n 0, 1) := by decide +kernel
theorem dJ7_fill_53178_11 : decode cJ7_fill_53178 11 = .ok (.iload_n 2, 1) := by decide +kernel
theorem dJ7_fill_53178_12 : decode cJ7_fill_53178 12 = .ok (.iload_n 1, 1) := by decide +kernel
theorem dJ7_fill_53178_13 : decode cJ7_fill_53178 13 = .ok (.iastore, 1) := by decide +kernel
theorem dJ7_fill_53178_14 : decode cJ7_fill_53178 14 = .ok (.iinc 2 1, 3) := by decide +kernel
theorem dJ7_fill_53178_17 : decode cJ7_fill_53178 17 = .ok (.goto (-12), 3) := by decide +kernel
theorem dJ7_fill_53178_20 : decode cJ7_fill_53178 20 = .ok (.return_, 1) := by decide +kernel
theorem dJ3_checkFromToIndex_8c36e_0 : decode cJ3_checkFromToIndex_8c36e 0 = .ok (.iload_n 0, 1) := by decide +kernel
theorem dJ3_checkFromToIndex_8c36e_1 : decode cJ3_checkFromToIndex_8c36e 1 = .ok (.ifCond .lt 13, 3) := by decide +kernel
theorem dJ3_checkFromToIndex_8c36e_4 : decode cJ3_checkFromToIndex_8c36e 4 = .ok (.iload_n 0, 1) := by decide +kernel
theorem dJ3_checkFromToIndex_8c36e_5 : decode cJ3_checkFromToIndex_8c36e 5 = .ok (.iload_n 1, 1) := by decide +kernel
theorem dJ3_checkFromToIndex_8c36e_6 : decode cJ3_checkFromToIndex_8c36e 6 = .ok (.if_icmp .gt 8, 3) := by decide +kernel
theorem dJ3_checkFromToIndex_8c36e_9 : decode cJ3_checkFromToIndex_8c36e 9 = .ok (.iload_n 1, 1) := by decide +kernel
theorem dJ3_checkFromToIndex_8c36e_10 : decode cJ3_checkFromToIndex_8c36e 10 = .ok (.iload_n 2, 1) := by decide +kernel
theorem dJ3_checkFromToIndex_8c36e_11 : decode cJ3_checkFromToIndex_8c36e 11 = .ok (.if_icmp .le 11, 3) := by decide +kernel
theorem dJ3_checkFromToIndex_8c36e_14 : decode cJ3_checkFromToIndex_8c36e 14 = .ok (.aload_n 3, 1) := by decide +kernel
theorem dJ3_checkFromToIndex_8c36e_15 : decode cJ3_checkFromToIndex_8c36e 15 = .ok (.iload_n 0, 1) := by decide +kernel
theorem dJ3_checkFromToIndex_8c36e_16 : decode cJ3_checkFromToIndex_8c36e 16 = .ok (.iload_n 1, 1) := by decide +kernel
theorem dJ3_checkFromToIndex_8c36e_17 : decode cJ3_checkFromToIndex_8c36e 17 = .ok (.iload_n 2, 1) := by decide +kernel
theorem dJ3_checkFromToIndex_8c36e_18 : decode cJ3_checkFromToIndex_8c36e 18 = .ok (.invokestatic 99, 3) := by decide +kernel
theorem dJ3_checkFromToIndex_8c36e_21 : decode cJ3_checkFromToIndex_8c36e 21 = .ok (.athrow, 1) := by decide +kernel
theorem dJ3_checkFromToIndex_8c36e_22 : decode cJ3_checkFromToIndex_8c36e 22 = .ok (.iload_n 0, 1) := by decide +kernel
theorem dJ3_checkFromToIndex_8c36e_23 : decode cJ3_checkFromToIndex_8c36e 23 = .ok (.ireturn, 1) := by decide +kernel
end
section
theorem dL_law_0 : decode cL_law 0 = .ok (.new 7, 3) := by decide +kernel
theorem dL_law_3 : decode cL_law 3 = .ok (.dup, 1) := by decide +kernel
theorem dL_law_4 : decode cL_law 4 = .ok (.invokespecial 9, 3) := by decide +kernel
theorem dL_law_7 : decode cL_law 7 = .ok (.astore_n 1, 1) := by decide +kernel
theorem dL_law_8 : decode cL_law 8 = .ok (.new 10, 3) := by decide +kernel
theorem dL_law_11 : decode cL_law 11 = .ok (.dup, 1) := by decide +kernel
theorem dL_law_12 : decode cL_law 12 = .ok (.invokespecial 12, 3) := by decide +kernel
theorem dL_law_15 : decode cL_law 15 = .ok (.astore_n 2, 1) := by decide +kernel
theorem dL_law_16 : decode cL_law 16 = .ok (.iconst 0, 1) := by decide +kernel
theorem dL_law_17 : decode cL_law 17 = .ok (.istore_n 3, 1) := by decide +kernel
theorem dL_law_18 : decode cL_law 18 = .ok (.iload_n 3, 1) := by decide +kernel
theorem dL_law_19 : decode cL_law 19 = .ok (.aload_n 0, 1) := by decide +kernel
theorem dL_law_20 : decode cL_law 20 = .ok (.arraylength, 1) := by decide +kernel
theorem dL_law_21 : decode cL_law 21 = .ok (.iconst 4, 1) := by decide +kernel
theorem dL_law_22 : decode cL_law 22 = .ok (.isub, 1) := by decide +kernel
theorem dL_law_23 : decode cL_law 23 = .ok (.if_icmp .gt 818, 3) := by decide +kernel
theorem dL_law_26 : decode cL_law 26 = .ok (.aload_n 0, 1) := by decide +kernel
theorem dL_law_27 : decode cL_law 27 = .ok (.iload_n 3, 1) := by decide +kernel
theorem dL_law_28 : decode cL_law 28 = .ok (.iaload, 1) := by decide +kernel
theorem dL_law_29 : decode cL_law 29 = .ok (.bipush 31, 2) := by decide +kernel
theorem dL_law_31 : decode cL_law 31 = .ok (.iand, 1) := by decide +kernel
theorem dL_law_32 : decode cL_law 32 = .ok (.tableswitch 803 0 27 #[128, 151, 164, 177, 190, 223, 256, 289, 322, 345, 378, 391, 404, 427, 450, 483, 516, 539, 552, 585, 618, 641, 684, 697, 740, 753, 766, 789], 128) := by decide +kernel
theorem dL_law_160 : decode cL_law 160 = .ok (.aload_n 1, 1) := by decide +kernel
theorem dL_law_161 : decode cL_law 161 = .ok (.aload_n 0, 1) := by decide +kernel
theorem dL_law_162 : decode cL_law 162 = .ok (.iload_n 3, 1) := by decide +kernel
theorem dL_law_163 : decode cL_law 163 = .ok (.iconst 1, 1) := by decide +kernel
theorem dL_law_164 : decode cL_law 164 = .ok (.iadd, 1) := by decide +kernel
theorem dL_law_165 : decode cL_law 165 = .ok (.iaload, 1) := by decide +kernel
theorem dL_law_166 : decode cL_law 166 = .ok (.invokevirtual 13, 3) := by decide +kernel
theorem dL_law_169 : decode cL_law 169 = .ok (.aload_n 2, 1) := by decide +kernel
theorem dL_law_170 : decode cL_law 170 = .ok (.aload_n 0, 1) := by decide +kernel
theorem dL_law_171 : decode cL_law 171 = .ok (.iload_n 3, 1) := by decide +kernel
theorem dL_law_172 : decode cL_law 172 = .ok (.iconst 1, 1) := by decide +kernel
theorem dL_law_173 : decode cL_law 173 = .ok (.iadd, 1) := by decide +kernel
theorem dL_law_174 : decode cL_law 174 = .ok (.iaload, 1) := by decide +kernel
theorem dL_law_175 : decode cL_law 175 = .ok (.invokevirtual 17, 3) := by decide +kernel
theorem dL_law_178 : decode cL_law 178 = .ok (.if_icmp .eq 657, 3) := by decide +kernel
theorem dL_law_181 : decode cL_law 181 = .ok (.iconst 0, 1) := by decide +kernel
theorem dL_law_182 : decode cL_law 182 = .ok (.ireturn, 1) := by decide +kernel
theorem dL_law_183 : decode cL_law 183 = .ok (.aload_n 1, 1) := by decide +kernel
theorem dL_law_184 : decode cL_law 184 = .ok (.invokevirtual 18, 3) := by decide +kernel
theorem dL_law_187 : decode cL_law 187 = .ok (.aload_n 2, 1) := by decide +kernel
theorem dL_law_188 : decode cL_law 188 = .ok (.invokevirtual 22, 3) := by decide +kernel
theorem dL_law_191 : decode cL_law 191 = .ok (.if_icmp .eq 644, 3) := by decide +kernel
theorem dL_law_194 : decode cL_law 194 = .ok (.iconst 0, 1) := by decide +kernel
theorem dL_law_195 : decode cL_law 195 = .ok (.ireturn, 1) := by decide +kernel
theorem dL_law_196 : decode cL_law 196 = .ok (.aload_n 1, 1) := by decide +kernel
theorem dL_law_197 : decode cL_law 197 = .ok (.invokevirtual 23, 3) := by decide +kernel
theorem dL_law_200 : decode cL_law 200 = .ok (.aload_n 2, 1) := by decide +kernel
theorem dL_law_201 : decode cL_law 201 = .ok (.invokevirtual 26, 3) := by decide +kernel
theorem dL_law_204 : decode cL_law 204 = .ok (.if_icmp .eq 631, 3) := by decide +kernel
theorem dL_law_207 : decode cL_law 207 = .ok (.iconst 0, 1) := by decide +kernel
theorem dL_law_208 : decode cL_law 208 = .ok (.ireturn, 1) := by decide +kernel
theorem dL_law_209 : decode cL_law 209 = .ok (.aload_n 1, 1) := by decide +kernel
theorem dL_law_210 : decode cL_law 210 = .ok (.invokevirtual 27, 3) := by decide +kernel
theorem dL_law_213 : decode cL_law 213 = .ok (.aload_n 2, 1) := by decide +kernel
theorem dL_law_214 : decode cL_law 214 = .ok (.invokevirtual 30, 3) := by decide +kernel
theorem dL_law_217 : decode cL_law 217 = .ok (.if_icmp .eq 618, 3) := by decide +kernel
theorem dL_law_220 : decode cL_law 220 = .ok (.iconst 0, 1) := by decide +kernel
theorem dL_law_221 : decode cL_law 221 = .ok (.ireturn, 1) := by decide +kernel
theorem dL_law_222 : decode cL_law 222 = .ok (.aload_n 1, 1) := by decide +kernel
theorem dL_law_223 : decode cL_law 223 = .ok (.aload_n 0, 1) := by decide +kernel
theorem dL_law_224 : decode cL_law 224 = .ok (.iload_n 3, 1) := by decide +kernel
theorem dL_law_225 : decode cL_law 225 = .ok (.iconst 1, 1) := by decide +kernel
theorem dL_law_226 : decode cL_law 226 = .ok (.iadd, 1) := by decide +kernel
theorem dL_law_227 : decode cL_law 227 = .ok (.iaload, 1) := by decide +kernel
theorem dL_law_228 : decode cL_law 228 = .ok (.aload_n 0, 1) := by decide +kernel
theorem dL_law_229 : decode cL_law 229 = .ok (.iload_n 3, 1) := by decide +kernel
theorem dL_law_230 : decode cL_law 230 = .ok (.iconst 2, 1) := by decide +kernel
theorem dL_law_231 : decode cL_law 231 = .ok (.iadd, 1) := by decide +kernel
theorem dL_law_232 : decode cL_law 232 = .ok (.iaload, 1) := by decide +kernel
theorem dL_law_233 : decode cL_law 233 = .ok (.invokevirtual 31, 3) := by decide +kernel
theorem dL_law_236 : decode cL_law 236 = .ok (.aload_n 2, 1) := by decide +kernel
theorem dL_law_237 : decode cL_law 237 = .ok (.aload_n 0, 1) := by decide +kernel
theorem dL_law_238 : decode cL_law 238 = .ok (.iload_n 3, 1) := by decide +kernel
theorem dL_law_239 : decode cL_law 239 = .ok (.iconst 1, 1) := by decide +kernel
theorem dL_law_240 : decode cL_law 240 = .ok (.iadd, 1) := by decide +kernel
theorem dL_law_241 : decode cL_law 241 = .ok (.iaload, 1) := by decide +kernel
theorem dL_law_242 : decode cL_law 242 = .ok (.aload_n 0, 1) := by decide +kernel
theorem dL_law_243 : decode cL_law 243 = .ok (.iload_n 3, 1) := by decide +kernel
theorem dL_law_244 : decode cL_law 244 = .ok (.iconst 2, 1) := by decide +kernel
theorem dL_law_245 : decode cL_law 245 = .ok (.iadd, 1) := by decide +kernel
theorem dL_law_246 : decode cL_law 246 = .ok (.iaload, 1) := by decide +kernel
theorem dL_law_247 : decode cL_law 247 = .ok (.invokevirtual 35, 3) := by decide +kernel
theorem dL_law_250 : decode cL_law 250 = .ok (.if_icmp .eq 585, 3) := by decide +kernel
theorem dL_law_253 : decode cL_law 253 = .ok (.iconst 0, 1) := by decide +kernel
theorem dL_law_254 : decode cL_law 254 = .ok (.ireturn, 1) := by decide +kernel
theorem dL_law_255 : decode cL_law 255 = .ok (.aload_n 1, 1) := by decide +kernel
theorem dL_law_256 : decode cL_law 256 = .ok (.aload_n 0, 1) := by decide +kernel
theorem dL_law_257 : decode cL_law 257 = .ok (.iload_n 3, 1) := by decide +kernel
theorem dL_law_258 : decode cL_law 258 = .ok (.iconst 1, 1) := by decide +kernel
theorem dL_law_259 : decode cL_law 259 = .ok (.iadd, 1) := by decide +kernel
theorem dL_law_260 : decode cL_law 260 = .ok (.iaload, 1) := by decide +kernel
theorem dL_law_261 : decode cL_law 261 = .ok (.aload_n 0, 1) := by decide +kernel
theorem dL_law_262 : decode cL_law 262 = .ok (.iload_n 3, 1) := by decide +kernel
theorem dL_law_263 : decode cL_law 263 = .ok (.iconst 2, 1) := by decide +kernel
theorem dL_law_264 : decode cL_law 264 = .ok (.iadd, 1) := by decide +kernel
theorem dL_law_265 : decode cL_law 265 = .ok (.iaload, 1) := by decide +kernel
theorem dL_law_266 : decode cL_law 266 = .ok (.invokevirtual 36, 3) := by decide +kernel
theorem dL_law_269 : decode cL_law 269 = .ok (.aload_n 2, 1) := by decide +kernel
theorem dL_law_270 : decode cL_law 270 = .ok (.aload_n 0, 1) := by decide +kernel
theorem dL_law_271 : decode cL_law 271 = .ok (.iload_n 3, 1) := by decide +kernel
theorem dL_law_272 : decode cL_law 272 = .ok (.iconst 1, 1) := by decide +kernel
theorem dL_law_273 : decode cL_law 273 = .ok (.iadd, 1) := by decide +kernel
theorem dL_law_274 : decode cL_law 274 = .ok (.iaload, 1) := by decide +kernel
theorem dL_law_275 : decode cL_law 275 = .ok (.aload_n 0, 1) := by decide +kernel
theorem dL_law_276 : decode cL_law 276 = .ok (.iload_n 3, 1) := by decide +kernel
theorem dL_law_277 : decode cL_law 277 = .ok (.iconst 2, 1) := by decide +kernel
theorem dL_law_278 : decode cL_law 278 = .ok (.iadd, 1) := by decide +kernel
theorem dL_law_279 : decode cL_law 279 = .ok (.iaload, 1) := by decide +kernel
theorem dL_law_280 : decode cL_law 280 = .ok (.invokevirtual 39, 3) := by decide +kernel
theorem dL_law_283 : decode cL_law 283 = .ok (.if_icmp .eq 552, 3) := by decide +kernel
theorem dL_law_286 : decode cL_law 286 = .ok (.iconst 0, 1) := by decide +kernel
theorem dL_law_287 : decode cL_law 287 = .ok (.ireturn, 1) := by decide +kernel
theorem dL_law_288 : decode cL_law 288 = .ok (.aload_n 1, 1) := by decide +kernel
theorem dL_law_289 : decode cL_law 289 = .ok (.aload_n 0, 1) := by decide +kernel
theorem dL_law_290 : decode cL_law 290 = .ok (.iload_n 3, 1) := by decide +kernel
theorem dL_law_291 : decode cL_law 291 = .ok (.iconst 1, 1) := by decide +kernel
theorem dL_law_292 : decode cL_law 292 = .ok (.iadd, 1) := by decide +kernel
theorem dL_law_293 : decode cL_law 293 = .ok (.iaload, 1) := by decide +kernel
theorem dL_law_294 : decode cL_law 294 = .ok (.aload_n 0, 1) := by decide +kernel
theorem dL_law_295 : decode cL_law 295 = .ok (.iload_n 3, 1) := by decide +kernel
theorem dL_law_296 : decode cL_law 296 = .ok (.iconst 2, 1) := by decide +kernel
theorem dL_law_297 : decode cL_law 297 = .ok (.iadd, 1) := by decide +kernel
theorem dL_law_298 : decode cL_law 298 = .ok (.iaload, 1) := by decide +kernel
theorem dL_law_299 : decode cL_law 299 = .ok (.invokevirtual 40, 3) := by decide +kernel
theorem dL_law_302 : decode cL_law 302 = .ok (.aload_n 2, 1) := by decide +kernel
theorem dL_law_303 : decode cL_law 303 = .ok (.aload_n 0, 1) := by decide +kernel
theorem dL_law_304 : decode cL_law 304 = .ok (.iload_n 3, 1) := by decide +kernel
theorem dL_law_305 : decode cL_law 305 = .ok (.iconst 1, 1) := by decide +kernel
theorem dL_law_306 : decode cL_law 306 = .ok (.iadd, 1) := by decide +kernel
theorem dL_law_307 : decode cL_law 307 = .ok (.iaload, 1) := by decide +kernel
theorem dL_law_308 : decode cL_law 308 = .ok (.aload_n 0, 1) := by decide +kernel
theorem dL_law_309 : decode cL_law 309 = .ok (.iload_n 3, 1) := by decide +kernel
theorem dL_law_310 : decode cL_law 310 = .ok (.iconst 2, 1) := by decide +kernel
theorem dL_law_311 : decode cL_law 311 = .ok (.iadd, 1) := by decide +kernel
theorem dL_law_312 : decode cL_law 312 = .ok (.iaload, 1) := by decide +kernel
theorem dL_law_313 : decode cL_law 313 = .ok (.invokevirtual 43, 3) := by decide +kernel
theorem dL_law_316 : decode cL_law 316 = .ok (.if_icmp .eq 519, 3) := by decide +kernel
theorem dL_law_319 : decode cL_law 319 = .ok (.iconst 0, 1) := by decide +kernel
theorem dL_law_320 : decode cL_law 320 = .ok (.ireturn, 1) := by decide +kernel
theorem dL_law_321 : decode cL_law 321 = .ok (.aload_n 1, 1) := by decide +kernel
theorem dL_law_322 : decode cL_law 322 = .ok (.aload_n 0, 1) := by decide +kernel
theorem dL_law_323 : decode cL_law 323 = .ok (.iload_n 3, 1) := by decide +kernel
theorem dL_law_324 : decode cL_law 324 = .ok (.iconst 1, 1) := by decide +kernel
theorem dL_law_325 : decode cL_law 325 = .ok (.iadd, 1) := by decide +kernel
theorem dL_law_326 : decode cL_law 326 = .ok (.iaload, 1) := by decide +kernel
theorem dL_law_327 : decode cL_law 327 = .ok (.aload_n 0, 1) := by decide +kernel
theorem dL_law_328 : decode cL_law 328 = .ok (.iload_n 3, 1) := by decide +kernel
theorem dL_law_329 : decode cL_law 329 = .ok (.iconst 2, 1) := by decide +kernel
theorem dL_law_330 : decode cL_law 330 = .ok (.iadd, 1) := by decide +kernel
theorem dL_law_331 : decode cL_law 331 = .ok (.iaload, 1) := by decide +kernel
theorem dL_law_332 : decode cL_law 332 = .ok (.invokevirtual 44, 3) := by decide +kernel
theorem dL_law_335 : decode cL_law 335 = .ok (.aload_n 2, 1) := by decide +kernel
theorem dL_law_336 : decode cL_law 336 = .ok (.aload_n 0, 1) := by decide +kernel
theorem dL_law_337 : decode cL_law 337 = .ok (.iload_n 3, 1) := by decide +kernel
theorem dL_law_338 : decode cL_law 338 = .ok (.iconst 1, 1) := by decide +kernel
theorem dL_law_339 : decode cL_law 339 = .ok (.iadd, 1) := by decide +kernel
theorem dL_law_340 : decode cL_law 340 = .ok (.iaload, 1) := by decide +kernel
theorem dL_law_341 : decode cL_law 341 = .ok (.aload_n 0, 1) := by decide +kernel
theorem dL_law_342 : decode cL_law 342 = .ok (.iload_n 3, 1) := by decide +kernel
theorem dL_law_343 : decode cL_law 343 = .ok (.iconst 2, 1) := by decide +kernel
theorem dL_law_344 : decode cL_law 344 = .ok (.iadd, 1) := by decide +kernel
theorem dL_law_345 : decode cL_law 345 = .ok (.iaload, 1) := by decide +kernel
theorem dL_law_346 : decode cL_law 346 = .ok (.invokevirtual 47, 3) := by decide +kernel
theorem dL_law_349 : decode cL_law 349 = .ok (.if_icmp .eq 486, 3) := by decide +kernel
theorem dL_law_352 : decode cL_law 352 = .ok (.iconst 0, 1) := by decide +kernel
theorem dL_law_353 : decode cL_law 353 = .ok (.ireturn, 1) := by decide +kernel
theorem dL_law_354 : decode cL_law 354 = .ok (.aload_n 1, 1) := by decide +kernel
theorem dL_law_355 : decode cL_law 355 = .ok (.aload_n 0, 1) := by decide +kernel
theorem dL_law_356 : decode cL_law 356 = .ok (.iload_n 3, 1) := by decide +kernel
theorem dL_law_357 : decode cL_law 357 = .ok (.iconst 1, 1) := by decide +kernel
theorem dL_law_358 : decode cL_law 358 = .ok (.iadd, 1) := by decide +kernel
theorem dL_law_359 : decode cL_law 359 = .ok (.iaload, 1) := by decide +kernel
theorem dL_law_360 : decode cL_law 360 = .ok (.invokevirtual 48, 3) := by decide +kernel
theorem dL_law_363 : decode cL_law 363 = .ok (.aload_n 2, 1) := by decide +kernel
theorem dL_law_364 : decode cL_law 364 = .ok (.aload_n 0, 1) := by decide +kernel
theorem dL_law_365 : decode cL_law 365 = .ok (.iload_n 3, 1) := by decide +kernel
theorem dL_law_366 : decode cL_law 366 = .ok (.iconst 1, 1) := by decide +kernel
theorem dL_law_367 : decode cL_law 367 = .ok (.iadd, 1) := by decide +kernel
theorem dL_law_368 : decode cL_law 368 = .ok (.iaload, 1) := by decide +kernel
theorem dL_law_369 : decode cL_law 369 = .ok (.invokevirtual 51, 3) := by decide +kernel
theorem dL_law_372 : decode cL_law 372 = .ok (.if_icmp .eq 463, 3) := by decide +kernel
theorem dL_law_375 : decode cL_law 375 = .ok (.iconst 0, 1) := by decide +kernel
theorem dL_law_376 : decode cL_law 376 = .ok (.ireturn, 1) := by decide +kernel
theorem dL_law_377 : decode cL_law 377 = .ok (.aload_n 1, 1) := by decide +kernel
theorem dL_law_378 : decode cL_law 378 = .ok (.aload_n 0, 1) := by decide +kernel
theorem dL_law_379 : decode cL_law 379 = .ok (.iload_n 3, 1) := by decide +kernel
theorem dL_law_380 : decode cL_law 380 = .ok (.iconst 1, 1) := by decide +kernel
theorem dL_law_381 : decode cL_law 381 = .ok (.iadd, 1) := by decide +kernel
theorem dL_law_382 : decode cL_law 382 = .ok (.iaload, 1) := by decide +kernel
theorem dL_law_383 : decode cL_law 383 = .ok (.aload_n 0, 1) := by decide +kernel
theorem dL_law_384 : decode cL_law 384 = .ok (.iload_n 3, 1) := by decide +kernel
theorem dL_law_385 : decode cL_law 385 = .ok (.iconst 2, 1) := by decide +kernel
theorem dL_law_386 : decode cL_law 386 = .ok (.iadd, 1) := by decide +kernel
theorem dL_law_387 : decode cL_law 387 = .ok (.iaload, 1) := by decide +kernel
theorem dL_law_388 : decode cL_law 388 = .ok (.invokevirtual 52, 3) := by decide +kernel
theorem dL_law_391 : decode cL_law 391 = .ok (.aload_n 2, 1) := by decide +kernel
theorem dL_law_392 : decode cL_law 392 = .ok (.aload_n 0, 1) := by decide +kernel
theorem dL_law_393 : decode cL_law 393 = .ok (.iload_n 3, 1) := by decide +kernel
theorem dL_law_394 : decode cL_law 394 = .ok (.iconst 1, 1) := by decide +kernel
theorem dL_law_395 : decode cL_law 395 = .ok (.iadd, 1) := by decide +kernel
theorem dL_law_396 : decode cL_law 396 = .ok (.iaload, 1) := by decide +kernel
theorem dL_law_397 : decode cL_law 397 = .ok (.aload_n 0, 1) := by decide +kernel
theorem dL_law_398 : decode cL_law 398 = .ok (.iload_n 3, 1) := by decide +kernel
theorem dL_law_399 : decode cL_law 399 = .ok (.iconst 2, 1) := by decide +kernel
theorem dL_law_400 : decode cL_law 400 = .ok (.iadd, 1) := by decide +kernel
theorem dL_law_401 : decode cL_law 401 = .ok (.iaload, 1) := by decide +kernel
theorem dL_law_402 : decode cL_law 402 = .ok (.invokevirtual 55, 3) := by decide +kernel
theorem dL_law_405 : decode cL_law 405 = .ok (.if_icmp .eq 430, 3) := by decide +kernel
theorem dL_law_408 : decode cL_law 408 = .ok (.iconst 0, 1) := by decide +kernel
theorem dL_law_409 : decode cL_law 409 = .ok (.ireturn, 1) := by decide +kernel
theorem dL_law_410 : decode cL_law 410 = .ok (.aload_n 1, 1) := by decide +kernel
theorem dL_law_411 : decode cL_law 411 = .ok (.invokevirtual 56, 3) := by decide +kernel
theorem dL_law_414 : decode cL_law 414 = .ok (.aload_n 2, 1) := by decide +kernel
theorem dL_law_415 : decode cL_law 415 = .ok (.invokevirtual 59, 3) := by decide +kernel
theorem dL_law_418 : decode cL_law 418 = .ok (.if_icmp .eq 417, 3) := by decide +kernel
theorem dL_law_421 : decode cL_law 421 = .ok (.iconst 0, 1) := by decide +kernel
theorem dL_law_422 : decode cL_law 422 = .ok (.ireturn, 1) := by decide +kernel
theorem dL_law_423 : decode cL_law 423 = .ok (.aload_n 1, 1) := by decide +kernel
theorem dL_law_424 : decode cL_law 424 = .ok (.invokevirtual 60, 3) := by decide +kernel
theorem dL_law_427 : decode cL_law 427 = .ok (.aload_n 2, 1) := by decide +kernel
theorem dL_law_428 : decode cL_law 428 = .ok (.invokevirtual 63, 3) := by decide +kernel
theorem dL_law_431 : decode cL_law 431 = .ok (.if_icmp .eq 404, 3) := by decide +kernel
theorem dL_law_434 : decode cL_law 434 = .ok (.iconst 0, 1) := by decide +kernel
theorem dL_law_435 : decode cL_law 435 = .ok (.ireturn, 1) := by decide +kernel
theorem dL_law_436 : decode cL_law 436 = .ok (.aload_n 1, 1) := by decide +kernel
theorem dL_law_437 : decode cL_law 437 = .ok (.aload_n 0, 1) := by decide +kernel
theorem dL_law_438 : decode cL_law 438 = .ok (.iload_n 3, 1) := by decide +kernel
theorem dL_law_439 : decode cL_law 439 = .ok (.iconst 1, 1) := by decide +kernel
theorem dL_law_440 : decode cL_law 440 = .ok (.iadd, 1) := by decide +kernel
theorem dL_law_441 : decode cL_law 441 = .ok (.iaload, 1) := by decide +kernel
theorem dL_law_442 : decode cL_law 442 = .ok (.invokevirtual 64, 3) := by decide +kernel
theorem dL_law_445 : decode cL_law 445 = .ok (.aload_n 2, 1) := by decide +kernel
theorem dL_law_446 : decode cL_law 446 = .ok (.aload_n 0, 1) := by decide +kernel
theorem dL_law_447 : decode cL_law 447 = .ok (.iload_n 3, 1) := by decide +kernel
theorem dL_law_448 : decode cL_law 448 = .ok (.iconst 1, 1) := by decide +kernel
theorem dL_law_449 : decode cL_law 449 = .ok (.iadd, 1) := by decide +kernel
theorem dL_law_450 : decode cL_law 450 = .ok (.iaload, 1) := by decide +kernel
theorem dL_law_451 : decode cL_law 451 = .ok (.invokevirtual 67, 3) := by decide +kernel
theorem dL_law_454 : decode cL_law 454 = .ok (.if_icmp .eq 381, 3) := by decide +kernel
theorem dL_law_457 : decode cL_law 457 = .ok (.iconst 0, 1) := by decide +kernel
theorem dL_law_458 : decode cL_law 458 = .ok (.ireturn, 1) := by decide +kernel
theorem dL_law_459 : decode cL_law 459 = .ok (.aload_n 1, 1) := by decide +kernel
theorem dL_law_460 : decode cL_law 460 = .ok (.aload_n 0, 1) := by decide +kernel
theorem dL_law_461 : decode cL_law 461 = .ok (.iload_n 3, 1) := by decide +kernel
theorem dL_law_462 : decode cL_law 462 = .ok (.iconst 1, 1) := by decide +kernel
theorem dL_law_463 : decode cL_law 463 = .ok (.iadd, 1) := by decide +kernel
theorem dL_law_464 : decode cL_law 464 = .ok (.iaload, 1) := by decide +kernel
theorem dL_law_465 : decode cL_law 465 = .ok (.invokevirtual 68, 3) := by decide +kernel
theorem dL_law_468 : decode cL_law 468 = .ok (.aload_n 2, 1) := by decide +kernel
theorem dL_law_469 : decode cL_law 469 = .ok (.aload_n 0, 1) := by decide +kernel
theorem dL_law_470 : decode cL_law 470 = .ok (.iload_n 3, 1) := by decide +kernel
theorem dL_law_471 : decode cL_law 471 = .ok (.iconst 1, 1) := by decide +kernel
theorem dL_law_472 : decode cL_law 472 = .ok (.iadd, 1) := by decide +kernel
theorem dL_law_473 : decode cL_law 473 = .ok (.iaload, 1) := by decide +kernel
theorem dL_law_474 : decode cL_law 474 = .ok (.invokevirtual 71, 3) := by decide +kernel
theorem dL_law_477 : decode cL_law 477 = .ok (.if_icmp .eq 358, 3) := by decide +kernel
theorem dL_law_480 : decode cL_law 480 = .ok (.iconst 0, 1) := by decide +kernel
theorem dL_law_481 : decode cL_law 481 = .ok (.ireturn, 1) := by decide +kernel
theorem dL_law_482 : decode cL_law 482 = .ok (.aload_n 1, 1) := by decide +kernel
theorem dL_law_483 : decode cL_law 483 = .ok (.aload_n 0, 1) := by decide +kernel
theorem dL_law_484 : decode cL_law 484 = .ok (.iload_n 3, 1) := by decide +kernel
theorem dL_law_485 : decode cL_law 485 = .ok (.iconst 1, 1) := by decide +kernel
theorem dL_law_486 : decode cL_law 486 = .ok (.iadd, 1) := by decide +kernel
theorem dL_law_487 : decode cL_law 487 = .ok (.iaload, 1) := by decide +kernel
theorem dL_law_488 : decode cL_law 488 = .ok (.aload_n 0, 1) := by decide +kernel
theorem dL_law_489 : decode cL_law 489 = .ok (.iload_n 3, 1) := by decide +kernel
theorem dL_law_490 : decode cL_law 490 = .ok (.iconst 2, 1) := by decide +kernel
theorem dL_law_491 : decode cL_law 491 = .ok (.iadd, 1) := by decide +kernel
theorem dL_law_492 : decode cL_law 492 = .ok (.iaload, 1) := by decide +kernel
theorem dL_law_493 : decode cL_law 493 = .ok (.invokevirtual 72, 3) := by decide +kernel
theorem dL_law_496 : decode cL_law 496 = .ok (.aload_n 2, 1) := by decide +kernel
theorem dL_law_497 : decode cL_law 497 = .ok (.aload_n 0, 1) := by decide +kernel
theorem dL_law_498 : decode cL_law 498 = .ok (.iload_n 3, 1) := by decide +kernel
theorem dL_law_499 : decode cL_law 499 = .ok (.iconst 1, 1) := by decide +kernel
theorem dL_law_500 : decode cL_law 500 = .ok (.iadd, 1) := by decide +kernel
theorem dL_law_501 : decode cL_law 501 = .ok (.iaload, 1) := by decide +kernel
theorem dL_law_502 : decode cL_law 502 = .ok (.aload_n 0, 1) := by decide +kernel
theorem dL_law_503 : decode cL_law 503 = .ok (.iload_n 3, 1) := by decide +kernel
theorem dL_law_504 : decode cL_law 504 = .ok (.iconst 2, 1) := by decide +kernel
theorem dL_law_505 : decode cL_law 505 = .ok (.iadd, 1) := by decide +kernel
theorem dL_law_506 : decode cL_law 506 = .ok (.iaload, 1) := by decide +kernel
theorem dL_law_507 : decode cL_law 507 = .ok (.invokevirtual 75, 3) := by decide +kernel
theorem dL_law_510 : decode cL_law 510 = .ok (.if_icmp .eq 325, 3) := by decide +kernel
theorem dL_law_513 : decode cL_law 513 = .ok (.iconst 0, 1) := by decide +kernel
theorem dL_law_514 : decode cL_law 514 = .ok (.ireturn, 1) := by decide +kernel
theorem dL_law_515 : decode cL_law 515 = .ok (.aload_n 1, 1) := by decide +kernel
theorem dL_law_516 : decode cL_law 516 = .ok (.aload_n 0, 1) := by decide +kernel
theorem dL_law_517 : decode cL_law 517 = .ok (.iload_n 3, 1) := by decide +kernel
theorem dL_law_518 : decode cL_law 518 = .ok (.iconst 1, 1) := by decide +kernel
theorem dL_law_519 : decode cL_law 519 = .ok (.iadd, 1) := by decide +kernel
theorem dL_law_520 : decode cL_law 520 = .ok (.iaload, 1) := by decide +kernel
theorem dL_law_521 : decode cL_law 521 = .ok (.aload_n 0, 1) := by decide +kernel
theorem dL_law_522 : decode cL_law 522 = .ok (.iload_n 3, 1) := by decide +kernel
theorem dL_law_523 : decode cL_law 523 = .ok (.iconst 2, 1) := by decide +kernel
theorem dL_law_524 : decode cL_law 524 = .ok (.iadd, 1) := by decide +kernel
theorem dL_law_525 : decode cL_law 525 = .ok (.iaload, 1) := by decide +kernel
theorem dL_law_526 : decode cL_law 526 = .ok (.invokevirtual 76, 3) := by decide +kernel
theorem dL_law_529 : decode cL_law 529 = .ok (.aload_n 2, 1) := by decide +kernel
theorem dL_law_530 : decode cL_law 530 = .ok (.aload_n 0, 1) := by decide +kernel
theorem dL_law_531 : decode cL_law 531 = .ok (.iload_n 3, 1) := by decide +kernel
theorem dL_law_532 : decode cL_law 532 = .ok (.iconst 1, 1) := by decide +kernel
theorem dL_law_533 : decode cL_law 533 = .ok (.iadd, 1) := by decide +kernel
theorem dL_law_534 : decode cL_law 534 = .ok (.iaload, 1) := by decide +kernel
theorem dL_law_535 : decode cL_law 535 = .ok (.aload_n 0, 1) := by decide +kernel
theorem dL_law_536 : decode cL_law 536 = .ok (.iload_n 3, 1) := by decide +kernel
theorem dL_law_537 : decode cL_law 537 = .ok (.iconst 2, 1) := by decide +kernel
theorem dL_law_538 : decode cL_law 538 = .ok (.iadd, 1) := by decide +kernel
theorem dL_law_539 : decode cL_law 539 = .ok (.iaload, 1) := by decide +kernel
theorem dL_law_540 : decode cL_law 540 = .ok (.invokevirtual 79, 3) := by decide +kernel
theorem dL_law_543 : decode cL_law 543 = .ok (.if_icmp .eq 292, 3) := by decide +kernel
theorem dL_law_546 : decode cL_law 546 = .ok (.iconst 0, 1) := by decide +kernel
theorem dL_law_547 : decode cL_law 547 = .ok (.ireturn, 1) := by decide +kernel
theorem dL_law_548 : decode cL_law 548 = .ok (.aload_n 1, 1) := by decide +kernel
theorem dL_law_549 : decode cL_law 549 = .ok (.aload_n 0, 1) := by decide +kernel
theorem dL_law_550 : decode cL_law 550 = .ok (.iload_n 3, 1) := by decide +kernel
theorem dL_law_551 : decode cL_law 551 = .ok (.iconst 1, 1) := by decide +kernel
theorem dL_law_552 : decode cL_law 552 = .ok (.iadd, 1) := by decide +kernel
theorem dL_law_553 : decode cL_law 553 = .ok (.iaload, 1) := by decide +kernel
theorem dL_law_554 : decode cL_law 554 = .ok (.invokevirtual 80, 3) := by decide +kernel
theorem dL_law_557 : decode cL_law 557 = .ok (.aload_n 2, 1) := by decide +kernel
theorem dL_law_558 : decode cL_law 558 = .ok (.aload_n 0, 1) := by decide +kernel
theorem dL_law_559 : decode cL_law 559 = .ok (.iload_n 3, 1) := by decide +kernel
theorem dL_law_560 : decode cL_law 560 = .ok (.iconst 1, 1) := by decide +kernel
theorem dL_law_561 : decode cL_law 561 = .ok (.iadd, 1) := by decide +kernel
theorem dL_law_562 : decode cL_law 562 = .ok (.iaload, 1) := by decide +kernel
theorem dL_law_563 : decode cL_law 563 = .ok (.invokevirtual 83, 3) := by decide +kernel
theorem dL_law_566 : decode cL_law 566 = .ok (.if_icmp .eq 269, 3) := by decide +kernel
theorem dL_law_569 : decode cL_law 569 = .ok (.iconst 0, 1) := by decide +kernel
theorem dL_law_570 : decode cL_law 570 = .ok (.ireturn, 1) := by decide +kernel
theorem dL_law_571 : decode cL_law 571 = .ok (.aload_n 1, 1) := by decide +kernel
theorem dL_law_572 : decode cL_law 572 = .ok (.invokevirtual 84, 3) := by decide +kernel
theorem dL_law_575 : decode cL_law 575 = .ok (.aload_n 2, 1) := by decide +kernel
theorem dL_law_576 : decode cL_law 576 = .ok (.invokevirtual 87, 3) := by decide +kernel
theorem dL_law_579 : decode cL_law 579 = .ok (.if_icmp .eq 256, 3) := by decide +kernel
theorem dL_law_582 : decode cL_law 582 = .ok (.iconst 0, 1) := by decide +kernel
theorem dL_law_583 : decode cL_law 583 = .ok (.ireturn, 1) := by decide +kernel
theorem dL_law_584 : decode cL_law 584 = .ok (.aload_n 1, 1) := by decide +kernel
theorem dL_law_585 : decode cL_law 585 = .ok (.aload_n 0, 1) := by decide +kernel
theorem dL_law_586 : decode cL_law 586 = .ok (.iload_n 3, 1) := by decide +kernel
theorem dL_law_587 : decode cL_law 587 = .ok (.iconst 1, 1) := by decide +kernel
theorem dL_law_588 : decode cL_law 588 = .ok (.iadd, 1) := by decide +kernel
theorem dL_law_589 : decode cL_law 589 = .ok (.iaload, 1) := by decide +kernel
theorem dL_law_590 : decode cL_law 590 = .ok (.aload_n 0, 1) := by decide +kernel
theorem dL_law_591 : decode cL_law 591 = .ok (.iload_n 3, 1) := by decide +kernel
theorem dL_law_592 : decode cL_law 592 = .ok (.iconst 2, 1) := by decide +kernel
theorem dL_law_593 : decode cL_law 593 = .ok (.iadd, 1) := by decide +kernel
theorem dL_law_594 : decode cL_law 594 = .ok (.iaload, 1) := by decide +kernel
theorem dL_law_595 : decode cL_law 595 = .ok (.invokevirtual 88, 3) := by decide +kernel
theorem dL_law_598 : decode cL_law 598 = .ok (.aload_n 2, 1) := by decide +kernel
theorem dL_law_599 : decode cL_law 599 = .ok (.aload_n 0, 1) := by decide +kernel
theorem dL_law_600 : decode cL_law 600 = .ok (.iload_n 3, 1) := by decide +kernel
theorem dL_law_601 : decode cL_law 601 = .ok (.iconst 1, 1) := by decide +kernel
theorem dL_law_602 : decode cL_law 602 = .ok (.iadd, 1) := by decide +kernel
theorem dL_law_603 : decode cL_law 603 = .ok (.iaload, 1) := by decide +kernel
theorem dL_law_604 : decode cL_law 604 = .ok (.aload_n 0, 1) := by decide +kernel
theorem dL_law_605 : decode cL_law 605 = .ok (.iload_n 3, 1) := by decide +kernel
theorem dL_law_606 : decode cL_law 606 = .ok (.iconst 2, 1) := by decide +kernel
theorem dL_law_607 : decode cL_law 607 = .ok (.iadd, 1) := by decide +kernel
theorem dL_law_608 : decode cL_law 608 = .ok (.iaload, 1) := by decide +kernel
theorem dL_law_609 : decode cL_law 609 = .ok (.invokevirtual 91, 3) := by decide +kernel
theorem dL_law_612 : decode cL_law 612 = .ok (.if_icmp .eq 223, 3) := by decide +kernel
theorem dL_law_615 : decode cL_law 615 = .ok (.iconst 0, 1) := by decide +kernel
theorem dL_law_616 : decode cL_law 616 = .ok (.ireturn, 1) := by decide +kernel
theorem dL_law_617 : decode cL_law 617 = .ok (.aload_n 1, 1) := by decide +kernel
theorem dL_law_618 : decode cL_law 618 = .ok (.aload_n 0, 1) := by decide +kernel
theorem dL_law_619 : decode cL_law 619 = .ok (.iload_n 3, 1) := by decide +kernel
theorem dL_law_620 : decode cL_law 620 = .ok (.iconst 1, 1) := by decide +kernel
theorem dL_law_621 : decode cL_law 621 = .ok (.iadd, 1) := by decide +kernel
theorem dL_law_622 : decode cL_law 622 = .ok (.iaload, 1) := by decide +kernel
theorem dL_law_623 : decode cL_law 623 = .ok (.aload_n 0, 1) := by decide +kernel
theorem dL_law_624 : decode cL_law 624 = .ok (.iload_n 3, 1) := by decide +kernel
theorem dL_law_625 : decode cL_law 625 = .ok (.iconst 2, 1) := by decide +kernel
theorem dL_law_626 : decode cL_law 626 = .ok (.iadd, 1) := by decide +kernel
theorem dL_law_627 : decode cL_law 627 = .ok (.iaload, 1) := by decide +kernel
theorem dL_law_628 : decode cL_law 628 = .ok (.invokevirtual 92, 3) := by decide +kernel
theorem dL_law_631 : decode cL_law 631 = .ok (.aload_n 2, 1) := by decide +kernel
theorem dL_law_632 : decode cL_law 632 = .ok (.aload_n 0, 1) := by decide +kernel
theorem dL_law_633 : decode cL_law 633 = .ok (.iload_n 3, 1) := by decide +kernel
theorem dL_law_634 : decode cL_law 634 = .ok (.iconst 1, 1) := by decide +kernel
theorem dL_law_635 : decode cL_law 635 = .ok (.iadd, 1) := by decide +kernel
theorem dL_law_636 : decode cL_law 636 = .ok (.iaload, 1) := by decide +kernel
theorem dL_law_637 : decode cL_law 637 = .ok (.aload_n 0, 1) := by decide +kernel
theorem dL_law_638 : decode cL_law 638 = .ok (.iload_n 3, 1) := by decide +kernel
theorem dL_law_639 : decode cL_law 639 = .ok (.iconst 2, 1) := by decide +kernel
theorem dL_law_640 : decode cL_law 640 = .ok (.iadd, 1) := by decide +kernel
theorem dL_law_641 : decode cL_law 641 = .ok (.iaload, 1) := by decide +kernel
theorem dL_law_642 : decode cL_law 642 = .ok (.invokevirtual 95, 3) := by decide +kernel
theorem dL_law_645 : decode cL_law 645 = .ok (.if_icmp .eq 190, 3) := by decide +kernel
theorem dL_law_648 : decode cL_law 648 = .ok (.iconst 0, 1) := by decide +kernel
theorem dL_law_649 : decode cL_law 649 = .ok (.ireturn, 1) := by decide +kernel
theorem dL_law_650 : decode cL_law 650 = .ok (.aload_n 1, 1) := by decide +kernel
theorem dL_law_651 : decode cL_law 651 = .ok (.aload_n 0, 1) := by decide +kernel
theorem dL_law_652 : decode cL_law 652 = .ok (.iload_n 3, 1) := by decide +kernel
theorem dL_law_653 : decode cL_law 653 = .ok (.iconst 1, 1) := by decide +kernel
theorem dL_law_654 : decode cL_law 654 = .ok (.iadd, 1) := by decide +kernel
theorem dL_law_655 : decode cL_law 655 = .ok (.iaload, 1) := by decide +kernel
theorem dL_law_656 : decode cL_law 656 = .ok (.invokevirtual 96, 3) := by decide +kernel
theorem dL_law_659 : decode cL_law 659 = .ok (.aload_n 2, 1) := by decide +kernel
theorem dL_law_660 : decode cL_law 660 = .ok (.aload_n 0, 1) := by decide +kernel
theorem dL_law_661 : decode cL_law 661 = .ok (.iload_n 3, 1) := by decide +kernel
theorem dL_law_662 : decode cL_law 662 = .ok (.iconst 1, 1) := by decide +kernel
theorem dL_law_663 : decode cL_law 663 = .ok (.iadd, 1) := by decide +kernel
theorem dL_law_664 : decode cL_law 664 = .ok (.iaload, 1) := by decide +kernel
theorem dL_law_665 : decode cL_law 665 = .ok (.invokevirtual 99, 3) := by decide +kernel
theorem dL_law_668 : decode cL_law 668 = .ok (.if_icmp .eq 167, 3) := by decide +kernel
theorem dL_law_671 : decode cL_law 671 = .ok (.iconst 0, 1) := by decide +kernel
theorem dL_law_672 : decode cL_law 672 = .ok (.ireturn, 1) := by decide +kernel
theorem dL_law_673 : decode cL_law 673 = .ok (.aload_n 1, 1) := by decide +kernel
theorem dL_law_674 : decode cL_law 674 = .ok (.aload_n 0, 1) := by decide +kernel
theorem dL_law_675 : decode cL_law 675 = .ok (.iload_n 3, 1) := by decide +kernel
theorem dL_law_676 : decode cL_law 676 = .ok (.iconst 1, 1) := by decide +kernel
theorem dL_law_677 : decode cL_law 677 = .ok (.iadd, 1) := by decide +kernel
theorem dL_law_678 : decode cL_law 678 = .ok (.iaload, 1) := by decide +kernel
theorem dL_law_679 : decode cL_law 679 = .ok (.aload_n 0, 1) := by decide +kernel
theorem dL_law_680 : decode cL_law 680 = .ok (.iload_n 3, 1) := by decide +kernel
theorem dL_law_681 : decode cL_law 681 = .ok (.iconst 2, 1) := by decide +kernel
theorem dL_law_682 : decode cL_law 682 = .ok (.iadd, 1) := by decide +kernel
theorem dL_law_683 : decode cL_law 683 = .ok (.iaload, 1) := by decide +kernel
theorem dL_law_684 : decode cL_law 684 = .ok (.aload_n 0, 1) := by decide +kernel
theorem dL_law_685 : decode cL_law 685 = .ok (.iload_n 3, 1) := by decide +kernel
theorem dL_law_686 : decode cL_law 686 = .ok (.iconst 3, 1) := by decide +kernel
theorem dL_law_687 : decode cL_law 687 = .ok (.iadd, 1) := by decide +kernel
theorem dL_law_688 : decode cL_law 688 = .ok (.iaload, 1) := by decide +kernel
theorem dL_law_689 : decode cL_law 689 = .ok (.invokevirtual 100, 3) := by decide +kernel
theorem dL_law_692 : decode cL_law 692 = .ok (.aload_n 2, 1) := by decide +kernel
theorem dL_law_693 : decode cL_law 693 = .ok (.aload_n 0, 1) := by decide +kernel
theorem dL_law_694 : decode cL_law 694 = .ok (.iload_n 3, 1) := by decide +kernel
theorem dL_law_695 : decode cL_law 695 = .ok (.iconst 1, 1) := by decide +kernel
theorem dL_law_696 : decode cL_law 696 = .ok (.iadd, 1) := by decide +kernel
theorem dL_law_697 : decode cL_law 697 = .ok (.iaload, 1) := by decide +kernel
theorem dL_law_698 : decode cL_law 698 = .ok (.aload_n 0, 1) := by decide +kernel
theorem dL_law_699 : decode cL_law 699 = .ok (.iload_n 3, 1) := by decide +kernel
theorem dL_law_700 : decode cL_law 700 = .ok (.iconst 2, 1) := by decide +kernel
theorem dL_law_701 : decode cL_law 701 = .ok (.iadd, 1) := by decide +kernel
theorem dL_law_702 : decode cL_law 702 = .ok (.iaload, 1) := by decide +kernel
theorem dL_law_703 : decode cL_law 703 = .ok (.aload_n 0, 1) := by decide +kernel
theorem dL_law_704 : decode cL_law 704 = .ok (.iload_n 3, 1) := by decide +kernel
theorem dL_law_705 : decode cL_law 705 = .ok (.iconst 3, 1) := by decide +kernel
theorem dL_law_706 : decode cL_law 706 = .ok (.iadd, 1) := by decide +kernel
theorem dL_law_707 : decode cL_law 707 = .ok (.iaload, 1) := by decide +kernel
theorem dL_law_708 : decode cL_law 708 = .ok (.invokevirtual 104, 3) := by decide +kernel
theorem dL_law_711 : decode cL_law 711 = .ok (.if_icmp .eq 124, 3) := by decide +kernel
theorem dL_law_714 : decode cL_law 714 = .ok (.iconst 0, 1) := by decide +kernel
theorem dL_law_715 : decode cL_law 715 = .ok (.ireturn, 1) := by decide +kernel
theorem dL_law_716 : decode cL_law 716 = .ok (.aload_n 1, 1) := by decide +kernel
theorem dL_law_717 : decode cL_law 717 = .ok (.invokevirtual 105, 3) := by decide +kernel
theorem dL_law_720 : decode cL_law 720 = .ok (.aload_n 2, 1) := by decide +kernel
theorem dL_law_721 : decode cL_law 721 = .ok (.invokevirtual 108, 3) := by decide +kernel
theorem dL_law_724 : decode cL_law 724 = .ok (.if_icmp .eq 111, 3) := by decide +kernel
theorem dL_law_727 : decode cL_law 727 = .ok (.iconst 0, 1) := by decide +kernel
theorem dL_law_728 : decode cL_law 728 = .ok (.ireturn, 1) := by decide +kernel
theorem dL_law_729 : decode cL_law 729 = .ok (.aload_n 1, 1) := by decide +kernel
theorem dL_law_730 : decode cL_law 730 = .ok (.aload_n 0, 1) := by decide +kernel
theorem dL_law_731 : decode cL_law 731 = .ok (.iload_n 3, 1) := by decide +kernel
theorem dL_law_732 : decode cL_law 732 = .ok (.iconst 1, 1) := by decide +kernel
theorem dL_law_733 : decode cL_law 733 = .ok (.iadd, 1) := by decide +kernel
theorem dL_law_734 : decode cL_law 734 = .ok (.iaload, 1) := by decide +kernel
theorem dL_law_735 : decode cL_law 735 = .ok (.aload_n 0, 1) := by decide +kernel
theorem dL_law_736 : decode cL_law 736 = .ok (.iload_n 3, 1) := by decide +kernel
theorem dL_law_737 : decode cL_law 737 = .ok (.iconst 2, 1) := by decide +kernel
theorem dL_law_738 : decode cL_law 738 = .ok (.iadd, 1) := by decide +kernel
theorem dL_law_739 : decode cL_law 739 = .ok (.iaload, 1) := by decide +kernel
theorem dL_law_740 : decode cL_law 740 = .ok (.aload_n 0, 1) := by decide +kernel
theorem dL_law_741 : decode cL_law 741 = .ok (.iload_n 3, 1) := by decide +kernel
theorem dL_law_742 : decode cL_law 742 = .ok (.iconst 3, 1) := by decide +kernel
theorem dL_law_743 : decode cL_law 743 = .ok (.iadd, 1) := by decide +kernel
theorem dL_law_744 : decode cL_law 744 = .ok (.iaload, 1) := by decide +kernel
theorem dL_law_745 : decode cL_law 745 = .ok (.invokevirtual 109, 3) := by decide +kernel
theorem dL_law_748 : decode cL_law 748 = .ok (.aload_n 2, 1) := by decide +kernel
theorem dL_law_749 : decode cL_law 749 = .ok (.aload_n 0, 1) := by decide +kernel
theorem dL_law_750 : decode cL_law 750 = .ok (.iload_n 3, 1) := by decide +kernel
theorem dL_law_751 : decode cL_law 751 = .ok (.iconst 1, 1) := by decide +kernel
theorem dL_law_752 : decode cL_law 752 = .ok (.iadd, 1) := by decide +kernel
theorem dL_law_753 : decode cL_law 753 = .ok (.iaload, 1) := by decide +kernel
theorem dL_law_754 : decode cL_law 754 = .ok (.aload_n 0, 1) := by decide +kernel
theorem dL_law_755 : decode cL_law 755 = .ok (.iload_n 3, 1) := by decide +kernel
theorem dL_law_756 : decode cL_law 756 = .ok (.iconst 2, 1) := by decide +kernel
theorem dL_law_757 : decode cL_law 757 = .ok (.iadd, 1) := by decide +kernel
theorem dL_law_758 : decode cL_law 758 = .ok (.iaload, 1) := by decide +kernel
theorem dL_law_759 : decode cL_law 759 = .ok (.aload_n 0, 1) := by decide +kernel
theorem dL_law_760 : decode cL_law 760 = .ok (.iload_n 3, 1) := by decide +kernel
theorem dL_law_761 : decode cL_law 761 = .ok (.iconst 3, 1) := by decide +kernel
theorem dL_law_762 : decode cL_law 762 = .ok (.iadd, 1) := by decide +kernel
theorem dL_law_763 : decode cL_law 763 = .ok (.iaload, 1) := by decide +kernel
theorem dL_law_764 : decode cL_law 764 = .ok (.invokevirtual 112, 3) := by decide +kernel
theorem dL_law_767 : decode cL_law 767 = .ok (.if_icmp .eq 68, 3) := by decide +kernel
theorem dL_law_770 : decode cL_law 770 = .ok (.iconst 0, 1) := by decide +kernel
theorem dL_law_771 : decode cL_law 771 = .ok (.ireturn, 1) := by decide +kernel
theorem dL_law_772 : decode cL_law 772 = .ok (.aload_n 1, 1) := by decide +kernel
theorem dL_law_773 : decode cL_law 773 = .ok (.invokevirtual 113, 3) := by decide +kernel
theorem dL_law_776 : decode cL_law 776 = .ok (.aload_n 2, 1) := by decide +kernel
theorem dL_law_777 : decode cL_law 777 = .ok (.invokevirtual 116, 3) := by decide +kernel
theorem dL_law_780 : decode cL_law 780 = .ok (.if_icmp .eq 55, 3) := by decide +kernel
theorem dL_law_783 : decode cL_law 783 = .ok (.iconst 0, 1) := by decide +kernel
theorem dL_law_784 : decode cL_law 784 = .ok (.ireturn, 1) := by decide +kernel
theorem dL_law_785 : decode cL_law 785 = .ok (.aload_n 1, 1) := by decide +kernel
theorem dL_law_786 : decode cL_law 786 = .ok (.invokevirtual 117, 3) := by decide +kernel
theorem dL_law_789 : decode cL_law 789 = .ok (.aload_n 2, 1) := by decide +kernel
theorem dL_law_790 : decode cL_law 790 = .ok (.invokevirtual 120, 3) := by decide +kernel
theorem dL_law_793 : decode cL_law 793 = .ok (.if_icmp .eq 42, 3) := by decide +kernel
theorem dL_law_796 : decode cL_law 796 = .ok (.iconst 0, 1) := by decide +kernel
theorem dL_law_797 : decode cL_law 797 = .ok (.ireturn, 1) := by decide +kernel
theorem dL_law_798 : decode cL_law 798 = .ok (.aload_n 1, 1) := by decide +kernel
theorem dL_law_799 : decode cL_law 799 = .ok (.aload_n 0, 1) := by decide +kernel
theorem dL_law_800 : decode cL_law 800 = .ok (.iload_n 3, 1) := by decide +kernel
theorem dL_law_801 : decode cL_law 801 = .ok (.iconst 1, 1) := by decide +kernel
theorem dL_law_802 : decode cL_law 802 = .ok (.iadd, 1) := by decide +kernel
theorem dL_law_803 : decode cL_law 803 = .ok (.iaload, 1) := by decide +kernel
theorem dL_law_804 : decode cL_law 804 = .ok (.invokevirtual 121, 3) := by decide +kernel
theorem dL_law_807 : decode cL_law 807 = .ok (.aload_n 2, 1) := by decide +kernel
theorem dL_law_808 : decode cL_law 808 = .ok (.aload_n 0, 1) := by decide +kernel
theorem dL_law_809 : decode cL_law 809 = .ok (.iload_n 3, 1) := by decide +kernel
theorem dL_law_810 : decode cL_law 810 = .ok (.iconst 1, 1) := by decide +kernel
theorem dL_law_811 : decode cL_law 811 = .ok (.iadd, 1) := by decide +kernel
theorem dL_law_812 : decode cL_law 812 = .ok (.iaload, 1) := by decide +kernel
theorem dL_law_813 : decode cL_law 813 = .ok (.invokevirtual 124, 3) := by decide +kernel
theorem dL_law_816 : decode cL_law 816 = .ok (.if_icmp .eq 19, 3) := by decide +kernel
theorem dL_law_819 : decode cL_law 819 = .ok (.iconst 0, 1) := by decide +kernel
theorem dL_law_820 : decode cL_law 820 = .ok (.ireturn, 1) := by decide +kernel
theorem dL_law_821 : decode cL_law 821 = .ok (.aload_n 1, 1) := by decide +kernel
theorem dL_law_822 : decode cL_law 822 = .ok (.invokevirtual 125, 3) := by decide +kernel
theorem dL_law_825 : decode cL_law 825 = .ok (.aload_n 2, 1) := by decide +kernel
theorem dL_law_826 : decode cL_law 826 = .ok (.invokevirtual 129, 3) := by decide +kernel
theorem dL_law_829 : decode cL_law 829 = .ok (.lcmp, 1) := by decide +kernel
theorem dL_law_830 : decode cL_law 830 = .ok (.ifCond .eq 5, 3) := by decide +kernel
theorem dL_law_833 : decode cL_law 833 = .ok (.iconst 0, 1) := by decide +kernel
theorem dL_law_834 : decode cL_law 834 = .ok (.ireturn, 1) := by decide +kernel
theorem dL_law_835 : decode cL_law 835 = .ok (.iinc 3 4, 3) := by decide +kernel
theorem dL_law_838 : decode cL_law 838 = .ok (.goto (-820), 3) := by decide +kernel
theorem dL_law_841 : decode cL_law 841 = .ok (.iconst 1, 1) := by decide +kernel
theorem dL_law_842 : decode cL_law 842 = .ok (.ireturn, 1) := by decide +kernel
end
section
theorem dX0_init_0 : decode cX0_init 0 = .ok (.aload_n 0, 1) := by decide +kernel
theorem dX0_init_1 : decode cX0_init 1 = .ok (.invokespecial 3, 3) := by decide +kernel
theorem dX0_init_4 : decode cX0_init 4 = .ok (.aload_n 0, 1) := by decide +kernel
theorem dX0_init_5 : decode cX0_init 5 = .ok (.new 9, 3) := by decide +kernel
theorem dX0_init_8 : decode cX0_init 8 = .ok (.dup, 1) := by decide +kernel
theorem dX0_init_9 : decode cX0_init 9 = .ok (.invokespecial 11, 3) := by decide +kernel
theorem dX0_init_12 : decode cX0_init 12 = .ok (.putfield 12, 3) := by decide +kernel
theorem dX0_init_15 : decode cX0_init 15 = .ok (.aload_n 0, 1) := by decide +kernel
theorem dX0_init_16 : decode cX0_init 16 = .ok (.iconst 3, 1) := by decide +kernel
theorem dX0_init_17 : decode cX0_init 17 = .ok (.newarray .int, 2) := by decide +kernel
theorem dX0_init_19 : decode cX0_init 19 = .ok (.putfield 18, 3) := by decide +kernel
theorem dX0_init_22 : decode cX0_init 22 = .ok (.aload_n 0, 1) := by decide +kernel
theorem dX0_init_23 : decode cX0_init 23 = .ok (.iconst 3, 1) := by decide +kernel
theorem dX0_init_24 : decode cX0_init 24 = .ok (.newarray .int, 2) := by decide +kernel
theorem dX0_init_26 : decode cX0_init 26 = .ok (.putfield 22, 3) := by decide +kernel
theorem dX0_init_29 : decode cX0_init 29 = .ok (.aload_n 0, 1) := by decide +kernel
theorem dX0_init_30 : decode cX0_init 30 = .ok (.iconst 3, 1) := by decide +kernel
theorem dX0_init_31 : decode cX0_init 31 = .ok (.iconst 4, 1) := by decide +kernel
theorem dX0_init_32 : decode cX0_init 32 = .ok (.multianewarray 25 2, 4) := by decide +kernel
theorem dX0_init_36 : decode cX0_init 36 = .ok (.putfield 27, 3) := by decide +kernel
theorem dX0_init_39 : decode cX0_init 39 = .ok (.return_, 1) := by decide +kernel
theorem dX0_findSeat_0 : decode cX0_findSeat 0 = .ok (.iconst 0, 1) := by decide +kernel
theorem dX0_findSeat_1 : decode cX0_findSeat 1 = .ok (.istore 4, 2) := by decide +kernel
theorem dX0_findSeat_3 : decode cX0_findSeat 3 = .ok (.aload_n 0, 1) := by decide +kernel
theorem dX0_findSeat_4 : decode cX0_findSeat 4 = .ok (.iconst (-1), 1) := by decide +kernel
theorem dX0_findSeat_5 : decode cX0_findSeat 5 = .ok (.putfield 30, 3) := by decide +kernel
theorem dX0_findSeat_8 : decode cX0_findSeat 8 = .ok (.iconst 0, 1) := by decide +kernel
theorem dX0_findSeat_9 : decode cX0_findSeat 9 = .ok (.istore 5, 2) := by decide +kernel
theorem dX0_findSeat_11 : decode cX0_findSeat 11 = .ok (.iload 5, 2) := by decide +kernel
theorem dX0_findSeat_13 : decode cX0_findSeat 13 = .ok (.bipush 6, 2) := by decide +kernel
theorem dX0_findSeat_15 : decode cX0_findSeat 15 = .ok (.if_icmp .ge 68, 3) := by decide +kernel
theorem dX0_findSeat_18 : decode cX0_findSeat 18 = .ok (.aload_n 1, 1) := by decide +kernel
theorem dX0_findSeat_19 : decode cX0_findSeat 19 = .ok (.iload_n 3, 1) := by decide +kernel
theorem dX0_findSeat_20 : decode cX0_findSeat 20 = .ok (.invokevirtual 34, 3) := by decide +kernel
theorem dX0_findSeat_23 : decode cX0_findSeat 23 = .ok (.ifCond .eq 60, 3) := by decide +kernel
theorem dX0_findSeat_26 : decode cX0_findSeat 26 = .ok (.aload_n 0, 1) := by decide +kernel
theorem dX0_findSeat_27 : decode cX0_findSeat 27 = .ok (.getfield 12, 3) := by decide +kernel
theorem dX0_findSeat_30 : decode cX0_findSeat 30 = .ok (.aload_n 2, 1) := by decide +kernel
theorem dX0_findSeat_31 : decode cX0_findSeat 31 = .ok (.invokevirtual 40, 3) := by decide +kernel
theorem dX0_findSeat_34 : decode cX0_findSeat 34 = .ok (.aload_n 0, 1) := by decide +kernel
theorem dX0_findSeat_35 : decode cX0_findSeat 35 = .ok (.getfield 12, 3) := by decide +kernel
theorem dX0_findSeat_38 : decode cX0_findSeat 38 = .ok (.getfield 44, 3) := by decide +kernel
theorem dX0_findSeat_41 : decode cX0_findSeat 41 = .ok (.iload_n 3, 1) := by decide +kernel
theorem dX0_findSeat_42 : decode cX0_findSeat 42 = .ok (.iload 5, 2) := by decide +kernel
theorem dX0_findSeat_44 : decode cX0_findSeat 44 = .ok (.iastore, 1) := by decide +kernel
theorem dX0_findSeat_45 : decode cX0_findSeat 45 = .ok (.aload_n 1, 1) := by decide +kernel
theorem dX0_findSeat_46 : decode cX0_findSeat 46 = .ok (.aload_n 0, 1) := by decide +kernel
theorem dX0_findSeat_47 : decode cX0_findSeat 47 = .ok (.getfield 12, 3) := by decide +kernel
theorem dX0_findSeat_50 : decode cX0_findSeat 50 = .ok (.invokevirtual 47, 3) := by decide +kernel
theorem dX0_findSeat_53 : decode cX0_findSeat 53 = .ok (.invokestatic 51, 3) := by decide +kernel
theorem dX0_findSeat_56 : decode cX0_findSeat 56 = .ok (.istore 6, 2) := by decide +kernel
theorem dX0_findSeat_58 : decode cX0_findSeat 58 = .ok (.iload 6, 2) := by decide +kernel
theorem dX0_findSeat_60 : decode cX0_findSeat 60 = .ok (.aload_n 0, 1) := by decide +kernel
theorem dX0_findSeat_61 : decode cX0_findSeat 61 = .ok (.getfield 30, 3) := by decide +kernel
theorem dX0_findSeat_64 : decode cX0_findSeat 64 = .ok (.if_icmp .le 13, 3) := by decide +kernel
theorem dX0_findSeat_67 : decode cX0_findSeat 67 = .ok (.aload_n 0, 1) := by decide +kernel
theorem dX0_findSeat_68 : decode cX0_findSeat 68 = .ok (.iload 6, 2) := by decide +kernel
theorem dX0_findSeat_70 : decode cX0_findSeat 70 = .ok (.putfield 30, 3) := by decide +kernel
theorem dX0_findSeat_73 : decode cX0_findSeat 73 = .ok (.iload 5, 2) := by decide +kernel
theorem dX0_findSeat_75 : decode cX0_findSeat 75 = .ok (.istore 4, 2) := by decide +kernel
theorem dX0_findSeat_77 : decode cX0_findSeat 77 = .ok (.iinc 5 1, 3) := by decide +kernel
theorem dX0_findSeat_80 : decode cX0_findSeat 80 = .ok (.goto (-69), 3) := by decide +kernel
theorem dX0_findSeat_83 : decode cX0_findSeat 83 = .ok (.iload 4, 2) := by decide +kernel
theorem dX0_findSeat_85 : decode cX0_findSeat 85 = .ok (.ireturn, 1) := by decide +kernel
theorem dX0_trySlight_0 : decode cX0_trySlight 0 = .ok (.aload_n 0, 1) := by decide +kernel
theorem dX0_trySlight_1 : decode cX0_trySlight 1 = .ok (.getfield 12, 3) := by decide +kernel
theorem dX0_trySlight_4 : decode cX0_trySlight 4 = .ok (.aload_n 2, 1) := by decide +kernel
theorem dX0_trySlight_5 : decode cX0_trySlight 5 = .ok (.invokevirtual 40, 3) := by decide +kernel
theorem dX0_trySlight_8 : decode cX0_trySlight 8 = .ok (.aload_n 1, 1) := by decide +kernel
theorem dX0_trySlight_9 : decode cX0_trySlight 9 = .ok (.aload_n 0, 1) := by decide +kernel
theorem dX0_trySlight_10 : decode cX0_trySlight 10 = .ok (.getfield 12, 3) := by decide +kernel
theorem dX0_trySlight_13 : decode cX0_trySlight 13 = .ok (.iload_n 3, 1) := by decide +kernel
theorem dX0_trySlight_14 : decode cX0_trySlight 14 = .ok (.invokevirtual 57, 3) := by decide +kernel
theorem dX0_trySlight_17 : decode cX0_trySlight 17 = .ok (.return_, 1) := by decide +kernel
theorem dX0_slightsThatSet_0 : decode cX0_slightsThatSet 0 = .ok (.iconst 0, 1) := by decide +kernel
theorem dX0_slightsThatSet_1 : decode cX0_slightsThatSet 1 = .ok (.istore 4, 2) := by decide +kernel
theorem dX0_slightsThatSet_3 : decode cX0_slightsThatSet 3 = .ok (.iconst 0, 1) := by decide +kernel
theorem dX0_slightsThatSet_4 : decode cX0_slightsThatSet 4 = .ok (.istore 5, 2) := by decide +kernel
theorem dX0_slightsThatSet_6 : decode cX0_slightsThatSet 6 = .ok (.iload 5, 2) := by decide +kernel
theorem dX0_slightsThatSet_8 : decode cX0_slightsThatSet 8 = .ok (.aload_n 1, 1) := by decide +kernel
theorem dX0_slightsThatSet_9 : decode cX0_slightsThatSet 9 = .ok (.invokevirtual 61, 3) := by decide +kernel
theorem dX0_slightsThatSet_12 : decode cX0_slightsThatSet 12 = .ok (.if_icmp .ge 32, 3) := by decide +kernel
theorem dX0_slightsThatSet_15 : decode cX0_slightsThatSet 15 = .ok (.aload_n 0, 1) := by decide +kernel
theorem dX0_slightsThatSet_16 : decode cX0_slightsThatSet 16 = .ok (.aload_n 1, 1) := by decide +kernel
theorem dX0_slightsThatSet_17 : decode cX0_slightsThatSet 17 = .ok (.aload_n 2, 1) := by decide +kernel
theorem dX0_slightsThatSet_18 : decode cX0_slightsThatSet 18 = .ok (.iload 5, 2) := by decide +kernel
theorem dX0_slightsThatSet_20 : decode cX0_slightsThatSet 20 = .ok (.invokevirtual 65, 3) := by decide +kernel
theorem dX0_slightsThatSet_23 : decode cX0_slightsThatSet 23 = .ok (.aload_n 1, 1) := by decide +kernel
theorem dX0_slightsThatSet_24 : decode cX0_slightsThatSet 24 = .ok (.aload_n 0, 1) := by decide +kernel
theorem dX0_slightsThatSet_25 : decode cX0_slightsThatSet 25 = .ok (.getfield 12, 3) := by decide +kernel
theorem dX0_slightsThatSet_28 : decode cX0_slightsThatSet 28 = .ok (.iload_n 3, 1) := by decide +kernel
theorem dX0_slightsThatSet_29 : decode cX0_slightsThatSet 29 = .ok (.invokevirtual 69, 3) := by decide +kernel
theorem dX0_slightsThatSet_32 : decode cX0_slightsThatSet 32 = .ok (.ifCond .eq 6, 3) := by decide +kernel
theorem dX0_slightsThatSet_35 : decode cX0_slightsThatSet 35 = .ok (.iinc 4 1, 3) := by decide +kernel
theorem dX0_slightsThatSet_38 : decode cX0_slightsThatSet 38 = .ok (.iinc 5 1, 3) := by decide +kernel
theorem dX0_slightsThatSet_41 : decode cX0_slightsThatSet 41 = .ok (.goto (-35), 3) := by decide +kernel
theorem dX0_slightsThatSet_44 : decode cX0_slightsThatSet 44 = .ok (.iload 4, 2) := by decide +kernel
theorem dX0_slightsThatSet_46 : decode cX0_slightsThatSet 46 = .ok (.ireturn, 1) := by decide +kernel
theorem dX0_slightsThatSetJust_0 : decode cX0_slightsThatSetJust 0 = .ok (.iconst 0, 1) := by decide +kernel
theorem dX0_slightsThatSetJust_1 : decode cX0_slightsThatSetJust 1 = .ok (.istore 4, 2) := by decide +kernel
theorem dX0_slightsThatSetJust_3 : decode cX0_slightsThatSetJust 3 = .ok (.iconst 0, 1) := by decide +kernel
theorem dX0_slightsThatSetJust_4 : decode cX0_slightsThatSetJust 4 = .ok (.istore 5, 2) := by decide +kernel
theorem dX0_slightsThatSetJust_6 : decode cX0_slightsThatSetJust 6 = .ok (.iload 5, 2) := by decide +kernel
theorem dX0_slightsThatSetJust_8 : decode cX0_slightsThatSetJust 8 = .ok (.aload_n 1, 1) := by decide +kernel
theorem dX0_slightsThatSetJust_9 : decode cX0_slightsThatSetJust 9 = .ok (.invokevirtual 61, 3) := by decide +kernel
theorem dX0_slightsThatSetJust_12 : decode cX0_slightsThatSetJust 12 = .ok (.if_icmp .ge 38, 3) := by decide +kernel
theorem dX0_slightsThatSetJust_15 : decode cX0_slightsThatSetJust 15 = .ok (.aload_n 0, 1) := by decide +kernel
theorem dX0_slightsThatSetJust_16 : decode cX0_slightsThatSetJust 16 = .ok (.aload_n 1, 1) := by decide +kernel
theorem dX0_slightsThatSetJust_17 : decode cX0_slightsThatSetJust 17 = .ok (.aload_n 2, 1) := by decide +kernel
theorem dX0_slightsThatSetJust_18 : decode cX0_slightsThatSetJust 18 = .ok (.iload 5, 2) := by decide +kernel
theorem dX0_slightsThatSetJust_20 : decode cX0_slightsThatSetJust 20 = .ok (.invokevirtual 65, 3) := by decide +kernel
theorem dX0_slightsThatSetJust_23 : decode cX0_slightsThatSetJust 23 = .ok (.aload_n 1, 1) := by decide +kernel
theorem dX0_slightsThatSetJust_24 : decode cX0_slightsThatSetJust 24 = .ok (.aload_n 0, 1) := by decide +kernel
theorem dX0_slightsThatSetJust_25 : decode cX0_slightsThatSetJust 25 = .ok (.getfield 12, 3) := by decide +kernel
theorem dX0_slightsThatSetJust_28 : decode cX0_slightsThatSetJust 28 = .ok (.invokevirtual 47, 3) := by decide +kernel
theorem dX0_slightsThatSetJust_31 : decode cX0_slightsThatSetJust 31 = .ok (.iload_n 3, 1) := by decide +kernel
theorem dX0_slightsThatSetJust_32 : decode cX0_slightsThatSetJust 32 = .ok (.if_icmp .ne 12, 3) := by decide +kernel
theorem dX0_slightsThatSetJust_35 : decode cX0_slightsThatSetJust 35 = .ok (.iload 4, 2) := by decide +kernel
theorem dX0_slightsThatSetJust_37 : decode cX0_slightsThatSetJust 37 = .ok (.iconst 1, 1) := by decide +kernel
theorem dX0_slightsThatSetJust_38 : decode cX0_slightsThatSetJust 38 = .ok (.iload 5, 2) := by decide +kernel
theorem dX0_slightsThatSetJust_40 : decode cX0_slightsThatSetJust 40 = .ok (.ishl, 1) := by decide +kernel
theorem dX0_slightsThatSetJust_41 : decode cX0_slightsThatSetJust 41 = .ok (.ior, 1) := by decide +kernel
theorem dX0_slightsThatSetJust_42 : decode cX0_slightsThatSetJust 42 = .ok (.istore 4, 2) := by decide +kernel
theorem dX0_slightsThatSetJust_44 : decode cX0_slightsThatSetJust 44 = .ok (.iinc 5 1, 3) := by decide +kernel
theorem dX0_slightsThatSetJust_47 : decode cX0_slightsThatSetJust 47 = .ok (.goto (-41), 3) := by decide +kernel
theorem dX0_slightsThatSetJust_50 : decode cX0_slightsThatSetJust 50 = .ok (.iload 4, 2) := by decide +kernel
theorem dX0_slightsThatSetJust_52 : decode cX0_slightsThatSetJust 52 = .ok (.ireturn, 1) := by decide +kernel
theorem dX0_findFew_0 : decode cX0_findFew 0 = .ok (.aload_n 0, 1) := by decide +kernel
theorem dX0_findFew_1 : decode cX0_findFew 1 = .ok (.getfield 12, 3) := by decide +kernel
theorem dX0_findFew_4 : decode cX0_findFew 4 = .ok (.aload_n 2, 1) := by decide +kernel
theorem dX0_findFew_5 : decode cX0_findFew 5 = .ok (.invokevirtual 40, 3) := by decide +kernel
theorem dX0_findFew_8 : decode cX0_findFew 8 = .ok (.aload_n 0, 1) := by decide +kernel
theorem dX0_findFew_9 : decode cX0_findFew 9 = .ok (.iconst (-1), 1) := by decide +kernel
theorem dX0_findFew_10 : decode cX0_findFew 10 = .ok (.putfield 30, 3) := by decide +kernel
theorem dX0_findFew_13 : decode cX0_findFew 13 = .ok (.iconst 0, 1) := by decide +kernel
theorem dX0_findFew_14 : decode cX0_findFew 14 = .ok (.istore 4, 2) := by decide +kernel
theorem dX0_findFew_16 : decode cX0_findFew 16 = .ok (.iload 4, 2) := by decide +kernel
theorem dX0_findFew_18 : decode cX0_findFew 18 = .ok (.iconst 3, 1) := by decide +kernel
theorem dX0_findFew_19 : decode cX0_findFew 19 = .ok (.if_icmp .gt 50, 3) := by decide +kernel
theorem dX0_findFew_22 : decode cX0_findFew 22 = .ok (.aload_n 0, 1) := by decide +kernel
theorem dX0_findFew_23 : decode cX0_findFew 23 = .ok (.getfield 30, 3) := by decide +kernel
theorem dX0_findFew_26 : decode cX0_findFew 26 = .ok (.iconst (-1), 1) := by decide +kernel
theorem dX0_findFew_27 : decode cX0_findFew 27 = .ok (.if_icmp .ne 42, 3) := by decide +kernel
theorem dX0_findFew_30 : decode cX0_findFew 30 = .ok (.aload_n 0, 1) := by decide +kernel
theorem dX0_findFew_31 : decode cX0_findFew 31 = .ok (.aload_n 1, 1) := by decide +kernel
theorem dX0_findFew_32 : decode cX0_findFew 32 = .ok (.iload_n 3, 1) := by decide +kernel
theorem dX0_findFew_33 : decode cX0_findFew 33 = .ok (.iload 4, 2) := by decide +kernel
theorem dX0_findFew_35 : decode cX0_findFew 35 = .ok (.iconst 0, 1) := by decide +kernel
theorem dX0_findFew_36 : decode cX0_findFew 36 = .ok (.iconst 0, 1) := by decide +kernel
theorem dX0_findFew_37 : decode cX0_findFew 37 = .ok (.invokevirtual 73, 3) := by decide +kernel
theorem dX0_findFew_40 : decode cX0_findFew 40 = .ok (.ifCond .eq 23, 3) := by decide +kernel
theorem dX0_findFew_43 : decode cX0_findFew 43 = .ok (.aload_n 0, 1) := by decide +kernel
theorem dX0_findFew_44 : decode cX0_findFew 44 = .ok (.iload 4, 2) := by decide +kernel
theorem dX0_findFew_46 : decode cX0_findFew 46 = .ok (.putfield 30, 3) := by decide +kernel
theorem dX0_findFew_49 : decode cX0_findFew 49 = .ok (.aload_n 0, 1) := by decide +kernel
theorem dX0_findFew_50 : decode cX0_findFew 50 = .ok (.getfield 18, 3) := by decide +kernel
theorem dX0_findFew_53 : decode cX0_findFew 53 = .ok (.iconst 0, 1) := by decide +kernel
theorem dX0_findFew_54 : decode cX0_findFew 54 = .ok (.aload_n 0, 1) := by decide +kernel
theorem dX0_findFew_55 : decode cX0_findFew 55 = .ok (.getfield 22, 3) := by decide +kernel
theorem dX0_findFew_58 : decode cX0_findFew 58 = .ok (.iconst 0, 1) := by decide +kernel
theorem dX0_findFew_59 : decode cX0_findFew 59 = .ok (.iconst 3, 1) := by decide +kernel
theorem dX0_findFew_60 : decode cX0_findFew 60 = .ok (.invokestatic 77, 3) := by decide +kernel
theorem dX0_findFew_63 : decode cX0_findFew 63 = .ok (.iinc 4 1, 3) := by decide +kernel
theorem dX0_findFew_66 : decode cX0_findFew 66 = .ok (.goto (-50), 3) := by decide +kernel
theorem dX0_findFew_69 : decode cX0_findFew 69 = .ok (.return_, 1) := by decide +kernel
theorem dX0_rowSets_0 : decode cX0_rowSets 0 = .ok (.iload 4, 2) := by decide +kernel
theorem dX0_rowSets_2 : decode cX0_rowSets 2 = .ok (.iload_n 3, 1) := by decide +kernel
theorem dX0_rowSets_3 : decode cX0_rowSets 3 = .ok (.if_icmp .ge 9, 3) := by decide +kernel
theorem dX0_rowSets_6 : decode cX0_rowSets 6 = .ok (.iload 4, 2) := by decide +kernel
theorem dX0_rowSets_8 : decode cX0_rowSets 8 = .ok (.iconst 3, 1) := by decide +kernel
theorem dX0_rowSets_9 : decode cX0_rowSets 9 = .ok (.if_icmp .lt 23, 3) := by decide +kernel
theorem dX0_rowSets_12 : decode cX0_rowSets 12 = .ok (.aload_n 1, 1) := by decide +kernel
theorem dX0_rowSets_13 : decode cX0_rowSets 13 = .ok (.aload_n 0, 1) := by decide +kernel
theorem dX0_rowSets_14 : decode cX0_rowSets 14 = .ok (.getfield 12, 3) := by decide +kernel
theorem dX0_rowSets_17 : decode cX0_rowSets 17 = .ok (.invokevirtual 47, 3) := by decide +kernel
theorem dX0_rowSets_20 : decode cX0_rowSets 20 = .ok (.iload_n 2, 1) := by decide +kernel
theorem dX0_rowSets_21 : decode cX0_rowSets 21 = .ok (.iand, 1) := by decide +kernel
theorem dX0_rowSets_22 : decode cX0_rowSets 22 = .ok (.iload_n 2, 1) := by decide +kernel
theorem dX0_rowSets_23 : decode cX0_rowSets 23 = .ok (.if_icmp .ne 7, 3) := by decide +kernel
theorem dX0_rowSets_26 : decode cX0_rowSets 26 = .ok (.iconst 1, 1) := by decide +kernel
theorem dX0_rowSets_27 : decode cX0_rowSets 27 = .ok (.goto 4, 3) := by decide +kernel
theorem dX0_rowSets_30 : decode cX0_rowSets 30 = .ok (.iconst 0, 1) := by decide +kernel
theorem dX0_rowSets_31 : decode cX0_rowSets 31 = .ok (.ireturn, 1) := by decide +kernel
theorem dX0_rowSets_32 : decode cX0_rowSets 32 = .ok (.iconst 0, 1) := by decide +kernel
theorem dX0_rowSets_33 : decode cX0_rowSets 33 = .ok (.istore 6, 2) := by decide +kernel
theorem dX0_rowSets_35 : decode cX0_rowSets 35 = .ok (.iload 5, 2) := by decide +kernel
theorem dX0_rowSets_37 : decode cX0_rowSets 37 = .ok (.istore 7, 2) := by decide +kernel
theorem dX0_rowSets_39 : decode cX0_rowSets 39 = .ok (.iload 7, 2) := by decide +kernel
theorem dX0_rowSets_41 : decode cX0_rowSets 41 = .ok (.aload_n 1, 1) := by decide +kernel
theorem dX0_rowSets_42 : decode cX0_rowSets 42 = .ok (.invokevirtual 61, 3) := by decide +kernel
theorem dX0_rowSets_45 : decode cX0_rowSets 45 = .ok (.if_icmp .ge 78, 3) := by decide +kernel
theorem dX0_rowSets_48 : decode cX0_rowSets 48 = .ok (.iload 6, 2) := by decide +kernel
theorem dX0_rowSets_50 : decode cX0_rowSets 50 = .ok (.ifCond .ne 73, 3) := by decide +kernel
theorem dX0_rowSets_53 : decode cX0_rowSets 53 = .ok (.iload 7, 2) := by decide +kernel
theorem dX0_rowSets_55 : decode cX0_rowSets 55 = .ok (.iconst 3, 1) := by decide +kernel
theorem dX0_rowSets_56 : decode cX0_rowSets 56 = .ok (.idiv, 1) := by decide +kernel
theorem dX0_rowSets_57 : decode cX0_rowSets 57 = .ok (.istore 8, 2) := by decide +kernel
theorem dX0_rowSets_59 : decode cX0_rowSets 59 = .ok (.aload_n 0, 1) := by decide +kernel
theorem dX0_rowSets_60 : decode cX0_rowSets 60 = .ok (.getfield 12, 3) := by decide +kernel
theorem dX0_rowSets_63 : decode cX0_rowSets 63 = .ok (.getfield 83, 3) := by decide +kernel
theorem dX0_rowSets_66 : decode cX0_rowSets 66 = .ok (.iload 8, 2) := by decide +kernel
theorem dX0_rowSets_68 : decode cX0_rowSets 68 = .ok (.iaload, 1) := by decide +kernel
theorem dX0_rowSets_69 : decode cX0_rowSets 69 = .ok (.istore 9, 2) := by decide +kernel
theorem dX0_rowSets_71 : decode cX0_rowSets 71 = .ok (.aload_n 1, 1) := by decide +kernel
theorem dX0_rowSets_72 : decode cX0_rowSets 72 = .ok (.aload_n 0, 1) := by decide +kernel
theorem dX0_rowSets_73 : decode cX0_rowSets 73 = .ok (.getfield 12, 3) := by decide +kernel
theorem dX0_rowSets_76 : decode cX0_rowSets 76 = .ok (.iload 7, 2) := by decide +kernel
theorem dX0_rowSets_78 : decode cX0_rowSets 78 = .ok (.invokevirtual 57, 3) := by decide +kernel
theorem dX0_rowSets_81 : decode cX0_rowSets 81 = .ok (.aload_n 0, 1) := by decide +kernel
theorem dX0_rowSets_82 : decode cX0_rowSets 82 = .ok (.getfield 18, 3) := by decide +kernel
theorem dX0_rowSets_85 : decode cX0_rowSets 85 = .ok (.iload 4, 2) := by decide +kernel
theorem dX0_rowSets_87 : decode cX0_rowSets 87 = .ok (.iload 7, 2) := by decide +kernel
theorem dX0_rowSets_89 : decode cX0_rowSets 89 = .ok (.iastore, 1) := by decide +kernel
theorem dX0_rowSets_90 : decode cX0_rowSets 90 = .ok (.aload_n 0, 1) := by decide +kernel
theorem dX0_rowSets_91 : decode cX0_rowSets 91 = .ok (.aload_n 1, 1) := by decide +kernel
theorem dX0_rowSets_92 : decode cX0_rowSets 92 = .ok (.iload_n 2, 1) := by decide +kernel
theorem dX0_rowSets_93 : decode cX0_rowSets 93 = .ok (.iload_n 3, 1) := by decide +kernel
theorem dX0_rowSets_94 : decode cX0_rowSets 94 = .ok (.iload 4, 2) := by decide +kernel
theorem dX0_rowSets_96 : decode cX0_rowSets 96 = .ok (.iconst 1, 1) := by decide +kernel
theorem dX0_rowSets_97 : decode cX0_rowSets 97 = .ok (.iadd, 1) := by decide +kernel
theorem dX0_rowSets_98 : decode cX0_rowSets 98 = .ok (.iload 7, 2) := by decide +kernel
theorem dX0_rowSets_100 : decode cX0_rowSets 100 = .ok (.invokevirtual 73, 3) := by decide +kernel
theorem dX0_rowSets_103 : decode cX0_rowSets 103 = .ok (.istore 6, 2) := by decide +kernel
theorem dX0_rowSets_105 : decode cX0_rowSets 105 = .ok (.aload_n 0, 1) := by decide +kernel
theorem dX0_rowSets_106 : decode cX0_rowSets 106 = .ok (.getfield 12, 3) := by decide +kernel
theorem dX0_rowSets_109 : decode cX0_rowSets 109 = .ok (.getfield 83, 3) := by decide +kernel
theorem dX0_rowSets_112 : decode cX0_rowSets 112 = .ok (.iload 8, 2) := by decide +kernel
theorem dX0_rowSets_114 : decode cX0_rowSets 114 = .ok (.iload 9, 2) := by decide +kernel
theorem dX0_rowSets_116 : decode cX0_rowSets 116 = .ok (.iastore, 1) := by decide +kernel
theorem dX0_rowSets_117 : decode cX0_rowSets 117 = .ok (.iinc 7 1, 3) := by decide +kernel
theorem dX0_rowSets_120 : decode cX0_rowSets 120 = .ok (.goto (-81), 3) := by decide +kernel
theorem dX0_rowSets_123 : decode cX0_rowSets 123 = .ok (.iload 6, 2) := by decide +kernel
theorem dX0_rowSets_125 : decode cX0_rowSets 125 = .ok (.ireturn, 1) := by decide +kernel
theorem dX0_findWeek_0 : decode cX0_findWeek 0 = .ok (.aload_n 0, 1) := by decide +kernel
theorem dX0_findWeek_1 : decode cX0_findWeek 1 = .ok (.getfield 12, 3) := by decide +kernel
theorem dX0_findWeek_4 : decode cX0_findWeek 4 = .ok (.aload_n 2, 1) := by decide +kernel
theorem dX0_findWeek_5 : decode cX0_findWeek 5 = .ok (.invokevirtual 40, 3) := by decide +kernel
theorem dX0_findWeek_8 : decode cX0_findWeek 8 = .ok (.aload_n 0, 1) := by decide +kernel
theorem dX0_findWeek_9 : decode cX0_findWeek 9 = .ok (.iconst (-1), 1) := by decide +kernel
theorem dX0_findWeek_10 : decode cX0_findWeek 10 = .ok (.putfield 30, 3) := by decide +kernel
theorem dX0_findWeek_13 : decode cX0_findWeek 13 = .ok (.aload_n 0, 1) := by decide +kernel
theorem dX0_findWeek_14 : decode cX0_findWeek 14 = .ok (.aload_n 1, 1) := by decide +kernel
theorem dX0_findWeek_15 : decode cX0_findWeek 15 = .ok (.aload_n 2, 1) := by decide +kernel
theorem dX0_findWeek_16 : decode cX0_findWeek 16 = .ok (.getfield 86, 3) := by decide +kernel
theorem dX0_findWeek_19 : decode cX0_findWeek 19 = .ok (.iload_n 3, 1) := by decide +kernel
theorem dX0_findWeek_20 : decode cX0_findWeek 20 = .ok (.iconst 0, 1) := by decide +kernel
theorem dX0_findWeek_21 : decode cX0_findWeek 21 = .ok (.iconst 0, 1) := by decide +kernel
theorem dX0_findWeek_22 : decode cX0_findWeek 22 = .ok (.invokevirtual 89, 3) := by decide +kernel
theorem dX0_findWeek_25 : decode cX0_findWeek 25 = .ok (.return_, 1) := by decide +kernel
theorem dX0_tryDay_0 : decode cX0_tryDay 0 = .ok (.iload 5, 2) := by decide +kernel
theorem dX0_tryDay_2 : decode cX0_tryDay 2 = .ok (.iload_n 3, 1) := by decide +kernel
theorem dX0_tryDay_3 : decode cX0_tryDay 3 = .ok (.iload 4, 2) := by decide +kernel
theorem dX0_tryDay_5 : decode cX0_tryDay 5 = .ok (.isub, 1) := by decide +kernel
theorem dX0_tryDay_6 : decode cX0_tryDay 6 = .ok (.aload_n 1, 1) := by decide +kernel
theorem dX0_tryDay_7 : decode cX0_tryDay 7 = .ok (.getfield 93, 3) := by decide +kernel
theorem dX0_tryDay_10 : decode cX0_tryDay 10 = .ok (.imul, 1) := by decide +kernel
theorem dX0_tryDay_11 : decode cX0_tryDay 11 = .ok (.iadd, 1) := by decide +kernel
theorem dX0_tryDay_12 : decode cX0_tryDay 12 = .ok (.aload_n 0, 1) := by decide +kernel
theorem dX0_tryDay_13 : decode cX0_tryDay 13 = .ok (.getfield 30, 3) := by decide +kernel
theorem dX0_tryDay_16 : decode cX0_tryDay 16 = .ok (.if_icmp .gt 4, 3) := by decide +kernel
theorem dX0_tryDay_19 : decode cX0_tryDay 19 = .ok (.return_, 1) := by decide +kernel
theorem dX0_tryDay_20 : decode cX0_tryDay 20 = .ok (.iload 4, 2) := by decide +kernel
theorem dX0_tryDay_22 : decode cX0_tryDay 22 = .ok (.iload_n 3, 1) := by decide +kernel
theorem dX0_tryDay_23 : decode cX0_tryDay 23 = .ok (.if_icmp .ge 9, 3) := by decide +kernel
theorem dX0_tryDay_26 : decode cX0_tryDay 26 = .ok (.iload 4, 2) := by decide +kernel
theorem dX0_tryDay_28 : decode cX0_tryDay 28 = .ok (.iconst 3, 1) := by decide +kernel
theorem dX0_tryDay_29 : decode cX0_tryDay 29 = .ok (.if_icmp .lt 24, 3) := by decide +kernel
theorem dX0_tryDay_32 : decode cX0_tryDay 32 = .ok (.aload_n 0, 1) := by decide +kernel
theorem dX0_tryDay_33 : decode cX0_tryDay 33 = .ok (.iload 5, 2) := by decide +kernel
theorem dX0_tryDay_35 : decode cX0_tryDay 35 = .ok (.putfield 30, 3) := by decide +kernel
theorem dX0_tryDay_38 : decode cX0_tryDay 38 = .ok (.aload_n 0, 1) := by decide +kernel
theorem dX0_tryDay_39 : decode cX0_tryDay 39 = .ok (.getfield 18, 3) := by decide +kernel
theorem dX0_tryDay_42 : decode cX0_tryDay 42 = .ok (.iconst 0, 1) := by decide +kernel
theorem dX0_tryDay_43 : decode cX0_tryDay 43 = .ok (.aload_n 0, 1) := by decide +kernel
theorem dX0_tryDay_44 : decode cX0_tryDay 44 = .ok (.getfield 22, 3) := by decide +kernel
theorem dX0_tryDay_47 : decode cX0_tryDay 47 = .ok (.iconst 0, 1) := by decide +kernel
theorem dX0_tryDay_48 : decode cX0_tryDay 48 = .ok (.iconst 3, 1) := by decide +kernel
theorem dX0_tryDay_49 : decode cX0_tryDay 49 = .ok (.invokestatic 77, 3) := by decide +kernel
theorem dX0_tryDay_52 : decode cX0_tryDay 52 = .ok (.return_, 1) := by decide +kernel
theorem dX0_tryDay_53 : decode cX0_tryDay 53 = .ok (.aload_n 0, 1) := by decide +kernel
theorem dX0_tryDay_54 : decode cX0_tryDay 54 = .ok (.getfield 12, 3) := by decide +kernel
theorem dX0_tryDay_57 : decode cX0_tryDay 57 = .ok (.getfield 83, 3) := by decide +kernel
theorem dX0_tryDay_60 : decode cX0_tryDay 60 = .ok (.iconst 0, 1) := by decide +kernel
theorem dX0_tryDay_61 : decode cX0_tryDay 61 = .ok (.aload_n 0, 1) := by decide +kernel
theorem dX0_tryDay_62 : decode cX0_tryDay 62 = .ok (.getfield 27, 3) := by decide +kernel
theorem dX0_tryDay_65 : decode cX0_tryDay 65 = .ok (.iload 4, 2) := by decide +kernel
theorem dX0_tryDay_67 : decode cX0_tryDay 67 = .ok (.aaload, 1) := by decide +kernel
theorem dX0_tryDay_68 : decode cX0_tryDay 68 = .ok (.iconst 0, 1) := by decide +kernel
theorem dX0_tryDay_69 : decode cX0_tryDay 69 = .ok (.iconst 4, 1) := by decide +kernel
theorem dX0_tryDay_70 : decode cX0_tryDay 70 = .ok (.invokestatic 77, 3) := by decide +kernel
theorem dX0_tryDay_73 : decode cX0_tryDay 73 = .ok (.iconst (-1), 1) := by decide +kernel
theorem dX0_tryDay_74 : decode cX0_tryDay 74 = .ok (.istore 6, 2) := by decide +kernel
theorem dX0_tryDay_76 : decode cX0_tryDay 76 = .ok (.iload 6, 2) := by decide +kernel
theorem dX0_tryDay_78 : decode cX0_tryDay 78 = .ok (.aload_n 1, 1) := by decide +kernel
theorem dX0_tryDay_79 : decode cX0_tryDay 79 = .ok (.invokevirtual 61, 3) := by decide +kernel
theorem dX0_tryDay_82 : decode cX0_tryDay 82 = .ok (.if_icmp .ge 102, 3) := by decide +kernel
theorem dX0_tryDay_85 : decode cX0_tryDay 85 = .ok (.aload_n 0, 1) := by decide +kernel
theorem dX0_tryDay_86 : decode cX0_tryDay 86 = .ok (.getfield 27, 3) := by decide +kernel
theorem dX0_tryDay_89 : decode cX0_tryDay 89 = .ok (.iload 4, 2) := by decide +kernel
theorem dX0_tryDay_91 : decode cX0_tryDay 91 = .ok (.aaload, 1) := by decide +kernel
theorem dX0_tryDay_92 : decode cX0_tryDay 92 = .ok (.iconst 0, 1) := by decide +kernel
theorem dX0_tryDay_93 : decode cX0_tryDay 93 = .ok (.aload_n 0, 1) := by decide +kernel
theorem dX0_tryDay_94 : decode cX0_tryDay 94 = .ok (.getfield 12, 3) := by decide +kernel
theorem dX0_tryDay_97 : decode cX0_tryDay 97 = .ok (.getfield 83, 3) := by decide +kernel
theorem dX0_tryDay_100 : decode cX0_tryDay 100 = .ok (.iconst 0, 1) := by decide +kernel
theorem dX0_tryDay_101 : decode cX0_tryDay 101 = .ok (.iconst 4, 1) := by decide +kernel
theorem dX0_tryDay_102 : decode cX0_tryDay 102 = .ok (.invokestatic 77, 3) := by decide +kernel
theorem dX0_tryDay_105 : decode cX0_tryDay 105 = .ok (.aload_n 0, 1) := by decide +kernel
theorem dX0_tryDay_106 : decode cX0_tryDay 106 = .ok (.getfield 12, 3) := by decide +kernel
theorem dX0_tryDay_109 : decode cX0_tryDay 109 = .ok (.iload 4, 2) := by decide +kernel
theorem dX0_tryDay_111 : decode cX0_tryDay 111 = .ok (.ifCond .ne 7, 3) := by decide +kernel
theorem dX0_tryDay_114 : decode cX0_tryDay 114 = .ok (.iload_n 2, 1) := by decide +kernel
theorem dX0_tryDay_115 : decode cX0_tryDay 115 = .ok (.goto 4, 3) := by decide +kernel
theorem dX0_tryDay_118 : decode cX0_tryDay 118 = .ok (.iconst 0, 1) := by decide +kernel
theorem dX0_tryDay_119 : decode cX0_tryDay 119 = .ok (.putfield 86, 3) := by decide +kernel
theorem dX0_tryDay_122 : decode cX0_tryDay 122 = .ok (.aload_n 1, 1) := by decide +kernel
theorem dX0_tryDay_123 : decode cX0_tryDay 123 = .ok (.aload_n 0, 1) := by decide +kernel
theorem dX0_tryDay_124 : decode cX0_tryDay 124 = .ok (.getfield 12, 3) := by decide +kernel
theorem dX0_tryDay_127 : decode cX0_tryDay 127 = .ok (.iload 6, 2) := by decide +kernel
theorem dX0_tryDay_129 : decode cX0_tryDay 129 = .ok (.invokevirtual 57, 3) := by decide +kernel
theorem dX0_tryDay_132 : decode cX0_tryDay 132 = .ok (.aload_n 0, 1) := by decide +kernel
theorem dX0_tryDay_133 : decode cX0_tryDay 133 = .ok (.getfield 18, 3) := by decide +kernel
theorem dX0_tryDay_136 : decode cX0_tryDay 136 = .ok (.iload 4, 2) := by decide +kernel
theorem dX0_tryDay_138 : decode cX0_tryDay 138 = .ok (.iload 6, 2) := by decide +kernel
theorem dX0_tryDay_140 : decode cX0_tryDay 140 = .ok (.iastore, 1) := by decide +kernel
theorem dX0_tryDay_141 : decode cX0_tryDay 141 = .ok (.aload_n 1, 1) := by decide +kernel
theorem dX0_tryDay_142 : decode cX0_tryDay 142 = .ok (.aload_n 0, 1) := by decide +kernel
theorem dX0_tryDay_143 : decode cX0_tryDay 143 = .ok (.getfield 12, 3) := by decide +kernel
theorem dX0_tryDay_146 : decode cX0_tryDay 146 = .ok (.invokevirtual 47, 3) := by decide +kernel
theorem dX0_tryDay_149 : decode cX0_tryDay 149 = .ok (.invokestatic 51, 3) := by decide +kernel
theorem dX0_tryDay_152 : decode cX0_tryDay 152 = .ok (.istore 7, 2) := by decide +kernel
theorem dX0_tryDay_154 : decode cX0_tryDay 154 = .ok (.aload_n 1, 1) := by decide +kernel
theorem dX0_tryDay_155 : decode cX0_tryDay 155 = .ok (.aload_n 0, 1) := by decide +kernel
theorem dX0_tryDay_156 : decode cX0_tryDay 156 = .ok (.getfield 12, 3) := by decide +kernel
theorem dX0_tryDay_159 : decode cX0_tryDay 159 = .ok (.invokevirtual 96, 3) := by decide +kernel
theorem dX0_tryDay_162 : decode cX0_tryDay 162 = .ok (.aload_n 0, 1) := by decide +kernel
theorem dX0_tryDay_163 : decode cX0_tryDay 163 = .ok (.aload_n 1, 1) := by decide +kernel
theorem dX0_tryDay_164 : decode cX0_tryDay 164 = .ok (.iload_n 2, 1) := by decide +kernel
theorem dX0_tryDay_165 : decode cX0_tryDay 165 = .ok (.iload_n 3, 1) := by decide +kernel
theorem dX0_tryDay_166 : decode cX0_tryDay 166 = .ok (.iload 4, 2) := by decide +kernel
theorem dX0_tryDay_168 : decode cX0_tryDay 168 = .ok (.iconst 1, 1) := by decide +kernel
theorem dX0_tryDay_169 : decode cX0_tryDay 169 = .ok (.iadd, 1) := by decide +kernel
theorem dX0_tryDay_170 : decode cX0_tryDay 170 = .ok (.iload 5, 2) := by decide +kernel
theorem dX0_tryDay_172 : decode cX0_tryDay 172 = .ok (.iload 7, 2) := by decide +kernel
theorem dX0_tryDay_174 : decode cX0_tryDay 174 = .ok (.iadd, 1) := by decide +kernel
theorem dX0_tryDay_175 : decode cX0_tryDay 175 = .ok (.invokevirtual 89, 3) := by decide +kernel
theorem dX0_tryDay_178 : decode cX0_tryDay 178 = .ok (.iinc 6 1, 3) := by decide +kernel
theorem dX0_tryDay_181 : decode cX0_tryDay 181 = .ok (.goto (-105), 3) := by decide +kernel
theorem dX0_tryDay_184 : decode cX0_tryDay 184 = .ok (.return_, 1) := by decide +kernel
theorem dX0_tell_0 : decode cX0_tell 0 = .ok (.iload_n 1, 1) := by decide +kernel
theorem dX0_tell_1 : decode cX0_tell 1 = .ok (.ifCond .ne 8, 3) := by decide +kernel
theorem dX0_tell_4 : decode cX0_tell 4 = .ok (.aload_n 0, 1) := by decide +kernel
theorem dX0_tell_5 : decode cX0_tell 5 = .ok (.getfield 30, 3) := by decide +kernel
theorem dX0_tell_8 : decode cX0_tell 8 = .ok (.ireturn, 1) := by decide +kernel
theorem dX0_tell_9 : decode cX0_tell 9 = .ok (.iload_n 1, 1) := by decide +kernel
theorem dX0_tell_10 : decode cX0_tell 10 = .ok (.bipush 10, 2) := by decide +kernel
theorem dX0_tell_12 : decode cX0_tell 12 = .ok (.isub, 1) := by decide +kernel
theorem dX0_tell_13 : decode cX0_tell 13 = .ok (.istore_n 3, 1) := by decide +kernel
theorem dX0_tell_14 : decode cX0_tell 14 = .ok (.iload_n 3, 1) := by decide +kernel
theorem dX0_tell_15 : decode cX0_tell 15 = .ok (.ifCond .lt 22, 3) := by decide +kernel
theorem dX0_tell_18 : decode cX0_tell 18 = .ok (.iload_n 3, 1) := by decide +kernel
theorem dX0_tell_19 : decode cX0_tell 19 = .ok (.iload_n 2, 1) := by decide +kernel
theorem dX0_tell_20 : decode cX0_tell 20 = .ok (.if_icmp .ge 17, 3) := by decide +kernel
theorem dX0_tell_23 : decode cX0_tell 23 = .ok (.iload_n 3, 1) := by decide +kernel
theorem dX0_tell_24 : decode cX0_tell 24 = .ok (.iconst 3, 1) := by decide +kernel
theorem dX0_tell_25 : decode cX0_tell 25 = .ok (.if_icmp .ge 12, 3) := by decide +kernel
theorem dX0_tell_28 : decode cX0_tell 28 = .ok (.aload_n 0, 1) := by decide +kernel
theorem dX0_tell_29 : decode cX0_tell 29 = .ok (.getfield 22, 3) := by decide +kernel
theorem dX0_tell_32 : decode cX0_tell 32 = .ok (.iload_n 3, 1) := by decide +kernel
theorem dX0_tell_33 : decode cX0_tell 33 = .ok (.iaload, 1) := by decide +kernel
theorem dX0_tell_34 : decode cX0_tell 34 = .ok (.goto 4, 3) := by decide +kernel
theorem dX0_tell_37 : decode cX0_tell 37 = .ok (.iconst (-1), 1) := by decide +kernel
theorem dX0_tell_38 : decode cX0_tell 38 = .ok (.ireturn, 1) := by decide +kernel
theorem dX0_runWeeks_0 : decode cX0_runWeeks 0 = .ok (.aload_n 0, 1) := by decide +kernel
theorem dX0_runWeeks_1 : decode cX0_runWeeks 1 = .ok (.getfield 12, 3) := by decide +kernel
theorem dX0_runWeeks_4 : decode cX0_runWeeks 4 = .ok (.aload_n 2, 1) := by decide +kernel
theorem dX0_runWeeks_5 : decode cX0_runWeeks 5 = .ok (.invokevirtual 40, 3) := by decide +kernel
theorem dX0_runWeeks_8 : decode cX0_runWeeks 8 = .ok (.aload_n 0, 1) := by decide +kernel
theorem dX0_runWeeks_9 : decode cX0_runWeeks 9 = .ok (.getfield 12, 3) := by decide +kernel
theorem dX0_runWeeks_12 : decode cX0_runWeeks 12 = .ok (.iconst 0, 1) := by decide +kernel
theorem dX0_runWeeks_13 : decode cX0_runWeeks 13 = .ok (.putfield 86, 3) := by decide +kernel
theorem dX0_runWeeks_16 : decode cX0_runWeeks 16 = .ok (.aload_n 0, 1) := by decide +kernel
theorem dX0_runWeeks_17 : decode cX0_runWeeks 17 = .ok (.iconst 0, 1) := by decide +kernel
theorem dX0_runWeeks_18 : decode cX0_runWeeks 18 = .ok (.putfield 30, 3) := by decide +kernel
theorem dX0_runWeeks_21 : decode cX0_runWeeks 21 = .ok (.aload_n 0, 1) := by decide +kernel
theorem dX0_runWeeks_22 : decode cX0_runWeeks 22 = .ok (.iload 4, 2) := by decide +kernel
theorem dX0_runWeeks_24 : decode cX0_runWeeks 24 = .ok (.putfield 99, 3) := by decide +kernel
theorem dX0_runWeeks_27 : decode cX0_runWeeks 27 = .ok (.iconst 0, 1) := by decide +kernel
theorem dX0_runWeeks_28 : decode cX0_runWeeks 28 = .ok (.istore 5, 2) := by decide +kernel
theorem dX0_runWeeks_30 : decode cX0_runWeeks 30 = .ok (.iload 5, 2) := by decide +kernel
theorem dX0_runWeeks_32 : decode cX0_runWeeks 32 = .ok (.iload_n 3, 1) := by decide +kernel
theorem dX0_runWeeks_33 : decode cX0_runWeeks 33 = .ok (.if_icmp .ge 75, 3) := by decide +kernel
theorem dX0_runWeeks_36 : decode cX0_runWeeks 36 = .ok (.aload_n 0, 1) := by decide +kernel
theorem dX0_runWeeks_37 : decode cX0_runWeeks 37 = .ok (.aload_n 1, 1) := by decide +kernel
theorem dX0_runWeeks_38 : decode cX0_runWeeks 38 = .ok (.getfield 102, 3) := by decide +kernel
theorem dX0_runWeeks_41 : decode cX0_runWeeks 41 = .ok (.invokevirtual 105, 3) := by decide +kernel
theorem dX0_runWeeks_44 : decode cX0_runWeeks 44 = .ok (.istore 6, 2) := by decide +kernel
theorem dX0_runWeeks_46 : decode cX0_runWeeks 46 = .ok (.aload_n 0, 1) := by decide +kernel
theorem dX0_runWeeks_47 : decode cX0_runWeeks 47 = .ok (.iconst 4, 1) := by decide +kernel
theorem dX0_runWeeks_48 : decode cX0_runWeeks 48 = .ok (.invokevirtual 105, 3) := by decide +kernel
theorem dX0_runWeeks_51 : decode cX0_runWeeks 51 = .ok (.istore 7, 2) := by decide +kernel
theorem dX0_runWeeks_53 : decode cX0_runWeeks 53 = .ok (.iload 7, 2) := by decide +kernel
theorem dX0_runWeeks_55 : decode cX0_runWeeks 55 = .ok (.iconst 3, 1) := by decide +kernel
theorem dX0_runWeeks_56 : decode cX0_runWeeks 56 = .ok (.if_icmp .ge 18, 3) := by decide +kernel
theorem dX0_runWeeks_59 : decode cX0_runWeeks 59 = .ok (.aload_n 1, 1) := by decide +kernel
theorem dX0_runWeeks_60 : decode cX0_runWeeks 60 = .ok (.aload_n 0, 1) := by decide +kernel
theorem dX0_runWeeks_61 : decode cX0_runWeeks 61 = .ok (.getfield 12, 3) := by decide +kernel
theorem dX0_runWeeks_64 : decode cX0_runWeeks 64 = .ok (.iload 6, 2) := by decide +kernel
theorem dX0_runWeeks_66 : decode cX0_runWeeks 66 = .ok (.iconst 3, 1) := by decide +kernel
theorem dX0_runWeeks_67 : decode cX0_runWeeks 67 = .ok (.imul, 1) := by decide +kernel
theorem dX0_runWeeks_68 : decode cX0_runWeeks 68 = .ok (.iload 7, 2) := by decide +kernel
theorem dX0_runWeeks_70 : decode cX0_runWeeks 70 = .ok (.iadd, 1) := by decide +kernel
theorem dX0_runWeeks_71 : decode cX0_runWeeks 71 = .ok (.invokevirtual 57, 3) := by decide +kernel
theorem dX0_runWeeks_74 : decode cX0_runWeeks 74 = .ok (.aload_n 0, 1) := by decide +kernel
theorem dX0_runWeeks_75 : decode cX0_runWeeks 75 = .ok (.dup, 1) := by decide +kernel
theorem dX0_runWeeks_76 : decode cX0_runWeeks 76 = .ok (.getfield 30, 3) := by decide +kernel
theorem dX0_runWeeks_79 : decode cX0_runWeeks 79 = .ok (.aload_n 1, 1) := by decide +kernel
theorem dX0_runWeeks_80 : decode cX0_runWeeks 80 = .ok (.aload_n 0, 1) := by decide +kernel
theorem dX0_runWeeks_81 : decode cX0_runWeeks 81 = .ok (.getfield 12, 3) := by decide +kernel
theorem dX0_runWeeks_84 : decode cX0_runWeeks 84 = .ok (.invokevirtual 47, 3) := by decide +kernel
theorem dX0_runWeeks_87 : decode cX0_runWeeks 87 = .ok (.invokestatic 51, 3) := by decide +kernel
theorem dX0_runWeeks_90 : decode cX0_runWeeks 90 = .ok (.iadd, 1) := by decide +kernel
theorem dX0_runWeeks_91 : decode cX0_runWeeks 91 = .ok (.putfield 30, 3) := by decide +kernel
theorem dX0_runWeeks_94 : decode cX0_runWeeks 94 = .ok (.aload_n 1, 1) := by decide +kernel
theorem dX0_runWeeks_95 : decode cX0_runWeeks 95 = .ok (.aload_n 0, 1) := by decide +kernel
theorem dX0_runWeeks_96 : decode cX0_runWeeks 96 = .ok (.getfield 12, 3) := by decide +kernel
theorem dX0_runWeeks_99 : decode cX0_runWeeks 99 = .ok (.invokevirtual 96, 3) := by decide +kernel
theorem dX0_runWeeks_102 : decode cX0_runWeeks 102 = .ok (.iinc 5 1, 3) := by decide +kernel
theorem dX0_runWeeks_105 : decode cX0_runWeeks 105 = .ok (.goto (-75), 3) := by decide +kernel
theorem dX0_runWeeks_108 : decode cX0_runWeeks 108 = .ok (.return_, 1) := by decide +kernel
theorem dX0_draw_0 : decode cX0_draw 0 = .ok (.aload_n 0, 1) := by decide +kernel
theorem dX0_draw_1 : decode cX0_draw 1 = .ok (.ldc2_w 108, 3) := by decide +kernel
theorem dX0_draw_4 : decode cX0_draw 4 = .ok (.aload_n 0, 1) := by decide +kernel
theorem dX0_draw_5 : decode cX0_draw 5 = .ok (.getfield 99, 3) := by decide +kernel
theorem dX0_draw_8 : decode cX0_draw 8 = .ok (.i2l, 1) := by decide +kernel
theorem dX0_draw_9 : decode cX0_draw 9 = .ok (.lmul, 1) := by decide +kernel
theorem dX0_draw_10 : decode cX0_draw 10 = .ok (.ldc2_w 110, 3) := by decide +kernel
theorem dX0_draw_13 : decode cX0_draw 13 = .ok (.ladd, 1) := by decide +kernel
theorem dX0_draw_14 : decode cX0_draw 14 = .ok (.ldc2_w 112, 3) := by decide +kernel
theorem dX0_draw_17 : decode cX0_draw 17 = .ok (.lrem, 1) := by decide +kernel
theorem dX0_draw_18 : decode cX0_draw 18 = .ok (.l2i, 1) := by decide +kernel
theorem dX0_draw_19 : decode cX0_draw 19 = .ok (.putfield 99, 3) := by decide +kernel
theorem dX0_draw_22 : decode cX0_draw 22 = .ok (.iload_n 1, 1) := by decide +kernel
theorem dX0_draw_23 : decode cX0_draw 23 = .ok (.ifCond .le 15, 3) := by decide +kernel
theorem dX0_draw_26 : decode cX0_draw 26 = .ok (.aload_n 0, 1) := by decide +kernel
theorem dX0_draw_27 : decode cX0_draw 27 = .ok (.getfield 99, 3) := by decide +kernel
theorem dX0_draw_30 : decode cX0_draw 30 = .ok (.ldc 114, 2) := by decide +kernel
theorem dX0_draw_32 : decode cX0_draw 32 = .ok (.idiv, 1) := by decide +kernel
theorem dX0_draw_33 : decode cX0_draw 33 = .ok (.iload_n 1, 1) := by decide +kernel
theorem dX0_draw_34 : decode cX0_draw 34 = .ok (.irem, 1) := by decide +kernel
theorem dX0_draw_35 : decode cX0_draw 35 = .ok (.goto 4, 3) := by decide +kernel
theorem dX0_draw_38 : decode cX0_draw 38 = .ok (.iconst 0, 1) := by decide +kernel
theorem dX0_draw_39 : decode cX0_draw 39 = .ok (.ireturn, 1) := by decide +kernel
end
section
theorem dX1_init_0 : decode cX1_init 0 = .ok (.aload_n 0, 1) := by decide +kernel
theorem dX1_init_1 : decode cX1_init 1 = .ok (.invokespecial 3, 3) := by decide +kernel
theorem dX1_init_4 : decode cX1_init 4 = .ok (.aload_n 0, 1) := by decide +kernel
theorem dX1_init_5 : decode cX1_init 5 = .ok (.bipush 24, 2) := by decide +kernel
theorem dX1_init_7 : decode cX1_init 7 = .ok (.newarray .int, 2) := by decide +kernel
theorem dX1_init_9 : decode cX1_init 9 = .ok (.putfield 9, 3) := by decide +kernel
theorem dX1_init_12 : decode cX1_init 12 = .ok (.return_, 1) := by decide +kernel
theorem dX1_add_0 : decode cX1_add 0 = .ok (.aload_n 0, 1) := by decide +kernel
theorem dX1_add_1 : decode cX1_add 1 = .ok (.getfield 15, 3) := by decide +kernel
theorem dX1_add_4 : decode cX1_add 4 = .ok (.aload_n 0, 1) := by decide +kernel
theorem dX1_add_5 : decode cX1_add 5 = .ok (.getfield 9, 3) := by decide +kernel
theorem dX1_add_8 : decode cX1_add 8 = .ok (.arraylength, 1) := by decide +kernel
theorem dX1_add_9 : decode cX1_add 9 = .ok (.if_icmp .ge 23, 3) := by decide +kernel
theorem dX1_add_12 : decode cX1_add 12 = .ok (.aload_n 0, 1) := by decide +kernel
theorem dX1_add_13 : decode cX1_add 13 = .ok (.getfield 9, 3) := by decide +kernel
theorem dX1_add_16 : decode cX1_add 16 = .ok (.aload_n 0, 1) := by decide +kernel
theorem dX1_add_17 : decode cX1_add 17 = .ok (.getfield 15, 3) := by decide +kernel
theorem dX1_add_20 : decode cX1_add 20 = .ok (.iload_n 1, 1) := by decide +kernel
theorem dX1_add_21 : decode cX1_add 21 = .ok (.iastore, 1) := by decide +kernel
theorem dX1_add_22 : decode cX1_add 22 = .ok (.aload_n 0, 1) := by decide +kernel
theorem dX1_add_23 : decode cX1_add 23 = .ok (.dup, 1) := by decide +kernel
theorem dX1_add_24 : decode cX1_add 24 = .ok (.getfield 15, 3) := by decide +kernel
theorem dX1_add_27 : decode cX1_add 27 = .ok (.iconst 1, 1) := by decide +kernel
theorem dX1_add_28 : decode cX1_add 28 = .ok (.iadd, 1) := by decide +kernel
theorem dX1_add_29 : decode cX1_add 29 = .ok (.putfield 15, 3) := by decide +kernel
theorem dX1_add_32 : decode cX1_add 32 = .ok (.return_, 1) := by decide +kernel
theorem dX1_clear_0 : decode cX1_clear 0 = .ok (.aload_n 0, 1) := by decide +kernel
theorem dX1_clear_1 : decode cX1_clear 1 = .ok (.getfield 15, 3) := by decide +kernel
theorem dX1_clear_4 : decode cX1_clear 4 = .ok (.istore_n 1, 1) := by decide +kernel
theorem dX1_clear_5 : decode cX1_clear 5 = .ok (.aload_n 0, 1) := by decide +kernel
theorem dX1_clear_6 : decode cX1_clear 6 = .ok (.iconst 0, 1) := by decide +kernel
theorem dX1_clear_7 : decode cX1_clear 7 = .ok (.putfield 15, 3) := by decide +kernel
theorem dX1_clear_10 : decode cX1_clear 10 = .ok (.iload_n 1, 1) := by decide +kernel
theorem dX1_clear_11 : decode cX1_clear 11 = .ok (.ireturn, 1) := by decide +kernel
theorem dX1_codeAt_0 : decode cX1_codeAt 0 = .ok (.iload_n 1, 1) := by decide +kernel
theorem dX1_codeAt_1 : decode cX1_codeAt 1 = .ok (.ifCond .lt 20, 3) := by decide +kernel
theorem dX1_codeAt_4 : decode cX1_codeAt 4 = .ok (.iload_n 1, 1) := by decide +kernel
theorem dX1_codeAt_5 : decode cX1_codeAt 5 = .ok (.aload_n 0, 1) := by decide +kernel
theorem dX1_codeAt_6 : decode cX1_codeAt 6 = .ok (.getfield 15, 3) := by decide +kernel
theorem dX1_codeAt_9 : decode cX1_codeAt 9 = .ok (.if_icmp .ge 12, 3) := by decide +kernel
theorem dX1_codeAt_12 : decode cX1_codeAt 12 = .ok (.aload_n 0, 1) := by decide +kernel
theorem dX1_codeAt_13 : decode cX1_codeAt 13 = .ok (.getfield 9, 3) := by decide +kernel
theorem dX1_codeAt_16 : decode cX1_codeAt 16 = .ok (.iload_n 1, 1) := by decide +kernel
theorem dX1_codeAt_17 : decode cX1_codeAt 17 = .ok (.iaload, 1) := by decide +kernel
theorem dX1_codeAt_18 : decode cX1_codeAt 18 = .ok (.goto 4, 3) := by decide +kernel
theorem dX1_codeAt_21 : decode cX1_codeAt 21 = .ok (.iconst 0, 1) := by decide +kernel
theorem dX1_codeAt_22 : decode cX1_codeAt 22 = .ok (.ireturn, 1) := by decide +kernel
theorem dX1_digitAt_0 : decode cX1_digitAt 0 = .ok (.aload_n 0, 1) := by decide +kernel
theorem dX1_digitAt_1 : decode cX1_digitAt 1 = .ok (.iload_n 1, 1) := by decide +kernel
theorem dX1_digitAt_2 : decode cX1_digitAt 2 = .ok (.invokevirtual 19, 3) := by decide +kernel
theorem dX1_digitAt_5 : decode cX1_digitAt 5 = .ok (.bipush 48, 2) := by decide +kernel
theorem dX1_digitAt_7 : decode cX1_digitAt 7 = .ok (.isub, 1) := by decide +kernel
theorem dX1_digitAt_8 : decode cX1_digitAt 8 = .ok (.ireturn, 1) := by decide +kernel
theorem dX1_firstFault_0 : decode cX1_firstFault 0 = .ok (.iconst 0, 1) := by decide +kernel
theorem dX1_firstFault_1 : decode cX1_firstFault 1 = .ok (.istore_n 1, 1) := by decide +kernel
theorem dX1_firstFault_2 : decode cX1_firstFault 2 = .ok (.aload_n 0, 1) := by decide +kernel
theorem dX1_firstFault_3 : decode cX1_firstFault 3 = .ok (.invokevirtual 23, 3) := by decide +kernel
theorem dX1_firstFault_6 : decode cX1_firstFault 6 = .ok (.istore_n 2, 1) := by decide +kernel
theorem dX1_firstFault_7 : decode cX1_firstFault 7 = .ok (.iconst 0, 1) := by decide +kernel
theorem dX1_firstFault_8 : decode cX1_firstFault 8 = .ok (.istore_n 3, 1) := by decide +kernel
theorem dX1_firstFault_9 : decode cX1_firstFault 9 = .ok (.iload_n 3, 1) := by decide +kernel
theorem dX1_firstFault_10 : decode cX1_firstFault 10 = .ok (.aload_n 0, 1) := by decide +kernel
theorem dX1_firstFault_11 : decode cX1_firstFault 11 = .ok (.getfield 15, 3) := by decide +kernel
theorem dX1_firstFault_14 : decode cX1_firstFault 14 = .ok (.if_icmp .ge 50, 3) := by decide +kernel
theorem dX1_firstFault_17 : decode cX1_firstFault 17 = .ok (.iload_n 1, 1) := by decide +kernel
theorem dX1_firstFault_18 : decode cX1_firstFault 18 = .ok (.ifCond .eq 15, 3) := by decide +kernel
theorem dX1_firstFault_21 : decode cX1_firstFault 21 = .ok (.aload_n 0, 1) := by decide +kernel
theorem dX1_firstFault_22 : decode cX1_firstFault 22 = .ok (.iload_n 3, 1) := by decide +kernel
theorem dX1_firstFault_23 : decode cX1_firstFault 23 = .ok (.iload_n 2, 1) := by decide +kernel
theorem dX1_firstFault_24 : decode cX1_firstFault 24 = .ok (.invokevirtual 27, 3) := by decide +kernel
theorem dX1_firstFault_27 : decode cX1_firstFault 27 = .ok (.ifCond .eq 14, 3) := by decide +kernel
theorem dX1_firstFault_30 : decode cX1_firstFault 30 = .ok (.goto 13, 3) := by decide +kernel
theorem dX1_firstFault_33 : decode cX1_firstFault 33 = .ok (.aload_n 0, 1) := by decide +kernel
theorem dX1_firstFault_34 : decode cX1_firstFault 34 = .ok (.iload_n 3, 1) := by decide +kernel
theorem dX1_firstFault_35 : decode cX1_firstFault 35 = .ok (.invokevirtual 31, 3) := by decide +kernel
theorem dX1_firstFault_38 : decode cX1_firstFault 38 = .ok (.ifCond .ne 5, 3) := by decide +kernel
theorem dX1_firstFault_41 : decode cX1_firstFault 41 = .ok (.iload_n 3, 1) := by decide +kernel
theorem dX1_firstFault_42 : decode cX1_firstFault 42 = .ok (.ireturn, 1) := by decide +kernel
theorem dX1_firstFault_43 : decode cX1_firstFault 43 = .ok (.iload_n 1, 1) := by decide +kernel
theorem dX1_firstFault_44 : decode cX1_firstFault 44 = .ok (.ifCond .ne 8, 3) := by decide +kernel
theorem dX1_firstFault_47 : decode cX1_firstFault 47 = .ok (.iload_n 3, 1) := by decide +kernel
theorem dX1_firstFault_48 : decode cX1_firstFault 48 = .ok (.iload_n 2, 1) := by decide +kernel
theorem dX1_firstFault_49 : decode cX1_firstFault 49 = .ok (.if_icmp .ne 7, 3) := by decide +kernel
theorem dX1_firstFault_52 : decode cX1_firstFault 52 = .ok (.iconst 1, 1) := by decide +kernel
theorem dX1_firstFault_53 : decode cX1_firstFault 53 = .ok (.goto 4, 3) := by decide +kernel
theorem dX1_firstFault_56 : decode cX1_firstFault 56 = .ok (.iconst 0, 1) := by decide +kernel
theorem dX1_firstFault_57 : decode cX1_firstFault 57 = .ok (.istore_n 1, 1) := by decide +kernel
theorem dX1_firstFault_58 : decode cX1_firstFault 58 = .ok (.iinc 3 1, 3) := by decide +kernel
theorem dX1_firstFault_61 : decode cX1_firstFault 61 = .ok (.goto (-52), 3) := by decide +kernel
theorem dX1_firstFault_64 : decode cX1_firstFault 64 = .ok (.aload_n 0, 1) := by decide +kernel
theorem dX1_firstFault_65 : decode cX1_firstFault 65 = .ok (.getfield 15, 3) := by decide +kernel
theorem dX1_firstFault_68 : decode cX1_firstFault 68 = .ok (.ireturn, 1) := by decide +kernel
theorem dX1_isValley_0 : decode cX1_isValley 0 = .ok (.aload_n 0, 1) := by decide +kernel
theorem dX1_isValley_1 : decode cX1_isValley 1 = .ok (.invokevirtual 23, 3) := by decide +kernel
theorem dX1_isValley_4 : decode cX1_isValley 4 = .ok (.istore_n 1, 1) := by decide +kernel
theorem dX1_isValley_5 : decode cX1_isValley 5 = .ok (.iload_n 1, 1) := by decide +kernel
theorem dX1_isValley_6 : decode cX1_isValley 6 = .ok (.iconst (-1), 1) := by decide +kernel
theorem dX1_isValley_7 : decode cX1_isValley 7 = .ok (.if_icmp .eq 30, 3) := by decide +kernel
theorem dX1_isValley_10 : decode cX1_isValley 10 = .ok (.aload_n 0, 1) := by decide +kernel
theorem dX1_isValley_11 : decode cX1_isValley 11 = .ok (.getfield 15, 3) := by decide +kernel
theorem dX1_isValley_14 : decode cX1_isValley 14 = .ok (.iload_n 1, 1) := by decide +kernel
theorem dX1_isValley_15 : decode cX1_isValley 15 = .ok (.isub, 1) := by decide +kernel
theorem dX1_isValley_16 : decode cX1_isValley 16 = .ok (.iconst 1, 1) := by decide +kernel
theorem dX1_isValley_17 : decode cX1_isValley 17 = .ok (.isub, 1) := by decide +kernel
theorem dX1_isValley_18 : decode cX1_isValley 18 = .ok (.iconst 2, 1) := by decide +kernel
theorem dX1_isValley_19 : decode cX1_isValley 19 = .ok (.if_icmp .lt 18, 3) := by decide +kernel
theorem dX1_isValley_22 : decode cX1_isValley 22 = .ok (.aload_n 0, 1) := by decide +kernel
theorem dX1_isValley_23 : decode cX1_isValley 23 = .ok (.invokevirtual 35, 3) := by decide +kernel
theorem dX1_isValley_26 : decode cX1_isValley 26 = .ok (.aload_n 0, 1) := by decide +kernel
theorem dX1_isValley_27 : decode cX1_isValley 27 = .ok (.getfield 15, 3) := by decide +kernel
theorem dX1_isValley_30 : decode cX1_isValley 30 = .ok (.if_icmp .ne 7, 3) := by decide +kernel
theorem dX1_isValley_33 : decode cX1_isValley 33 = .ok (.iconst 1, 1) := by decide +kernel
theorem dX1_isValley_34 : decode cX1_isValley 34 = .ok (.goto 4, 3) := by decide +kernel
theorem dX1_isValley_37 : decode cX1_isValley 37 = .ok (.iconst 0, 1) := by decide +kernel
theorem dX1_isValley_38 : decode cX1_isValley 38 = .ok (.ireturn, 1) := by decide +kernel
theorem dX1_markPlace_0 : decode cX1_markPlace 0 = .ok (.iconst 0, 1) := by decide +kernel
theorem dX1_markPlace_1 : decode cX1_markPlace 1 = .ok (.istore_n 1, 1) := by decide +kernel
theorem dX1_markPlace_2 : decode cX1_markPlace 2 = .ok (.iload_n 1, 1) := by decide +kernel
theorem dX1_markPlace_3 : decode cX1_markPlace 3 = .ok (.aload_n 0, 1) := by decide +kernel
theorem dX1_markPlace_4 : decode cX1_markPlace 4 = .ok (.getfield 15, 3) := by decide +kernel
theorem dX1_markPlace_7 : decode cX1_markPlace 7 = .ok (.if_icmp .ge 22, 3) := by decide +kernel
theorem dX1_markPlace_10 : decode cX1_markPlace 10 = .ok (.aload_n 0, 1) := by decide +kernel
theorem dX1_markPlace_11 : decode cX1_markPlace 11 = .ok (.getfield 9, 3) := by decide +kernel
theorem dX1_markPlace_14 : decode cX1_markPlace 14 = .ok (.iload_n 1, 1) := by decide +kernel
theorem dX1_markPlace_15 : decode cX1_markPlace 15 = .ok (.iaload, 1) := by decide +kernel
theorem dX1_markPlace_16 : decode cX1_markPlace 16 = .ok (.bipush 59, 2) := by decide +kernel
theorem dX1_markPlace_18 : decode cX1_markPlace 18 = .ok (.if_icmp .ne 5, 3) := by decide +kernel
theorem dX1_markPlace_21 : decode cX1_markPlace 21 = .ok (.iload_n 1, 1) := by decide +kernel
theorem dX1_markPlace_22 : decode cX1_markPlace 22 = .ok (.ireturn, 1) := by decide +kernel
theorem dX1_markPlace_23 : decode cX1_markPlace 23 = .ok (.iinc 1 1, 3) := by decide +kernel
theorem dX1_markPlace_26 : decode cX1_markPlace 26 = .ok (.goto (-24), 3) := by decide +kernel
theorem dX1_markPlace_29 : decode cX1_markPlace 29 = .ok (.iconst (-1), 1) := by decide +kernel
theorem dX1_markPlace_30 : decode cX1_markPlace 30 = .ok (.ireturn, 1) := by decide +kernel
theorem dX1_fitsPeople_0 : decode cX1_fitsPeople 0 = .ok (.iload_n 1, 1) := by decide +kernel
theorem dX1_fitsPeople_1 : decode cX1_fitsPeople 1 = .ok (.iconst 4, 1) := by decide +kernel
theorem dX1_fitsPeople_2 : decode cX1_fitsPeople 2 = .ok (.irem, 1) := by decide +kernel
theorem dX1_fitsPeople_3 : decode cX1_fitsPeople 3 = .ok (.tableswitch 62 0 2 #[25, 45, 54], 25) := by decide +kernel
theorem dX1_fitsPeople_28 : decode cX1_fitsPeople 28 = .ok (.ldc 38, 2) := by decide +kernel
theorem dX1_fitsPeople_30 : decode cX1_fitsPeople 30 = .ok (.aload_n 0, 1) := by decide +kernel
theorem dX1_fitsPeople_31 : decode cX1_fitsPeople 31 = .ok (.iload_n 1, 1) := by decide +kernel
theorem dX1_fitsPeople_32 : decode cX1_fitsPeople 32 = .ok (.invokevirtual 19, 3) := by decide +kernel
theorem dX1_fitsPeople_35 : decode cX1_fitsPeople 35 = .ok (.i2c, 1) := by decide +kernel
theorem dX1_fitsPeople_36 : decode cX1_fitsPeople 36 = .ok (.invokevirtual 40, 3) := by decide +kernel
theorem dX1_fitsPeople_39 : decode cX1_fitsPeople 39 = .ok (.ifCond .lt 7, 3) := by decide +kernel
theorem dX1_fitsPeople_42 : decode cX1_fitsPeople 42 = .ok (.iconst 1, 1) := by decide +kernel
theorem dX1_fitsPeople_43 : decode cX1_fitsPeople 43 = .ok (.goto 4, 3) := by decide +kernel
theorem dX1_fitsPeople_46 : decode cX1_fitsPeople 46 = .ok (.iconst 0, 1) := by decide +kernel
theorem dX1_fitsPeople_47 : decode cX1_fitsPeople 47 = .ok (.ireturn, 1) := by decide +kernel
theorem dX1_fitsPeople_48 : decode cX1_fitsPeople 48 = .ok (.aload_n 0, 1) := by decide +kernel
theorem dX1_fitsPeople_49 : decode cX1_fitsPeople 49 = .ok (.iload_n 1, 1) := by decide +kernel
theorem dX1_fitsPeople_50 : decode cX1_fitsPeople 50 = .ok (.iconst 1, 1) := by decide +kernel
theorem dX1_fitsPeople_51 : decode cX1_fitsPeople 51 = .ok (.bipush 9, 2) := by decide +kernel
theorem dX1_fitsPeople_53 : decode cX1_fitsPeople 53 = .ok (.invokevirtual 45, 3) := by decide +kernel
theorem dX1_fitsPeople_56 : decode cX1_fitsPeople 56 = .ok (.ireturn, 1) := by decide +kernel
theorem dX1_fitsPeople_57 : decode cX1_fitsPeople 57 = .ok (.aload_n 0, 1) := by decide +kernel
theorem dX1_fitsPeople_58 : decode cX1_fitsPeople 58 = .ok (.iload_n 1, 1) := by decide +kernel
theorem dX1_fitsPeople_59 : decode cX1_fitsPeople 59 = .ok (.iconst 0, 1) := by decide +kernel
theorem dX1_fitsPeople_60 : decode cX1_fitsPeople 60 = .ok (.iconst 5, 1) := by decide +kernel
theorem dX1_fitsPeople_61 : decode cX1_fitsPeople 61 = .ok (.invokevirtual 45, 3) := by decide +kernel
theorem dX1_fitsPeople_64 : decode cX1_fitsPeople 64 = .ok (.ireturn, 1) := by decide +kernel
theorem dX1_fitsPeople_65 : decode cX1_fitsPeople 65 = .ok (.aload_n 0, 1) := by decide +kernel
theorem dX1_fitsPeople_66 : decode cX1_fitsPeople 66 = .ok (.aload_n 0, 1) := by decide +kernel
theorem dX1_fitsPeople_67 : decode cX1_fitsPeople 67 = .ok (.iload_n 1, 1) := by decide +kernel
theorem dX1_fitsPeople_68 : decode cX1_fitsPeople 68 = .ok (.invokevirtual 19, 3) := by decide +kernel
theorem dX1_fitsPeople_71 : decode cX1_fitsPeople 71 = .ok (.iload_n 1, 1) := by decide +kernel
theorem dX1_fitsPeople_72 : decode cX1_fitsPeople 72 = .ok (.iconst 4, 1) := by decide +kernel
theorem dX1_fitsPeople_73 : decode cX1_fitsPeople 73 = .ok (.idiv, 1) := by decide +kernel
theorem dX1_fitsPeople_74 : decode cX1_fitsPeople 74 = .ok (.iconst 1, 1) := by decide +kernel
theorem dX1_fitsPeople_75 : decode cX1_fitsPeople 75 = .ok (.iadd, 1) := by decide +kernel
theorem dX1_fitsPeople_76 : decode cX1_fitsPeople 76 = .ok (.invokevirtual 49, 3) := by decide +kernel
theorem dX1_fitsPeople_79 : decode cX1_fitsPeople 79 = .ok (.ireturn, 1) := by decide +kernel
theorem dX1_fitsBehindPeople_0 : decode cX1_fitsBehindPeople 0 = .ok (.iload_n 1, 1) := by decide +kernel
theorem dX1_fitsBehindPeople_1 : decode cX1_fitsBehindPeople 1 = .ok (.bipush 44, 2) := by decide +kernel
theorem dX1_fitsBehindPeople_3 : decode cX1_fitsBehindPeople 3 = .ok (.if_icmp .ne 8, 3) := by decide +kernel
theorem dX1_fitsBehindPeople_6 : decode cX1_fitsBehindPeople 6 = .ok (.iload_n 2, 1) := by decide +kernel
theorem dX1_fitsBehindPeople_7 : decode cX1_fitsBehindPeople 7 = .ok (.iconst 4, 1) := by decide +kernel
theorem dX1_fitsBehindPeople_8 : decode cX1_fitsBehindPeople 8 = .ok (.if_icmp .lt 14, 3) := by decide +kernel
theorem dX1_fitsBehindPeople_11 : decode cX1_fitsBehindPeople 11 = .ok (.iload_n 1, 1) := by decide +kernel
theorem dX1_fitsBehindPeople_12 : decode cX1_fitsBehindPeople 12 = .ok (.bipush 59, 2) := by decide +kernel
theorem dX1_fitsBehindPeople_14 : decode cX1_fitsBehindPeople 14 = .ok (.if_icmp .ne 12, 3) := by decide +kernel
theorem dX1_fitsBehindPeople_17 : decode cX1_fitsBehindPeople 17 = .ok (.iload_n 2, 1) := by decide +kernel
theorem dX1_fitsBehindPeople_18 : decode cX1_fitsBehindPeople 18 = .ok (.iconst 2, 1) := by decide +kernel
theorem dX1_fitsBehindPeople_19 : decode cX1_fitsBehindPeople 19 = .ok (.if_icmp .lt 7, 3) := by decide +kernel
theorem dX1_fitsBehindPeople_22 : decode cX1_fitsBehindPeople 22 = .ok (.iconst 1, 1) := by decide +kernel
theorem dX1_fitsBehindPeople_23 : decode cX1_fitsBehindPeople 23 = .ok (.goto 4, 3) := by decide +kernel
theorem dX1_fitsBehindPeople_26 : decode cX1_fitsBehindPeople 26 = .ok (.iconst 0, 1) := by decide +kernel
theorem dX1_fitsBehindPeople_27 : decode cX1_fitsBehindPeople 27 = .ok (.ireturn, 1) := by decide +kernel
theorem dX1_fitsPails_0 : decode cX1_fitsPails 0 = .ok (.iload_n 1, 1) := by decide +kernel
theorem dX1_fitsPails_1 : decode cX1_fitsPails 1 = .ok (.iload_n 2, 1) := by decide +kernel
theorem dX1_fitsPails_2 : decode cX1_fitsPails 2 = .ok (.isub, 1) := by decide +kernel
theorem dX1_fitsPails_3 : decode cX1_fitsPails 3 = .ok (.bipush 6, 2) := by decide +kernel
theorem dX1_fitsPails_5 : decode cX1_fitsPails 5 = .ok (.if_icmp .gt 18, 3) := by decide +kernel
theorem dX1_fitsPails_8 : decode cX1_fitsPails 8 = .ok (.aload_n 0, 1) := by decide +kernel
theorem dX1_fitsPails_9 : decode cX1_fitsPails 9 = .ok (.iload_n 1, 1) := by decide +kernel
theorem dX1_fitsPails_10 : decode cX1_fitsPails 10 = .ok (.iconst 1, 1) := by decide +kernel
theorem dX1_fitsPails_11 : decode cX1_fitsPails 11 = .ok (.bipush 9, 2) := by decide +kernel
theorem dX1_fitsPails_13 : decode cX1_fitsPails 13 = .ok (.invokevirtual 45, 3) := by decide +kernel
theorem dX1_fitsPails_16 : decode cX1_fitsPails 16 = .ok (.ifCond .eq 7, 3) := by decide +kernel
theorem dX1_fitsPails_19 : decode cX1_fitsPails 19 = .ok (.iconst 1, 1) := by decide +kernel
theorem dX1_fitsPails_20 : decode cX1_fitsPails 20 = .ok (.goto 4, 3) := by decide +kernel
theorem dX1_fitsPails_23 : decode cX1_fitsPails 23 = .ok (.iconst 0, 1) := by decide +kernel
theorem dX1_fitsPails_24 : decode cX1_fitsPails 24 = .ok (.ireturn, 1) := by decide +kernel
theorem dX1_isDigit_0 : decode cX1_isDigit 0 = .ok (.aload_n 0, 1) := by decide +kernel
theorem dX1_isDigit_1 : decode cX1_isDigit 1 = .ok (.iload_n 1, 1) := by decide +kernel
theorem dX1_isDigit_2 : decode cX1_isDigit 2 = .ok (.invokevirtual 52, 3) := by decide +kernel
theorem dX1_isDigit_5 : decode cX1_isDigit 5 = .ok (.istore 4, 2) := by decide +kernel
theorem dX1_isDigit_7 : decode cX1_isDigit 7 = .ok (.iload 4, 2) := by decide +kernel
theorem dX1_isDigit_9 : decode cX1_isDigit 9 = .ok (.iload_n 2, 1) := by decide +kernel
theorem dX1_isDigit_10 : decode cX1_isDigit 10 = .ok (.if_icmp .lt 13, 3) := by decide +kernel
theorem dX1_isDigit_13 : decode cX1_isDigit 13 = .ok (.iload 4, 2) := by decide +kernel
theorem dX1_isDigit_15 : decode cX1_isDigit 15 = .ok (.iload_n 3, 1) := by decide +kernel
theorem dX1_isDigit_16 : decode cX1_isDigit 16 = .ok (.if_icmp .gt 7, 3) := by decide +kernel
theorem dX1_isDigit_19 : decode cX1_isDigit 19 = .ok (.iconst 1, 1) := by decide +kernel
theorem dX1_isDigit_20 : decode cX1_isDigit 20 = .ok (.goto 4, 3) := by decide +kernel
theorem dX1_isDigit_23 : decode cX1_isDigit 23 = .ok (.iconst 0, 1) := by decide +kernel
theorem dX1_isDigit_24 : decode cX1_isDigit 24 = .ok (.ireturn, 1) := by decide +kernel
end
section
theorem dX2_init_0 : decode cX2_init 0 = .ok (.aload_n 0, 1) := by decide +kernel
theorem dX2_init_1 : decode cX2_init 1 = .ok (.invokespecial 3, 3) := by decide +kernel
theorem dX2_init_4 : decode cX2_init 4 = .ok (.aload_n 0, 1) := by decide +kernel
theorem dX2_init_5 : decode cX2_init 5 = .ok (.bipush 6, 2) := by decide +kernel
theorem dX2_init_7 : decode cX2_init 7 = .ok (.newarray .int, 2) := by decide +kernel
theorem dX2_init_9 : decode cX2_init 9 = .ok (.putfield 9, 3) := by decide +kernel
theorem dX2_init_12 : decode cX2_init 12 = .ok (.aload_n 0, 1) := by decide +kernel
theorem dX2_init_13 : decode cX2_init 13 = .ok (.bipush 6, 2) := by decide +kernel
theorem dX2_init_15 : decode cX2_init 15 = .ok (.newarray .int, 2) := by decide +kernel
theorem dX2_init_17 : decode cX2_init 17 = .ok (.putfield 15, 3) := by decide +kernel
theorem dX2_init_20 : decode cX2_init 20 = .ok (.aload_n 0, 1) := by decide +kernel
theorem dX2_init_21 : decode cX2_init 21 = .ok (.bipush 6, 2) := by decide +kernel
theorem dX2_init_23 : decode cX2_init 23 = .ok (.newarray .int, 2) := by decide +kernel
theorem dX2_init_25 : decode cX2_init 25 = .ok (.putfield 18, 3) := by decide +kernel
theorem dX2_init_28 : decode cX2_init 28 = .ok (.return_, 1) := by decide +kernel
theorem dX2_add_0 : decode cX2_add 0 = .ok (.aload_n 0, 1) := by decide +kernel
theorem dX2_add_1 : decode cX2_add 1 = .ok (.getfield 21, 3) := by decide +kernel
theorem dX2_add_4 : decode cX2_add 4 = .ok (.bipush 6, 2) := by decide +kernel
theorem dX2_add_6 : decode cX2_add 6 = .ok (.if_icmp .ge 43, 3) := by decide +kernel
theorem dX2_add_9 : decode cX2_add 9 = .ok (.aload_n 0, 1) := by decide +kernel
theorem dX2_add_10 : decode cX2_add 10 = .ok (.getfield 9, 3) := by decide +kernel
theorem dX2_add_13 : decode cX2_add 13 = .ok (.aload_n 0, 1) := by decide +kernel
theorem dX2_add_14 : decode cX2_add 14 = .ok (.getfield 21, 3) := by decide +kernel
theorem dX2_add_17 : decode cX2_add 17 = .ok (.iload_n 1, 1) := by decide +kernel
theorem dX2_add_18 : decode cX2_add 18 = .ok (.iastore, 1) := by decide +kernel
theorem dX2_add_19 : decode cX2_add 19 = .ok (.aload_n 0, 1) := by decide +kernel
theorem dX2_add_20 : decode cX2_add 20 = .ok (.getfield 15, 3) := by decide +kernel
theorem dX2_add_23 : decode cX2_add 23 = .ok (.aload_n 0, 1) := by decide +kernel
theorem dX2_add_24 : decode cX2_add 24 = .ok (.getfield 21, 3) := by decide +kernel
theorem dX2_add_27 : decode cX2_add 27 = .ok (.iload_n 2, 1) := by decide +kernel
theorem dX2_add_28 : decode cX2_add 28 = .ok (.iastore, 1) := by decide +kernel
theorem dX2_add_29 : decode cX2_add 29 = .ok (.aload_n 0, 1) := by decide +kernel
theorem dX2_add_30 : decode cX2_add 30 = .ok (.getfield 18, 3) := by decide +kernel
theorem dX2_add_33 : decode cX2_add 33 = .ok (.aload_n 0, 1) := by decide +kernel
theorem dX2_add_34 : decode cX2_add 34 = .ok (.getfield 21, 3) := by decide +kernel
theorem dX2_add_37 : decode cX2_add 37 = .ok (.iload_n 3, 1) := by decide +kernel
theorem dX2_add_38 : decode cX2_add 38 = .ok (.iastore, 1) := by decide +kernel
theorem dX2_add_39 : decode cX2_add 39 = .ok (.aload_n 0, 1) := by decide +kernel
theorem dX2_add_40 : decode cX2_add 40 = .ok (.dup, 1) := by decide +kernel
theorem dX2_add_41 : decode cX2_add 41 = .ok (.getfield 21, 3) := by decide +kernel
theorem dX2_add_44 : decode cX2_add 44 = .ok (.iconst 1, 1) := by decide +kernel
theorem dX2_add_45 : decode cX2_add 45 = .ok (.iadd, 1) := by decide +kernel
theorem dX2_add_46 : decode cX2_add 46 = .ok (.putfield 21, 3) := by decide +kernel
theorem dX2_add_49 : decode cX2_add 49 = .ok (.return_, 1) := by decide +kernel
theorem dX2_copyFrom_0 : decode cX2_copyFrom 0 = .ok (.aload_n 1, 1) := by decide +kernel
theorem dX2_copyFrom_1 : decode cX2_copyFrom 1 = .ok (.getfield 9, 3) := by decide +kernel
theorem dX2_copyFrom_4 : decode cX2_copyFrom 4 = .ok (.iconst 0, 1) := by decide +kernel
theorem dX2_copyFrom_5 : decode cX2_copyFrom 5 = .ok (.aload_n 0, 1) := by decide +kernel
theorem dX2_copyFrom_6 : decode cX2_copyFrom 6 = .ok (.getfield 9, 3) := by decide +kernel
theorem dX2_copyFrom_9 : decode cX2_copyFrom 9 = .ok (.iconst 0, 1) := by decide +kernel
theorem dX2_copyFrom_10 : decode cX2_copyFrom 10 = .ok (.bipush 6, 2) := by decide +kernel
theorem dX2_copyFrom_12 : decode cX2_copyFrom 12 = .ok (.invokestatic 25, 3) := by decide +kernel
theorem dX2_copyFrom_15 : decode cX2_copyFrom 15 = .ok (.aload_n 1, 1) := by decide +kernel
theorem dX2_copyFrom_16 : decode cX2_copyFrom 16 = .ok (.getfield 15, 3) := by decide +kernel
theorem dX2_copyFrom_19 : decode cX2_copyFrom 19 = .ok (.iconst 0, 1) := by decide +kernel
theorem dX2_copyFrom_20 : decode cX2_copyFrom 20 = .ok (.aload_n 0, 1) := by decide +kernel
theorem dX2_copyFrom_21 : decode cX2_copyFrom 21 = .ok (.getfield 15, 3) := by decide +kernel
theorem dX2_copyFrom_24 : decode cX2_copyFrom 24 = .ok (.iconst 0, 1) := by decide +kernel
theorem dX2_copyFrom_25 : decode cX2_copyFrom 25 = .ok (.bipush 6, 2) := by decide +kernel
theorem dX2_copyFrom_27 : decode cX2_copyFrom 27 = .ok (.invokestatic 25, 3) := by decide +kernel
theorem dX2_copyFrom_30 : decode cX2_copyFrom 30 = .ok (.aload_n 1, 1) := by decide +kernel
theorem dX2_copyFrom_31 : decode cX2_copyFrom 31 = .ok (.getfield 18, 3) := by decide +kernel
theorem dX2_copyFrom_34 : decode cX2_copyFrom 34 = .ok (.iconst 0, 1) := by decide +kernel
theorem dX2_copyFrom_35 : decode cX2_copyFrom 35 = .ok (.aload_n 0, 1) := by decide +kernel
theorem dX2_copyFrom_36 : decode cX2_copyFrom 36 = .ok (.getfield 18, 3) := by decide +kernel
theorem dX2_copyFrom_39 : decode cX2_copyFrom 39 = .ok (.iconst 0, 1) := by decide +kernel
theorem dX2_copyFrom_40 : decode cX2_copyFrom 40 = .ok (.bipush 6, 2) := by decide +kernel
theorem dX2_copyFrom_42 : decode cX2_copyFrom 42 = .ok (.invokestatic 25, 3) := by decide +kernel
theorem dX2_copyFrom_45 : decode cX2_copyFrom 45 = .ok (.aload_n 0, 1) := by decide +kernel
theorem dX2_copyFrom_46 : decode cX2_copyFrom 46 = .ok (.aload_n 1, 1) := by decide +kernel
theorem dX2_copyFrom_47 : decode cX2_copyFrom 47 = .ok (.getfield 21, 3) := by decide +kernel
theorem dX2_copyFrom_50 : decode cX2_copyFrom 50 = .ok (.putfield 21, 3) := by decide +kernel
theorem dX2_copyFrom_53 : decode cX2_copyFrom 53 = .ok (.return_, 1) := by decide +kernel
theorem dX2_prides_0 : decode cX2_prides 0 = .ok (.iconst 0, 1) := by decide +kernel
theorem dX2_prides_1 : decode cX2_prides 1 = .ok (.istore_n 3, 1) := by decide +kernel
theorem dX2_prides_2 : decode cX2_prides 2 = .ok (.iconst 1, 1) := by decide +kernel
theorem dX2_prides_3 : decode cX2_prides 3 = .ok (.istore 4, 2) := by decide +kernel
theorem dX2_prides_5 : decode cX2_prides 5 = .ok (.iload 4, 2) := by decide +kernel
theorem dX2_prides_7 : decode cX2_prides 7 = .ok (.bipush 9, 2) := by decide +kernel
theorem dX2_prides_9 : decode cX2_prides 9 = .ok (.if_icmp .gt 29, 3) := by decide +kernel
theorem dX2_prides_12 : decode cX2_prides 12 = .ok (.aload_n 0, 1) := by decide +kernel
theorem dX2_prides_13 : decode cX2_prides 13 = .ok (.iload_n 1, 1) := by decide +kernel
theorem dX2_prides_14 : decode cX2_prides 14 = .ok (.iload_n 2, 1) := by decide +kernel
theorem dX2_prides_15 : decode cX2_prides 15 = .ok (.iload 4, 2) := by decide +kernel
theorem dX2_prides_17 : decode cX2_prides 17 = .ok (.invokevirtual 31, 3) := by decide +kernel
theorem dX2_prides_20 : decode cX2_prides 20 = .ok (.ifCond .eq 12, 3) := by decide +kernel
theorem dX2_prides_23 : decode cX2_prides 23 = .ok (.iload_n 3, 1) := by decide +kernel
theorem dX2_prides_24 : decode cX2_prides 24 = .ok (.iconst 1, 1) := by decide +kernel
theorem dX2_prides_25 : decode cX2_prides 25 = .ok (.iload 4, 2) := by decide +kernel
theorem dX2_prides_27 : decode cX2_prides 27 = .ok (.iconst 1, 1) := by decide +kernel
theorem dX2_prides_28 : decode cX2_prides 28 = .ok (.isub, 1) := by decide +kernel
theorem dX2_prides_29 : decode cX2_prides 29 = .ok (.ishl, 1) := by decide +kernel
theorem dX2_prides_30 : decode cX2_prides 30 = .ok (.ior, 1) := by decide +kernel
theorem dX2_prides_31 : decode cX2_prides 31 = .ok (.istore_n 3, 1) := by decide +kernel
theorem dX2_prides_32 : decode cX2_prides 32 = .ok (.iinc 4 1, 3) := by decide +kernel
theorem dX2_prides_35 : decode cX2_prides 35 = .ok (.goto (-30), 3) := by decide +kernel
theorem dX2_prides_38 : decode cX2_prides 38 = .ok (.iload_n 3, 1) := by decide +kernel
theorem dX2_prides_39 : decode cX2_prides 39 = .ok (.ireturn, 1) := by decide +kernel
theorem dX2_allowsPride_0 : decode cX2_allowsPride 0 = .ok (.iconst 0, 1) := by decide +kernel
theorem dX2_allowsPride_1 : decode cX2_allowsPride 1 = .ok (.istore 4, 2) := by decide +kernel
theorem dX2_allowsPride_3 : decode cX2_allowsPride 3 = .ok (.iload 4, 2) := by decide +kernel
theorem dX2_allowsPride_5 : decode cX2_allowsPride 5 = .ok (.aload_n 0, 1) := by decide +kernel
theorem dX2_allowsPride_6 : decode cX2_allowsPride 6 = .ok (.getfield 21, 3) := by decide +kernel
theorem dX2_allowsPride_9 : decode cX2_allowsPride 9 = .ok (.if_icmp .ge 44, 3) := by decide +kernel
theorem dX2_allowsPride_12 : decode cX2_allowsPride 12 = .ok (.aload_n 0, 1) := by decide +kernel
theorem dX2_allowsPride_13 : decode cX2_allowsPride 13 = .ok (.getfield 9, 3) := by decide +kernel
theorem dX2_allowsPride_16 : decode cX2_allowsPride 16 = .ok (.iload 4, 2) := by decide +kernel
theorem dX2_allowsPride_18 : decode cX2_allowsPride 18 = .ok (.iaload, 1) := by decide +kernel
theorem dX2_allowsPride_19 : decode cX2_allowsPride 19 = .ok (.iload_n 1, 1) := by decide +kernel
theorem dX2_allowsPride_20 : decode cX2_allowsPride 20 = .ok (.if_icmp .ne 27, 3) := by decide +kernel
theorem dX2_allowsPride_23 : decode cX2_allowsPride 23 = .ok (.iload_n 2, 1) := by decide +kernel
theorem dX2_allowsPride_24 : decode cX2_allowsPride 24 = .ok (.iload_n 3, 1) := by decide +kernel
theorem dX2_allowsPride_25 : decode cX2_allowsPride 25 = .ok (.aload_n 0, 1) := by decide +kernel
theorem dX2_allowsPride_26 : decode cX2_allowsPride 26 = .ok (.getfield 15, 3) := by decide +kernel
theorem dX2_allowsPride_29 : decode cX2_allowsPride 29 = .ok (.iload 4, 2) := by decide +kernel
theorem dX2_allowsPride_31 : decode cX2_allowsPride 31 = .ok (.iaload, 1) := by decide +kernel
theorem dX2_allowsPride_32 : decode cX2_allowsPride 32 = .ok (.invokestatic 35, 3) := by decide +kernel
theorem dX2_allowsPride_35 : decode cX2_allowsPride 35 = .ok (.aload_n 0, 1) := by decide +kernel
theorem dX2_allowsPride_36 : decode cX2_allowsPride 36 = .ok (.getfield 18, 3) := by decide +kernel
theorem dX2_allowsPride_39 : decode cX2_allowsPride 39 = .ok (.iload 4, 2) := by decide +kernel
theorem dX2_allowsPride_41 : decode cX2_allowsPride 41 = .ok (.iaload, 1) := by decide +kernel
theorem dX2_allowsPride_42 : decode cX2_allowsPride 42 = .ok (.if_icmp .eq 5, 3) := by decide +kernel
theorem dX2_allowsPride_45 : decode cX2_allowsPride 45 = .ok (.iconst 0, 1) := by decide +kernel
theorem dX2_allowsPride_46 : decode cX2_allowsPride 46 = .ok (.ireturn, 1) := by decide +kernel
theorem dX2_allowsPride_47 : decode cX2_allowsPride 47 = .ok (.iinc 4 1, 3) := by decide +kernel
theorem dX2_allowsPride_50 : decode cX2_allowsPride 50 = .ok (.goto (-47), 3) := by decide +kernel
theorem dX2_allowsPride_53 : decode cX2_allowsPride 53 = .ok (.iconst 1, 1) := by decide +kernel
theorem dX2_allowsPride_54 : decode cX2_allowsPride 54 = .ok (.ireturn, 1) := by decide +kernel
end
section
theorem dX3_init_0 : decode cX3_init 0 = .ok (.aload_n 0, 1) := by decide +kernel
theorem dX3_init_1 : decode cX3_init 1 = .ok (.invokespecial 3, 3) := by decide +kernel
theorem dX3_init_4 : decode cX3_init 4 = .ok (.aload_n 0, 1) := by decide +kernel
theorem dX3_init_5 : decode cX3_init 5 = .ok (.iconst 4, 1) := by decide +kernel
theorem dX3_init_6 : decode cX3_init 6 = .ok (.newarray .int, 2) := by decide +kernel
theorem dX3_init_8 : decode cX3_init 8 = .ok (.putfield 9, 3) := by decide +kernel
theorem dX3_init_11 : decode cX3_init 11 = .ok (.aload_n 0, 1) := by decide +kernel
theorem dX3_init_12 : decode cX3_init 12 = .ok (.iconst 4, 1) := by decide +kernel
theorem dX3_init_13 : decode cX3_init 13 = .ok (.newarray .int, 2) := by decide +kernel
theorem dX3_init_15 : decode cX3_init 15 = .ok (.putfield 15, 3) := by decide +kernel
theorem dX3_init_18 : decode cX3_init 18 = .ok (.aload_n 0, 1) := by decide +kernel
theorem dX3_init_19 : decode cX3_init 19 = .ok (.iconst 4, 1) := by decide +kernel
theorem dX3_init_20 : decode cX3_init 20 = .ok (.newarray .int, 2) := by decide +kernel
theorem dX3_init_22 : decode cX3_init 22 = .ok (.putfield 18, 3) := by decide +kernel
theorem dX3_init_25 : decode cX3_init 25 = .ok (.aload_n 0, 1) := by decide +kernel
theorem dX3_init_26 : decode cX3_init 26 = .ok (.iconst 4, 1) := by decide +kernel
theorem dX3_init_27 : decode cX3_init 27 = .ok (.newarray .int, 2) := by decide +kernel
theorem dX3_init_29 : decode cX3_init 29 = .ok (.putfield 21, 3) := by decide +kernel
theorem dX3_init_32 : decode cX3_init 32 = .ok (.aload_n 0, 1) := by decide +kernel
theorem dX3_init_33 : decode cX3_init 33 = .ok (.iconst 4, 1) := by decide +kernel
theorem dX3_init_34 : decode cX3_init 34 = .ok (.newarray .int, 2) := by decide +kernel
theorem dX3_init_36 : decode cX3_init 36 = .ok (.putfield 24, 3) := by decide +kernel
theorem dX3_init_39 : decode cX3_init 39 = .ok (.aload_n 0, 1) := by decide +kernel
theorem dX3_init_40 : decode cX3_init 40 = .ok (.iconst 4, 1) := by decide +kernel
theorem dX3_init_41 : decode cX3_init 41 = .ok (.newarray .int, 2) := by decide +kernel
theorem dX3_init_43 : decode cX3_init 43 = .ok (.putfield 27, 3) := by decide +kernel
theorem dX3_init_46 : decode cX3_init 46 = .ok (.aload_n 0, 1) := by decide +kernel
theorem dX3_init_47 : decode cX3_init 47 = .ok (.new 30, 3) := by decide +kernel
theorem dX3_init_50 : decode cX3_init 50 = .ok (.dup, 1) := by decide +kernel
theorem dX3_init_51 : decode cX3_init 51 = .ok (.invokespecial 32, 3) := by decide +kernel
theorem dX3_init_54 : decode cX3_init 54 = .ok (.putfield 33, 3) := by decide +kernel
theorem dX3_init_57 : decode cX3_init 57 = .ok (.return_, 1) := by decide +kernel
theorem dX3_clear_0 : decode cX3_clear 0 = .ok (.aload_n 0, 1) := by decide +kernel
theorem dX3_clear_1 : decode cX3_clear 1 = .ok (.getfield 9, 3) := by decide +kernel
theorem dX3_clear_4 : decode cX3_clear 4 = .ok (.iconst 0, 1) := by decide +kernel
theorem dX3_clear_5 : decode cX3_clear 5 = .ok (.invokestatic 37, 3) := by decide +kernel
theorem dX3_clear_8 : decode cX3_clear 8 = .ok (.aload_n 0, 1) := by decide +kernel
theorem dX3_clear_9 : decode cX3_clear 9 = .ok (.getfield 15, 3) := by decide +kernel
theorem dX3_clear_12 : decode cX3_clear 12 = .ok (.iconst 0, 1) := by decide +kernel
theorem dX3_clear_13 : decode cX3_clear 13 = .ok (.invokestatic 37, 3) := by decide +kernel
theorem dX3_clear_16 : decode cX3_clear 16 = .ok (.aload_n 0, 1) := by decide +kernel
theorem dX3_clear_17 : decode cX3_clear 17 = .ok (.getfield 18, 3) := by decide +kernel
theorem dX3_clear_20 : decode cX3_clear 20 = .ok (.iconst 0, 1) := by decide +kernel
theorem dX3_clear_21 : decode cX3_clear 21 = .ok (.invokestatic 37, 3) := by decide +kernel
theorem dX3_clear_24 : decode cX3_clear 24 = .ok (.aload_n 0, 1) := by decide +kernel
theorem dX3_clear_25 : decode cX3_clear 25 = .ok (.getfield 21, 3) := by decide +kernel
theorem dX3_clear_28 : decode cX3_clear 28 = .ok (.iconst 0, 1) := by decide +kernel
theorem dX3_clear_29 : decode cX3_clear 29 = .ok (.invokestatic 37, 3) := by decide +kernel
theorem dX3_clear_32 : decode cX3_clear 32 = .ok (.aload_n 0, 1) := by decide +kernel
theorem dX3_clear_33 : decode cX3_clear 33 = .ok (.getfield 33, 3) := by decide +kernel
theorem dX3_clear_36 : decode cX3_clear 36 = .ok (.iconst 0, 1) := by decide +kernel
theorem dX3_clear_37 : decode cX3_clear 37 = .ok (.putfield 43, 3) := by decide +kernel
theorem dX3_clear_40 : decode cX3_clear 40 = .ok (.aload_n 0, 1) := by decide +kernel
theorem dX3_clear_41 : decode cX3_clear 41 = .ok (.iconst 0, 1) := by decide +kernel
theorem dX3_clear_42 : decode cX3_clear 42 = .ok (.putfield 47, 3) := by decide +kernel
theorem dX3_clear_45 : decode cX3_clear 45 = .ok (.aload_n 0, 1) := by decide +kernel
theorem dX3_clear_46 : decode cX3_clear 46 = .ok (.iconst 0, 1) := by decide +kernel
theorem dX3_clear_47 : decode cX3_clear 47 = .ok (.putfield 50, 3) := by decide +kernel
theorem dX3_clear_50 : decode cX3_clear 50 = .ok (.aload_n 0, 1) := by decide +kernel
theorem dX3_clear_51 : decode cX3_clear 51 = .ok (.iconst 0, 1) := by decide +kernel
theorem dX3_clear_52 : decode cX3_clear 52 = .ok (.putfield 53, 3) := by decide +kernel
theorem dX3_clear_55 : decode cX3_clear 55 = .ok (.aload_n 0, 1) := by decide +kernel
theorem dX3_clear_56 : decode cX3_clear 56 = .ok (.iconst 0, 1) := by decide +kernel
theorem dX3_clear_57 : decode cX3_clear 57 = .ok (.putfield 56, 3) := by decide +kernel
theorem dX3_clear_60 : decode cX3_clear 60 = .ok (.return_, 1) := by decide +kernel
theorem dX3_copyFrom_0 : decode cX3_copyFrom 0 = .ok (.aload_n 1, 1) := by decide +kernel
theorem dX3_copyFrom_1 : decode cX3_copyFrom 1 = .ok (.getfield 18, 3) := by decide +kernel
theorem dX3_copyFrom_4 : decode cX3_copyFrom 4 = .ok (.iconst 0, 1) := by decide +kernel
theorem dX3_copyFrom_5 : decode cX3_copyFrom 5 = .ok (.aload_n 0, 1) := by decide +kernel
theorem dX3_copyFrom_6 : decode cX3_copyFrom 6 = .ok (.getfield 18, 3) := by decide +kernel
theorem dX3_copyFrom_9 : decode cX3_copyFrom 9 = .ok (.iconst 0, 1) := by decide +kernel
theorem dX3_copyFrom_10 : decode cX3_copyFrom 10 = .ok (.iconst 4, 1) := by decide +kernel
theorem dX3_copyFrom_11 : decode cX3_copyFrom 11 = .ok (.invokestatic 59, 3) := by decide +kernel
theorem dX3_copyFrom_14 : decode cX3_copyFrom 14 = .ok (.aload_n 1, 1) := by decide +kernel
theorem dX3_copyFrom_15 : decode cX3_copyFrom 15 = .ok (.getfield 21, 3) := by decide +kernel
theorem dX3_copyFrom_18 : decode cX3_copyFrom 18 = .ok (.iconst 0, 1) := by decide +kernel
theorem dX3_copyFrom_19 : decode cX3_copyFrom 19 = .ok (.aload_n 0, 1) := by decide +kernel
theorem dX3_copyFrom_20 : decode cX3_copyFrom 20 = .ok (.getfield 21, 3) := by decide +kernel
theorem dX3_copyFrom_23 : decode cX3_copyFrom 23 = .ok (.iconst 0, 1) := by decide +kernel
theorem dX3_copyFrom_24 : decode cX3_copyFrom 24 = .ok (.iconst 4, 1) := by decide +kernel
theorem dX3_copyFrom_25 : decode cX3_copyFrom 25 = .ok (.invokestatic 59, 3) := by decide +kernel
theorem dX3_copyFrom_28 : decode cX3_copyFrom 28 = .ok (.aload_n 0, 1) := by decide +kernel
theorem dX3_copyFrom_29 : decode cX3_copyFrom 29 = .ok (.getfield 33, 3) := by decide +kernel
theorem dX3_copyFrom_32 : decode cX3_copyFrom 32 = .ok (.aload_n 1, 1) := by decide +kernel
theorem dX3_copyFrom_33 : decode cX3_copyFrom 33 = .ok (.getfield 33, 3) := by decide +kernel
theorem dX3_copyFrom_36 : decode cX3_copyFrom 36 = .ok (.invokevirtual 65, 3) := by decide +kernel
theorem dX3_copyFrom_39 : decode cX3_copyFrom 39 = .ok (.aload_n 0, 1) := by decide +kernel
theorem dX3_copyFrom_40 : decode cX3_copyFrom 40 = .ok (.aload_n 1, 1) := by decide +kernel
theorem dX3_copyFrom_41 : decode cX3_copyFrom 41 = .ok (.getfield 50, 3) := by decide +kernel
theorem dX3_copyFrom_44 : decode cX3_copyFrom 44 = .ok (.putfield 50, 3) := by decide +kernel
theorem dX3_copyFrom_47 : decode cX3_copyFrom 47 = .ok (.aload_n 0, 1) := by decide +kernel
theorem dX3_copyFrom_48 : decode cX3_copyFrom 48 = .ok (.aload_n 1, 1) := by decide +kernel
theorem dX3_copyFrom_49 : decode cX3_copyFrom 49 = .ok (.getfield 53, 3) := by decide +kernel
theorem dX3_copyFrom_52 : decode cX3_copyFrom 52 = .ok (.putfield 53, 3) := by decide +kernel
theorem dX3_copyFrom_55 : decode cX3_copyFrom 55 = .ok (.aload_n 0, 1) := by decide +kernel
theorem dX3_copyFrom_56 : decode cX3_copyFrom 56 = .ok (.aload_n 1, 1) := by decide +kernel
theorem dX3_copyFrom_57 : decode cX3_copyFrom 57 = .ok (.getfield 56, 3) := by decide +kernel
theorem dX3_copyFrom_60 : decode cX3_copyFrom 60 = .ok (.putfield 56, 3) := by decide +kernel
theorem dX3_copyFrom_63 : decode cX3_copyFrom 63 = .ok (.aload_n 0, 1) := by decide +kernel
theorem dX3_copyFrom_64 : decode cX3_copyFrom 64 = .ok (.aload_n 1, 1) := by decide +kernel
theorem dX3_copyFrom_65 : decode cX3_copyFrom 65 = .ok (.invokevirtual 69, 3) := by decide +kernel
theorem dX3_copyFrom_68 : decode cX3_copyFrom 68 = .ok (.return_, 1) := by decide +kernel
theorem dX3_copyForcesFrom_0 : decode cX3_copyForcesFrom 0 = .ok (.aload_n 1, 1) := by decide +kernel
theorem dX3_copyForcesFrom_1 : decode cX3_copyForcesFrom 1 = .ok (.getfield 9, 3) := by decide +kernel
theorem dX3_copyForcesFrom_4 : decode cX3_copyForcesFrom 4 = .ok (.iconst 0, 1) := by decide +kernel
theorem dX3_copyForcesFrom_5 : decode cX3_copyForcesFrom 5 = .ok (.aload_n 0, 1) := by decide +kernel
theorem dX3_copyForcesFrom_6 : decode cX3_copyForcesFrom 6 = .ok (.getfield 9, 3) := by decide +kernel
theorem dX3_copyForcesFrom_9 : decode cX3_copyForcesFrom 9 = .ok (.iconst 0, 1) := by decide +kernel
theorem dX3_copyForcesFrom_10 : decode cX3_copyForcesFrom 10 = .ok (.iconst 4, 1) := by decide +kernel
theorem dX3_copyForcesFrom_11 : decode cX3_copyForcesFrom 11 = .ok (.invokestatic 59, 3) := by decide +kernel
theorem dX3_copyForcesFrom_14 : decode cX3_copyForcesFrom 14 = .ok (.aload_n 1, 1) := by decide +kernel
theorem dX3_copyForcesFrom_15 : decode cX3_copyForcesFrom 15 = .ok (.getfield 15, 3) := by decide +kernel
theorem dX3_copyForcesFrom_18 : decode cX3_copyForcesFrom 18 = .ok (.iconst 0, 1) := by decide +kernel
theorem dX3_copyForcesFrom_19 : decode cX3_copyForcesFrom 19 = .ok (.aload_n 0, 1) := by decide +kernel
theorem dX3_copyForcesFrom_20 : decode cX3_copyForcesFrom 20 = .ok (.getfield 15, 3) := by decide +kernel
theorem dX3_copyForcesFrom_23 : decode cX3_copyForcesFrom 23 = .ok (.iconst 0, 1) := by decide +kernel
theorem dX3_copyForcesFrom_24 : decode cX3_copyForcesFrom 24 = .ok (.iconst 4, 1) := by decide +kernel
theorem dX3_copyForcesFrom_25 : decode cX3_copyForcesFrom 25 = .ok (.invokestatic 59, 3) := by decide +kernel
theorem dX3_copyForcesFrom_28 : decode cX3_copyForcesFrom 28 = .ok (.aload_n 1, 1) := by decide +kernel
theorem dX3_copyForcesFrom_29 : decode cX3_copyForcesFrom 29 = .ok (.getfield 24, 3) := by decide +kernel
theorem dX3_copyForcesFrom_32 : decode cX3_copyForcesFrom 32 = .ok (.iconst 0, 1) := by decide +kernel
theorem dX3_copyForcesFrom_33 : decode cX3_copyForcesFrom 33 = .ok (.aload_n 0, 1) := by decide +kernel
theorem dX3_copyForcesFrom_34 : decode cX3_copyForcesFrom 34 = .ok (.getfield 24, 3) := by decide +kernel
theorem dX3_copyForcesFrom_37 : decode cX3_copyForcesFrom 37 = .ok (.iconst 0, 1) := by decide +kernel
theorem dX3_copyForcesFrom_38 : decode cX3_copyForcesFrom 38 = .ok (.iconst 4, 1) := by decide +kernel
theorem dX3_copyForcesFrom_39 : decode cX3_copyForcesFrom 39 = .ok (.invokestatic 59, 3) := by decide +kernel
theorem dX3_copyForcesFrom_42 : decode cX3_copyForcesFrom 42 = .ok (.aload_n 1, 1) := by decide +kernel
theorem dX3_copyForcesFrom_43 : decode cX3_copyForcesFrom 43 = .ok (.getfield 27, 3) := by decide +kernel
theorem dX3_copyForcesFrom_46 : decode cX3_copyForcesFrom 46 = .ok (.iconst 0, 1) := by decide +kernel
theorem dX3_copyForcesFrom_47 : decode cX3_copyForcesFrom 47 = .ok (.aload_n 0, 1) := by decide +kernel
theorem dX3_copyForcesFrom_48 : decode cX3_copyForcesFrom 48 = .ok (.getfield 27, 3) := by decide +kernel
theorem dX3_copyForcesFrom_51 : decode cX3_copyForcesFrom 51 = .ok (.iconst 0, 1) := by decide +kernel
theorem dX3_copyForcesFrom_52 : decode cX3_copyForcesFrom 52 = .ok (.iconst 4, 1) := by decide +kernel
theorem dX3_copyForcesFrom_53 : decode cX3_copyForcesFrom 53 = .ok (.invokestatic 59, 3) := by decide +kernel
theorem dX3_copyForcesFrom_56 : decode cX3_copyForcesFrom 56 = .ok (.aload_n 0, 1) := by decide +kernel
theorem dX3_copyForcesFrom_57 : decode cX3_copyForcesFrom 57 = .ok (.aload_n 1, 1) := by decide +kernel
theorem dX3_copyForcesFrom_58 : decode cX3_copyForcesFrom 58 = .ok (.getfield 47, 3) := by decide +kernel
theorem dX3_copyForcesFrom_61 : decode cX3_copyForcesFrom 61 = .ok (.putfield 47, 3) := by decide +kernel
theorem dX3_copyForcesFrom_64 : decode cX3_copyForcesFrom 64 = .ok (.return_, 1) := by decide +kernel
theorem dX3_addDrop_0 : decode cX3_addDrop 0 = .ok (.aload_n 0, 1) := by decide +kernel
theorem dX3_addDrop_1 : decode cX3_addDrop 1 = .ok (.getfield 47, 3) := by decide +kernel
theorem dX3_addDrop_4 : decode cX3_addDrop 4 = .ok (.iconst 4, 1) := by decide +kernel
theorem dX3_addDrop_5 : decode cX3_addDrop 5 = .ok (.if_icmp .ge 33, 3) := by decide +kernel
theorem dX3_addDrop_8 : decode cX3_addDrop 8 = .ok (.aload_n 0, 1) := by decide +kernel
theorem dX3_addDrop_9 : decode cX3_addDrop 9 = .ok (.getfield 24, 3) := by decide +kernel
theorem dX3_addDrop_12 : decode cX3_addDrop 12 = .ok (.aload_n 0, 1) := by decide +kernel
theorem dX3_addDrop_13 : decode cX3_addDrop 13 = .ok (.getfield 47, 3) := by decide +kernel
theorem dX3_addDrop_16 : decode cX3_addDrop 16 = .ok (.iload_n 1, 1) := by decide +kernel
theorem dX3_addDrop_17 : decode cX3_addDrop 17 = .ok (.iastore, 1) := by decide +kernel
theorem dX3_addDrop_18 : decode cX3_addDrop 18 = .ok (.aload_n 0, 1) := by decide +kernel
theorem dX3_addDrop_19 : decode cX3_addDrop 19 = .ok (.getfield 27, 3) := by decide +kernel
theorem dX3_addDrop_22 : decode cX3_addDrop 22 = .ok (.aload_n 0, 1) := by decide +kernel
theorem dX3_addDrop_23 : decode cX3_addDrop 23 = .ok (.getfield 47, 3) := by decide +kernel
theorem dX3_addDrop_26 : decode cX3_addDrop 26 = .ok (.iload_n 2, 1) := by decide +kernel
theorem dX3_addDrop_27 : decode cX3_addDrop 27 = .ok (.iastore, 1) := by decide +kernel
theorem dX3_addDrop_28 : decode cX3_addDrop 28 = .ok (.aload_n 0, 1) := by decide +kernel
theorem dX3_addDrop_29 : decode cX3_addDrop 29 = .ok (.dup, 1) := by decide +kernel
theorem dX3_addDrop_30 : decode cX3_addDrop 30 = .ok (.getfield 47, 3) := by decide +kernel
theorem dX3_addDrop_33 : decode cX3_addDrop 33 = .ok (.iconst 1, 1) := by decide +kernel
theorem dX3_addDrop_34 : decode cX3_addDrop 34 = .ok (.iadd, 1) := by decide +kernel
theorem dX3_addDrop_35 : decode cX3_addDrop 35 = .ok (.putfield 47, 3) := by decide +kernel
theorem dX3_addDrop_38 : decode cX3_addDrop 38 = .ok (.return_, 1) := by decide +kernel
theorem dX3_isSet_0 : decode cX3_isSet 0 = .ok (.aload_n 0, 1) := by decide +kernel
theorem dX3_isSet_1 : decode cX3_isSet 1 = .ok (.getfield 50, 3) := by decide +kernel
theorem dX3_isSet_4 : decode cX3_isSet 4 = .ok (.iload_n 1, 1) := by decide +kernel
theorem dX3_isSet_5 : decode cX3_isSet 5 = .ok (.ishr, 1) := by decide +kernel
theorem dX3_isSet_6 : decode cX3_isSet 6 = .ok (.iconst 1, 1) := by decide +kernel
theorem dX3_isSet_7 : decode cX3_isSet 7 = .ok (.iand, 1) := by decide +kernel
theorem dX3_isSet_8 : decode cX3_isSet 8 = .ok (.ifCond .eq 7, 3) := by decide +kernel
theorem dX3_isSet_11 : decode cX3_isSet 11 = .ok (.iconst 1, 1) := by decide +kernel
theorem dX3_isSet_12 : decode cX3_isSet 12 = .ok (.goto 4, 3) := by decide +kernel
theorem dX3_isSet_15 : decode cX3_isSet 15 = .ok (.iconst 0, 1) := by decide +kernel
theorem dX3_isSet_16 : decode cX3_isSet 16 = .ok (.ireturn, 1) := by decide +kernel
theorem dX3_forceAt_0 : decode cX3_forceAt 0 = .ok (.iconst 0, 1) := by decide +kernel
theorem dX3_forceAt_1 : decode cX3_forceAt 1 = .ok (.istore_n 2, 1) := by decide +kernel
theorem dX3_forceAt_2 : decode cX3_forceAt 2 = .ok (.iconst 0, 1) := by decide +kernel
theorem dX3_forceAt_3 : decode cX3_forceAt 3 = .ok (.istore_n 3, 1) := by decide +kernel
theorem dX3_forceAt_4 : decode cX3_forceAt 4 = .ok (.iload_n 3, 1) := by decide +kernel
theorem dX3_forceAt_5 : decode cX3_forceAt 5 = .ok (.iconst 4, 1) := by decide +kernel
theorem dX3_forceAt_6 : decode cX3_forceAt 6 = .ok (.if_icmp .ge 37, 3) := by decide +kernel
theorem dX3_forceAt_9 : decode cX3_forceAt 9 = .ok (.aload_n 0, 1) := by decide +kernel
theorem dX3_forceAt_10 : decode cX3_forceAt 10 = .ok (.getfield 9, 3) := by decide +kernel
theorem dX3_forceAt_13 : decode cX3_forceAt 13 = .ok (.iload_n 3, 1) := by decide +kernel
theorem dX3_forceAt_14 : decode cX3_forceAt 14 = .ok (.iaload, 1) := by decide +kernel
theorem dX3_forceAt_15 : decode cX3_forceAt 15 = .ok (.ifCond .le 22, 3) := by decide +kernel
theorem dX3_forceAt_18 : decode cX3_forceAt 18 = .ok (.iload_n 2, 1) := by decide +kernel
theorem dX3_forceAt_19 : decode cX3_forceAt 19 = .ok (.aload_n 0, 1) := by decide +kernel
theorem dX3_forceAt_20 : decode cX3_forceAt 20 = .ok (.getfield 9, 3) := by decide +kernel
theorem dX3_forceAt_23 : decode cX3_forceAt 23 = .ok (.iload_n 3, 1) := by decide +kernel
theorem dX3_forceAt_24 : decode cX3_forceAt 24 = .ok (.iaload, 1) := by decide +kernel
theorem dX3_forceAt_25 : decode cX3_forceAt 25 = .ok (.aload_n 0, 1) := by decide +kernel
theorem dX3_forceAt_26 : decode cX3_forceAt 26 = .ok (.getfield 15, 3) := by decide +kernel
theorem dX3_forceAt_29 : decode cX3_forceAt 29 = .ok (.iload_n 3, 1) := by decide +kernel
theorem dX3_forceAt_30 : decode cX3_forceAt 30 = .ok (.iaload, 1) := by decide +kernel
theorem dX3_forceAt_31 : decode cX3_forceAt 31 = .ok (.iload_n 1, 1) := by decide +kernel
theorem dX3_forceAt_32 : decode cX3_forceAt 32 = .ok (.invokestatic 73, 3) := by decide +kernel
theorem dX3_forceAt_35 : decode cX3_forceAt 35 = .ok (.iadd, 1) := by decide +kernel
theorem dX3_forceAt_36 : decode cX3_forceAt 36 = .ok (.istore_n 2, 1) := by decide +kernel
theorem dX3_forceAt_37 : decode cX3_forceAt 37 = .ok (.iinc 3 1, 3) := by decide +kernel
theorem dX3_forceAt_40 : decode cX3_forceAt 40 = .ok (.goto (-36), 3) := by decide +kernel
theorem dX3_forceAt_43 : decode cX3_forceAt 43 = .ok (.iconst 0, 1) := by decide +kernel
theorem dX3_forceAt_44 : decode cX3_forceAt 44 = .ok (.istore_n 3, 1) := by decide +kernel
theorem dX3_forceAt_45 : decode cX3_forceAt 45 = .ok (.iload_n 3, 1) := by decide +kernel
theorem dX3_forceAt_46 : decode cX3_forceAt 46 = .ok (.aload_n 0, 1) := by decide +kernel
theorem dX3_forceAt_47 : decode cX3_forceAt 47 = .ok (.getfield 47, 3) := by decide +kernel
theorem dX3_forceAt_50 : decode cX3_forceAt 50 = .ok (.if_icmp .ge 28, 3) := by decide +kernel
theorem dX3_forceAt_53 : decode cX3_forceAt 53 = .ok (.iload_n 2, 1) := by decide +kernel
theorem dX3_forceAt_54 : decode cX3_forceAt 54 = .ok (.aload_n 0, 1) := by decide +kernel
theorem dX3_forceAt_55 : decode cX3_forceAt 55 = .ok (.getfield 24, 3) := by decide +kernel
theorem dX3_forceAt_58 : decode cX3_forceAt 58 = .ok (.iload_n 3, 1) := by decide +kernel
theorem dX3_forceAt_59 : decode cX3_forceAt 59 = .ok (.iaload, 1) := by decide +kernel
theorem dX3_forceAt_60 : decode cX3_forceAt 60 = .ok (.aload_n 0, 1) := by decide +kernel
theorem dX3_forceAt_61 : decode cX3_forceAt 61 = .ok (.getfield 27, 3) := by decide +kernel
theorem dX3_forceAt_64 : decode cX3_forceAt 64 = .ok (.iload_n 3, 1) := by decide +kernel
theorem dX3_forceAt_65 : decode cX3_forceAt 65 = .ok (.iaload, 1) := by decide +kernel
theorem dX3_forceAt_66 : decode cX3_forceAt 66 = .ok (.iload_n 1, 1) := by decide +kernel
theorem dX3_forceAt_67 : decode cX3_forceAt 67 = .ok (.invokestatic 73, 3) := by decide +kernel
theorem dX3_forceAt_70 : decode cX3_forceAt 70 = .ok (.iadd, 1) := by decide +kernel
theorem dX3_forceAt_71 : decode cX3_forceAt 71 = .ok (.istore_n 2, 1) := by decide +kernel
theorem dX3_forceAt_72 : decode cX3_forceAt 72 = .ok (.iinc 3 1, 3) := by decide +kernel
theorem dX3_forceAt_75 : decode cX3_forceAt 75 = .ok (.goto (-30), 3) := by decide +kernel
theorem dX3_forceAt_78 : decode cX3_forceAt 78 = .ok (.iload_n 2, 1) := by decide +kernel
theorem dX3_forceAt_79 : decode cX3_forceAt 79 = .ok (.ireturn, 1) := by decide +kernel
theorem dX3_reach_0 : decode cX3_reach 0 = .ok (.iload_n 0, 1) := by decide +kernel
theorem dX3_reach_1 : decode cX3_reach 1 = .ok (.iconst 2, 1) := by decide +kernel
theorem dX3_reach_2 : decode cX3_reach 2 = .ok (.iload_n 1, 1) := by decide +kernel
theorem dX3_reach_3 : decode cX3_reach 3 = .ok (.iload_n 2, 1) := by decide +kernel
theorem dX3_reach_4 : decode cX3_reach 4 = .ok (.if_icmp .ge 9, 3) := by decide +kernel
theorem dX3_reach_7 : decode cX3_reach 7 = .ok (.iload_n 2, 1) := by decide +kernel
theorem dX3_reach_8 : decode cX3_reach 8 = .ok (.iload_n 1, 1) := by decide +kernel
theorem dX3_reach_9 : decode cX3_reach 9 = .ok (.isub, 1) := by decide +kernel
theorem dX3_reach_10 : decode cX3_reach 10 = .ok (.goto 6, 3) := by decide +kernel
theorem dX3_reach_13 : decode cX3_reach 13 = .ok (.iload_n 1, 1) := by decide +kernel
theorem dX3_reach_14 : decode cX3_reach 14 = .ok (.iload_n 2, 1) := by decide +kernel
theorem dX3_reach_15 : decode cX3_reach 15 = .ok (.isub, 1) := by decide +kernel
theorem dX3_reach_16 : decode cX3_reach 16 = .ok (.imul, 1) := by decide +kernel
theorem dX3_reach_17 : decode cX3_reach 17 = .ok (.isub, 1) := by decide +kernel
theorem dX3_reach_18 : decode cX3_reach 18 = .ok (.istore_n 3, 1) := by decide +kernel
theorem dX3_reach_19 : decode cX3_reach 19 = .ok (.iload_n 3, 1) := by decide +kernel
theorem dX3_reach_20 : decode cX3_reach 20 = .ok (.ifCond .le 7, 3) := by decide +kernel
theorem dX3_reach_23 : decode cX3_reach 23 = .ok (.iload_n 3, 1) := by decide +kernel
theorem dX3_reach_24 : decode cX3_reach 24 = .ok (.goto 4, 3) := by decide +kernel
theorem dX3_reach_27 : decode cX3_reach 27 = .ok (.iconst 0, 1) := by decide +kernel
theorem dX3_reach_28 : decode cX3_reach 28 = .ok (.ireturn, 1) := by decide +kernel
theorem dX3_allGrudges_0 : decode cX3_allGrudges 0 = .ok (.aload_n 0, 1) := by decide +kernel
theorem dX3_allGrudges_1 : decode cX3_allGrudges 1 = .ok (.getfield 9, 3) := by decide +kernel
theorem dX3_allGrudges_4 : decode cX3_allGrudges 4 = .ok (.invokestatic 77, 3) := by decide +kernel
theorem dX3_allGrudges_7 : decode cX3_allGrudges 7 = .ok (.ireturn, 1) := by decide +kernel
theorem dX3_allSlights_0 : decode cX3_allSlights 0 = .ok (.aload_n 0, 1) := by decide +kernel
theorem dX3_allSlights_1 : decode cX3_allSlights 1 = .ok (.getfield 18, 3) := by decide +kernel
theorem dX3_allSlights_4 : decode cX3_allSlights 4 = .ok (.invokestatic 77, 3) := by decide +kernel
theorem dX3_allSlights_7 : decode cX3_allSlights 7 = .ok (.ireturn, 1) := by decide +kernel
theorem dX3_sumOf_0 : decode cX3_sumOf 0 = .ok (.iconst 0, 1) := by decide +kernel
theorem dX3_sumOf_1 : decode cX3_sumOf 1 = .ok (.istore_n 1, 1) := by decide +kernel
theorem dX3_sumOf_2 : decode cX3_sumOf 2 = .ok (.aload_n 0, 1) := by decide +kernel
theorem dX3_sumOf_3 : decode cX3_sumOf 3 = .ok (.astore_n 2, 1) := by decide +kernel
theorem dX3_sumOf_4 : decode cX3_sumOf 4 = .ok (.aload_n 2, 1) := by decide +kernel
theorem dX3_sumOf_5 : decode cX3_sumOf 5 = .ok (.arraylength, 1) := by decide +kernel
theorem dX3_sumOf_6 : decode cX3_sumOf 6 = .ok (.istore_n 3, 1) := by decide +kernel
theorem dX3_sumOf_7 : decode cX3_sumOf 7 = .ok (.iconst 0, 1) := by decide +kernel
theorem dX3_sumOf_8 : decode cX3_sumOf 8 = .ok (.istore 4, 2) := by decide +kernel
theorem dX3_sumOf_10 : decode cX3_sumOf 10 = .ok (.iload 4, 2) := by decide +kernel
theorem dX3_sumOf_12 : decode cX3_sumOf 12 = .ok (.iload_n 3, 1) := by decide +kernel
theorem dX3_sumOf_13 : decode cX3_sumOf 13 = .ok (.if_icmp .ge 20, 3) := by decide +kernel
theorem dX3_sumOf_16 : decode cX3_sumOf 16 = .ok (.aload_n 2, 1) := by decide +kernel
theorem dX3_sumOf_17 : decode cX3_sumOf 17 = .ok (.iload 4, 2) := by decide +kernel
theorem dX3_sumOf_19 : decode cX3_sumOf 19 = .ok (.iaload, 1) := by decide +kernel
theorem dX3_sumOf_20 : decode cX3_sumOf 20 = .ok (.istore 5, 2) := by decide +kernel
theorem dX3_sumOf_22 : decode cX3_sumOf 22 = .ok (.iload_n 1, 1) := by decide +kernel
theorem dX3_sumOf_23 : decode cX3_sumOf 23 = .ok (.iload 5, 2) := by decide +kernel
theorem dX3_sumOf_25 : decode cX3_sumOf 25 = .ok (.iadd, 1) := by decide +kernel
theorem dX3_sumOf_26 : decode cX3_sumOf 26 = .ok (.istore_n 1, 1) := by decide +kernel
theorem dX3_sumOf_27 : decode cX3_sumOf 27 = .ok (.iinc 4 1, 3) := by decide +kernel
theorem dX3_sumOf_30 : decode cX3_sumOf 30 = .ok (.goto (-20), 3) := by decide +kernel
theorem dX3_sumOf_33 : decode cX3_sumOf 33 = .ok (.iload_n 1, 1) := by decide +kernel
theorem dX3_sumOf_34 : decode cX3_sumOf 34 = .ok (.ireturn, 1) := by decide +kernel
theorem dX3_fullBottles_0 : decode cX3_fullBottles 0 = .ok (.iconst 0, 1) := by decide +kernel
theorem dX3_fullBottles_1 : decode cX3_fullBottles 1 = .ok (.istore_n 1, 1) := by decide +kernel
theorem dX3_fullBottles_2 : decode cX3_fullBottles 2 = .ok (.iconst 0, 1) := by decide +kernel
theorem dX3_fullBottles_3 : decode cX3_fullBottles 3 = .ok (.istore_n 2, 1) := by decide +kernel
theorem dX3_fullBottles_4 : decode cX3_fullBottles 4 = .ok (.iload_n 2, 1) := by decide +kernel
theorem dX3_fullBottles_5 : decode cX3_fullBottles 5 = .ok (.iconst 4, 1) := by decide +kernel
theorem dX3_fullBottles_6 : decode cX3_fullBottles 6 = .ok (.if_icmp .ge 24, 3) := by decide +kernel
theorem dX3_fullBottles_9 : decode cX3_fullBottles 9 = .ok (.aload_n 0, 1) := by decide +kernel
theorem dX3_fullBottles_10 : decode cX3_fullBottles 10 = .ok (.getfield 21, 3) := by decide +kernel
theorem dX3_fullBottles_13 : decode cX3_fullBottles 13 = .ok (.iload_n 2, 1) := by decide +kernel
theorem dX3_fullBottles_14 : decode cX3_fullBottles 14 = .ok (.iaload, 1) := by decide +kernel
theorem dX3_fullBottles_15 : decode cX3_fullBottles 15 = .ok (.ifCond .le 9, 3) := by decide +kernel
theorem dX3_fullBottles_18 : decode cX3_fullBottles 18 = .ok (.iload_n 1, 1) := by decide +kernel
theorem dX3_fullBottles_19 : decode cX3_fullBottles 19 = .ok (.iconst 1, 1) := by decide +kernel
theorem dX3_fullBottles_20 : decode cX3_fullBottles 20 = .ok (.iload_n 2, 1) := by decide +kernel
theorem dX3_fullBottles_21 : decode cX3_fullBottles 21 = .ok (.ishl, 1) := by decide +kernel
theorem dX3_fullBottles_22 : decode cX3_fullBottles 22 = .ok (.ior, 1) := by decide +kernel
theorem dX3_fullBottles_23 : decode cX3_fullBottles 23 = .ok (.istore_n 1, 1) := by decide +kernel
theorem dX3_fullBottles_24 : decode cX3_fullBottles 24 = .ok (.iinc 2 1, 3) := by decide +kernel
theorem dX3_fullBottles_27 : decode cX3_fullBottles 27 = .ok (.goto (-23), 3) := by decide +kernel
theorem dX3_fullBottles_30 : decode cX3_fullBottles 30 = .ok (.iload_n 1, 1) := by decide +kernel
theorem dX3_fullBottles_31 : decode cX3_fullBottles 31 = .ok (.ireturn, 1) := by decide +kernel
theorem dX3_bottlesWorth_0 : decode cX3_bottlesWorth 0 = .ok (.aload_n 0, 1) := by decide +kernel
theorem dX3_bottlesWorth_1 : decode cX3_bottlesWorth 1 = .ok (.invokevirtual 81, 3) := by decide +kernel
theorem dX3_bottlesWorth_4 : decode cX3_bottlesWorth 4 = .ok (.istore_n 2, 1) := by decide +kernel
theorem dX3_bottlesWorth_5 : decode cX3_bottlesWorth 5 = .ok (.iconst (-1), 1) := by decide +kernel
theorem dX3_bottlesWorth_6 : decode cX3_bottlesWorth 6 = .ok (.istore_n 3, 1) := by decide +kernel
theorem dX3_bottlesWorth_7 : decode cX3_bottlesWorth 7 = .ok (.iconst 0, 1) := by decide +kernel
theorem dX3_bottlesWorth_8 : decode cX3_bottlesWorth 8 = .ok (.istore 4, 2) := by decide +kernel
theorem dX3_bottlesWorth_10 : decode cX3_bottlesWorth 10 = .ok (.iconst 1, 1) := by decide +kernel
theorem dX3_bottlesWorth_11 : decode cX3_bottlesWorth 11 = .ok (.istore 5, 2) := by decide +kernel
theorem dX3_bottlesWorth_13 : decode cX3_bottlesWorth 13 = .ok (.iload 5, 2) := by decide +kernel
theorem dX3_bottlesWorth_15 : decode cX3_bottlesWorth 15 = .ok (.iload_n 2, 1) := by decide +kernel
theorem dX3_bottlesWorth_16 : decode cX3_bottlesWorth 16 = .ok (.if_icmp .gt 65, 3) := by decide +kernel
theorem dX3_bottlesWorth_19 : decode cX3_bottlesWorth 19 = .ok (.aload_n 0, 1) := by decide +kernel
theorem dX3_bottlesWorth_20 : decode cX3_bottlesWorth 20 = .ok (.iload 5, 2) := by decide +kernel
theorem dX3_bottlesWorth_22 : decode cX3_bottlesWorth 22 = .ok (.invokevirtual 85, 3) := by decide +kernel
theorem dX3_bottlesWorth_25 : decode cX3_bottlesWorth 25 = .ok (.istore 6, 2) := by decide +kernel
theorem dX3_bottlesWorth_27 : decode cX3_bottlesWorth 27 = .ok (.sipush 1000, 3) := by decide +kernel
theorem dX3_bottlesWorth_30 : decode cX3_bottlesWorth 30 = .ok (.iload 5, 2) := by decide +kernel
theorem dX3_bottlesWorth_32 : decode cX3_bottlesWorth 32 = .ok (.invokestatic 89, 3) := by decide +kernel
theorem dX3_bottlesWorth_35 : decode cX3_bottlesWorth 35 = .ok (.imul, 1) := by decide +kernel
theorem dX3_bottlesWorth_36 : decode cX3_bottlesWorth 36 = .ok (.iload 6, 2) := by decide +kernel
theorem dX3_bottlesWorth_38 : decode cX3_bottlesWorth 38 = .ok (.iadd, 1) := by decide +kernel
theorem dX3_bottlesWorth_39 : decode cX3_bottlesWorth 39 = .ok (.istore 7, 2) := by decide +kernel
theorem dX3_bottlesWorth_41 : decode cX3_bottlesWorth 41 = .ok (.iload 5, 2) := by decide +kernel
theorem dX3_bottlesWorth_43 : decode cX3_bottlesWorth 43 = .ok (.iload_n 2, 1) := by decide +kernel
theorem dX3_bottlesWorth_44 : decode cX3_bottlesWorth 44 = .ok (.iconst (-1), 1) := by decide +kernel
theorem dX3_bottlesWorth_45 : decode cX3_bottlesWorth 45 = .ok (.ixor, 1) := by decide +kernel
theorem dX3_bottlesWorth_46 : decode cX3_bottlesWorth 46 = .ok (.iand, 1) := by decide +kernel
theorem dX3_bottlesWorth_47 : decode cX3_bottlesWorth 47 = .ok (.ifCond .ne 28, 3) := by decide +kernel
theorem dX3_bottlesWorth_50 : decode cX3_bottlesWorth 50 = .ok (.iload 6, 2) := by decide +kernel
theorem dX3_bottlesWorth_52 : decode cX3_bottlesWorth 52 = .ok (.iload_n 1, 1) := by decide +kernel
theorem dX3_bottlesWorth_53 : decode cX3_bottlesWorth 53 = .ok (.if_icmp .lt 22, 3) := by decide +kernel
theorem dX3_bottlesWorth_56 : decode cX3_bottlesWorth 56 = .ok (.iload_n 3, 1) := by decide +kernel
theorem dX3_bottlesWorth_57 : decode cX3_bottlesWorth 57 = .ok (.iconst (-1), 1) := by decide +kernel
theorem dX3_bottlesWorth_58 : decode cX3_bottlesWorth 58 = .ok (.if_icmp .eq 10, 3) := by decide +kernel
theorem dX3_bottlesWorth_61 : decode cX3_bottlesWorth 61 = .ok (.iload 7, 2) := by decide +kernel
theorem dX3_bottlesWorth_63 : decode cX3_bottlesWorth 63 = .ok (.iload 4, 2) := by decide +kernel
theorem dX3_bottlesWorth_65 : decode cX3_bottlesWorth 65 = .ok (.if_icmp .ge 10, 3) := by decide +kernel
theorem dX3_bottlesWorth_68 : decode cX3_bottlesWorth 68 = .ok (.iload 5, 2) := by decide +kernel
theorem dX3_bottlesWorth_70 : decode cX3_bottlesWorth 70 = .ok (.istore_n 3, 1) := by decide +kernel
theorem dX3_bottlesWorth_71 : decode cX3_bottlesWorth 71 = .ok (.iload 7, 2) := by decide +kernel
theorem dX3_bottlesWorth_73 : decode cX3_bottlesWorth 73 = .ok (.istore 4, 2) := by decide +kernel
theorem dX3_bottlesWorth_75 : decode cX3_bottlesWorth 75 = .ok (.iinc 5 1, 3) := by decide +kernel
theorem dX3_bottlesWorth_78 : decode cX3_bottlesWorth 78 = .ok (.goto (-65), 3) := by decide +kernel
theorem dX3_bottlesWorth_81 : decode cX3_bottlesWorth 81 = .ok (.iload_n 3, 1) := by decide +kernel
theorem dX3_bottlesWorth_82 : decode cX3_bottlesWorth 82 = .ok (.ireturn, 1) := by decide +kernel
theorem dX3_heldIn_0 : decode cX3_heldIn 0 = .ok (.iconst 0, 1) := by decide +kernel
theorem dX3_heldIn_1 : decode cX3_heldIn 1 = .ok (.istore_n 2, 1) := by decide +kernel
theorem dX3_heldIn_2 : decode cX3_heldIn 2 = .ok (.iconst 0, 1) := by decide +kernel
theorem dX3_heldIn_3 : decode cX3_heldIn 3 = .ok (.istore_n 3, 1) := by decide +kernel
theorem dX3_heldIn_4 : decode cX3_heldIn 4 = .ok (.iload_n 3, 1) := by decide +kernel
theorem dX3_heldIn_5 : decode cX3_heldIn 5 = .ok (.iconst 4, 1) := by decide +kernel
theorem dX3_heldIn_6 : decode cX3_heldIn 6 = .ok (.if_icmp .ge 26, 3) := by decide +kernel
theorem dX3_heldIn_9 : decode cX3_heldIn 9 = .ok (.iload_n 1, 1) := by decide +kernel
theorem dX3_heldIn_10 : decode cX3_heldIn 10 = .ok (.iload_n 3, 1) := by decide +kernel
theorem dX3_heldIn_11 : decode cX3_heldIn 11 = .ok (.ishr, 1) := by decide +kernel
theorem dX3_heldIn_12 : decode cX3_heldIn 12 = .ok (.iconst 1, 1) := by decide +kernel
theorem dX3_heldIn_13 : decode cX3_heldIn 13 = .ok (.iand, 1) := by decide +kernel
theorem dX3_heldIn_14 : decode cX3_heldIn 14 = .ok (.ifCond .eq 12, 3) := by decide +kernel
theorem dX3_heldIn_17 : decode cX3_heldIn 17 = .ok (.iload_n 2, 1) := by decide +kernel
theorem dX3_heldIn_18 : decode cX3_heldIn 18 = .ok (.aload_n 0, 1) := by decide +kernel
theorem dX3_heldIn_19 : decode cX3_heldIn 19 = .ok (.getfield 21, 3) := by decide +kernel
theorem dX3_heldIn_22 : decode cX3_heldIn 22 = .ok (.iload_n 3, 1) := by decide +kernel
theorem dX3_heldIn_23 : decode cX3_heldIn 23 = .ok (.iaload, 1) := by decide +kernel
theorem dX3_heldIn_24 : decode cX3_heldIn 24 = .ok (.iadd, 1) := by decide +kernel
theorem dX3_heldIn_25 : decode cX3_heldIn 25 = .ok (.istore_n 2, 1) := by decide +kernel
theorem dX3_heldIn_26 : decode cX3_heldIn 26 = .ok (.iinc 3 1, 3) := by decide +kernel
theorem dX3_heldIn_29 : decode cX3_heldIn 29 = .ok (.goto (-25), 3) := by decide +kernel
theorem dX3_heldIn_32 : decode cX3_heldIn 32 = .ok (.iload_n 2, 1) := by decide +kernel
theorem dX3_heldIn_33 : decode cX3_heldIn 33 = .ok (.ireturn, 1) := by decide +kernel
end
section
theorem dX4_isOf_0 : decode cX4_isOf 0 = .ok (.iload_n 1, 1) := by decide +kernel
theorem dX4_isOf_1 : decode cX4_isOf 1 = .ok (.ifCond .eq 18, 3) := by decide +kernel
theorem dX4_isOf_4 : decode cX4_isOf 4 = .ok (.iload_n 0, 1) := by decide +kernel
theorem dX4_isOf_5 : decode cX4_isOf 5 = .ok (.iload_n 1, 1) := by decide +kernel
theorem dX4_isOf_6 : decode cX4_isOf 6 = .ok (.if_icmp .eq 13, 3) := by decide +kernel
theorem dX4_isOf_9 : decode cX4_isOf 9 = .ok (.iload_n 0, 1) := by decide +kernel
theorem dX4_isOf_10 : decode cX4_isOf 10 = .ok (.iconst 4, 1) := by decide +kernel
theorem dX4_isOf_11 : decode cX4_isOf 11 = .ok (.if_icmp .ne 12, 3) := by decide +kernel
theorem dX4_isOf_14 : decode cX4_isOf 14 = .ok (.iload_n 1, 1) := by decide +kernel
theorem dX4_isOf_15 : decode cX4_isOf 15 = .ok (.iconst 1, 1) := by decide +kernel
theorem dX4_isOf_16 : decode cX4_isOf 16 = .ok (.if_icmp .ne 7, 3) := by decide +kernel
theorem dX4_isOf_19 : decode cX4_isOf 19 = .ok (.iconst 1, 1) := by decide +kernel
theorem dX4_isOf_20 : decode cX4_isOf 20 = .ok (.goto 4, 3) := by decide +kernel
theorem dX4_isOf_23 : decode cX4_isOf 23 = .ok (.iconst 0, 1) := by decide +kernel
theorem dX4_isOf_24 : decode cX4_isOf 24 = .ok (.ireturn, 1) := by decide +kernel
theorem dX4_growthFromNone_0 : decode cX4_growthFromNone 0 = .ok (.iload_n 2, 1) := by decide +kernel
theorem dX4_growthFromNone_1 : decode cX4_growthFromNone 1 = .ok (.invokestatic 9, 3) := by decide +kernel
theorem dX4_growthFromNone_4 : decode cX4_growthFromNone 4 = .ok (.ifCond .ne 5, 3) := by decide +kernel
theorem dX4_growthFromNone_7 : decode cX4_growthFromNone 7 = .ok (.iconst 0, 1) := by decide +kernel
theorem dX4_growthFromNone_8 : decode cX4_growthFromNone 8 = .ok (.ireturn, 1) := by decide +kernel
theorem dX4_growthFromNone_9 : decode cX4_growthFromNone 9 = .ok (.iload_n 0, 1) := by decide +kernel
theorem dX4_growthFromNone_10 : decode cX4_growthFromNone 10 = .ok (.iconst 3, 1) := by decide +kernel
theorem dX4_growthFromNone_11 : decode cX4_growthFromNone 11 = .ok (.if_icmp .ne 13, 3) := by decide +kernel
theorem dX4_growthFromNone_14 : decode cX4_growthFromNone 14 = .ok (.iload_n 2, 1) := by decide +kernel
theorem dX4_growthFromNone_15 : decode cX4_growthFromNone 15 = .ok (.iconst 1, 1) := by decide +kernel
theorem dX4_growthFromNone_16 : decode cX4_growthFromNone 16 = .ok (.if_icmp .ne 8, 3) := by decide +kernel
theorem dX4_growthFromNone_19 : decode cX4_growthFromNone 19 = .ok (.bipush 12, 2) := by decide +kernel
theorem dX4_growthFromNone_21 : decode cX4_growthFromNone 21 = .ok (.goto 8, 3) := by decide +kernel
theorem dX4_growthFromNone_24 : decode cX4_growthFromNone 24 = .ok (.getstatic 13, 3) := by decide +kernel
theorem dX4_growthFromNone_27 : decode cX4_growthFromNone 27 = .ok (.iload_n 2, 1) := by decide +kernel
theorem dX4_growthFromNone_28 : decode cX4_growthFromNone 28 = .ok (.iaload, 1) := by decide +kernel
theorem dX4_growthFromNone_29 : decode cX4_growthFromNone 29 = .ok (.istore_n 3, 1) := by decide +kernel
theorem dX4_growthFromNone_30 : decode cX4_growthFromNone 30 = .ok (.iload_n 3, 1) := by decide +kernel
theorem dX4_growthFromNone_31 : decode cX4_growthFromNone 31 = .ok (.iload_n 1, 1) := by decide +kernel
theorem dX4_growthFromNone_32 : decode cX4_growthFromNone 32 = .ok (.imul, 1) := by decide +kernel
theorem dX4_growthFromNone_33 : decode cX4_growthFromNone 33 = .ok (.iconst 5, 1) := by decide +kernel
theorem dX4_growthFromNone_34 : decode cX4_growthFromNone 34 = .ok (.idiv, 1) := by decide +kernel
theorem dX4_growthFromNone_35 : decode cX4_growthFromNone 35 = .ok (.istore 4, 2) := by decide +kernel
theorem dX4_growthFromNone_37 : decode cX4_growthFromNone 37 = .ok (.iload_n 0, 1) := by decide +kernel
theorem dX4_growthFromNone_38 : decode cX4_growthFromNone 38 = .ok (.iconst 1, 1) := by decide +kernel
theorem dX4_growthFromNone_39 : decode cX4_growthFromNone 39 = .ok (.invokestatic 17, 3) := by decide +kernel
theorem dX4_growthFromNone_42 : decode cX4_growthFromNone 42 = .ok (.ifCond .eq 10, 3) := by decide +kernel
theorem dX4_growthFromNone_45 : decode cX4_growthFromNone 45 = .ok (.iload 4, 2) := by decide +kernel
theorem dX4_growthFromNone_47 : decode cX4_growthFromNone 47 = .ok (.iconst 2, 1) := by decide +kernel
theorem dX4_growthFromNone_48 : decode cX4_growthFromNone 48 = .ok (.idiv, 1) := by decide +kernel
theorem dX4_growthFromNone_49 : decode cX4_growthFromNone 49 = .ok (.goto 5, 3) := by decide +kernel
theorem dX4_growthFromNone_52 : decode cX4_growthFromNone 52 = .ok (.iload 4, 2) := by decide +kernel
theorem dX4_growthFromNone_54 : decode cX4_growthFromNone 54 = .ok (.ireturn, 1) := by decide +kernel
theorem dX4_overnight_0 : decode cX4_overnight 0 = .ok (.iload_n 0, 1) := by decide +kernel
theorem dX4_overnight_1 : decode cX4_overnight 1 = .ok (.iconst 2, 1) := by decide +kernel
theorem dX4_overnight_2 : decode cX4_overnight 2 = .ok (.if_icmp .ne 5, 3) := by decide +kernel
theorem dX4_overnight_5 : decode cX4_overnight 5 = .ok (.iload_n 1, 1) := by decide +kernel
theorem dX4_overnight_6 : decode cX4_overnight 6 = .ok (.ireturn, 1) := by decide +kernel
theorem dX4_overnight_7 : decode cX4_overnight 7 = .ok (.iload_n 0, 1) := by decide +kernel
theorem dX4_overnight_8 : decode cX4_overnight 8 = .ok (.iconst 4, 1) := by decide +kernel
theorem dX4_overnight_9 : decode cX4_overnight 9 = .ok (.if_icmp .ne 15, 3) := by decide +kernel
theorem dX4_overnight_12 : decode cX4_overnight 12 = .ok (.iload_n 1, 1) := by decide +kernel
theorem dX4_overnight_13 : decode cX4_overnight 13 = .ok (.ifCond .le 11, 3) := by decide +kernel
theorem dX4_overnight_16 : decode cX4_overnight 16 = .ok (.iload_n 1, 1) := by decide +kernel
theorem dX4_overnight_17 : decode cX4_overnight 17 = .ok (.iconst 2, 1) := by decide +kernel
theorem dX4_overnight_18 : decode cX4_overnight 18 = .ok (.idiv, 1) := by decide +kernel
theorem dX4_overnight_19 : decode cX4_overnight 19 = .ok (.iconst 1, 1) := by decide +kernel
theorem dX4_overnight_20 : decode cX4_overnight 20 = .ok (.iadd, 1) := by decide +kernel
theorem dX4_overnight_21 : decode cX4_overnight 21 = .ok (.goto 6, 3) := by decide +kernel
theorem dX4_overnight_24 : decode cX4_overnight 24 = .ok (.iload_n 1, 1) := by decide +kernel
theorem dX4_overnight_25 : decode cX4_overnight 25 = .ok (.iconst 2, 1) := by decide +kernel
theorem dX4_overnight_26 : decode cX4_overnight 26 = .ok (.idiv, 1) := by decide +kernel
theorem dX4_overnight_27 : decode cX4_overnight 27 = .ok (.ireturn, 1) := by decide +kernel
theorem dX4_bestTry_0 : decode cX4_bestTry 0 = .ok (.iconst (-1), 1) := by decide +kernel
theorem dX4_bestTry_1 : decode cX4_bestTry 1 = .ok (.istore_n 2, 1) := by decide +kernel
theorem dX4_bestTry_2 : decode cX4_bestTry 2 = .ok (.bipush 10, 2) := by decide +kernel
theorem dX4_bestTry_4 : decode cX4_bestTry 4 = .ok (.istore_n 3, 1) := by decide +kernel
theorem dX4_bestTry_5 : decode cX4_bestTry 5 = .ok (.iconst 0, 1) := by decide +kernel
theorem dX4_bestTry_6 : decode cX4_bestTry 6 = .ok (.istore 4, 2) := by decide +kernel
theorem dX4_bestTry_8 : decode cX4_bestTry 8 = .ok (.iload 4, 2) := by decide +kernel
theorem dX4_bestTry_10 : decode cX4_bestTry 10 = .ok (.iconst 3, 1) := by decide +kernel
theorem dX4_bestTry_11 : decode cX4_bestTry 11 = .ok (.if_icmp .ge 34, 3) := by decide +kernel
theorem dX4_bestTry_14 : decode cX4_bestTry 14 = .ok (.iload_n 1, 1) := by decide +kernel
theorem dX4_bestTry_15 : decode cX4_bestTry 15 = .ok (.ifCond .eq 30, 3) := by decide +kernel
theorem dX4_bestTry_18 : decode cX4_bestTry 18 = .ok (.iload_n 0, 1) := by decide +kernel
theorem dX4_bestTry_19 : decode cX4_bestTry 19 = .ok (.iload_n 1, 1) := by decide +kernel
theorem dX4_bestTry_20 : decode cX4_bestTry 20 = .ok (.iload 4, 2) := by decide +kernel
theorem dX4_bestTry_22 : decode cX4_bestTry 22 = .ok (.invokestatic 23, 3) := by decide +kernel
theorem dX4_bestTry_25 : decode cX4_bestTry 25 = .ok (.istore 5, 2) := by decide +kernel
theorem dX4_bestTry_27 : decode cX4_bestTry 27 = .ok (.iload 5, 2) := by decide +kernel
theorem dX4_bestTry_29 : decode cX4_bestTry 29 = .ok (.iload_n 3, 1) := by decide +kernel
theorem dX4_bestTry_30 : decode cX4_bestTry 30 = .ok (.if_icmp .ge 9, 3) := by decide +kernel
theorem dX4_bestTry_33 : decode cX4_bestTry 33 = .ok (.iload 5, 2) := by decide +kernel
theorem dX4_bestTry_35 : decode cX4_bestTry 35 = .ok (.istore_n 3, 1) := by decide +kernel
theorem dX4_bestTry_36 : decode cX4_bestTry 36 = .ok (.iload 4, 2) := by decide +kernel
theorem dX4_bestTry_38 : decode cX4_bestTry 38 = .ok (.istore_n 2, 1) := by decide +kernel
theorem dX4_bestTry_39 : decode cX4_bestTry 39 = .ok (.iinc 4 1, 3) := by decide +kernel
theorem dX4_bestTry_42 : decode cX4_bestTry 42 = .ok (.goto (-34), 3) := by decide +kernel
theorem dX4_bestTry_45 : decode cX4_bestTry 45 = .ok (.iload_n 2, 1) := by decide +kernel
theorem dX4_bestTry_46 : decode cX4_bestTry 46 = .ok (.ireturn, 1) := by decide +kernel
theorem dX4_mostLeft_0 : decode cX4_mostLeft 0 = .ok (.iconst 0, 1) := by decide +kernel
theorem dX4_mostLeft_1 : decode cX4_mostLeft 1 = .ok (.istore_n 3, 1) := by decide +kernel
theorem dX4_mostLeft_2 : decode cX4_mostLeft 2 = .ok (.iconst 1, 1) := by decide +kernel
theorem dX4_mostLeft_3 : decode cX4_mostLeft 3 = .ok (.istore 4, 2) := by decide +kernel
theorem dX4_mostLeft_5 : decode cX4_mostLeft 5 = .ok (.iload 4, 2) := by decide +kernel
theorem dX4_mostLeft_7 : decode cX4_mostLeft 7 = .ok (.bipush 9, 2) := by decide +kernel
theorem dX4_mostLeft_9 : decode cX4_mostLeft 9 = .ok (.if_icmp .gt 40, 3) := by decide +kernel
theorem dX4_mostLeft_12 : decode cX4_mostLeft 12 = .ok (.iload_n 1, 1) := by decide +kernel
theorem dX4_mostLeft_13 : decode cX4_mostLeft 13 = .ok (.iload 4, 2) := by decide +kernel
theorem dX4_mostLeft_15 : decode cX4_mostLeft 15 = .ok (.invokestatic 27, 3) := by decide +kernel
theorem dX4_mostLeft_18 : decode cX4_mostLeft 18 = .ok (.ifCond .eq 25, 3) := by decide +kernel
theorem dX4_mostLeft_21 : decode cX4_mostLeft 21 = .ok (.iload_n 0, 1) := by decide +kernel
theorem dX4_mostLeft_22 : decode cX4_mostLeft 22 = .ok (.iload 4, 2) := by decide +kernel
theorem dX4_mostLeft_24 : decode cX4_mostLeft 24 = .ok (.iload_n 2, 1) := by decide +kernel
theorem dX4_mostLeft_25 : decode cX4_mostLeft 25 = .ok (.invokestatic 30, 3) := by decide +kernel
theorem dX4_mostLeft_28 : decode cX4_mostLeft 28 = .ok (.istore 5, 2) := by decide +kernel
theorem dX4_mostLeft_30 : decode cX4_mostLeft 30 = .ok (.iload_n 3, 1) := by decide +kernel
theorem dX4_mostLeft_31 : decode cX4_mostLeft 31 = .ok (.iload_n 0, 1) := by decide +kernel
theorem dX4_mostLeft_32 : decode cX4_mostLeft 32 = .ok (.iload_n 1, 1) := by decide +kernel
theorem dX4_mostLeft_33 : decode cX4_mostLeft 33 = .ok (.iload_n 2, 1) := by decide +kernel
theorem dX4_mostLeft_34 : decode cX4_mostLeft 34 = .ok (.iload 5, 2) := by decide +kernel
theorem dX4_mostLeft_36 : decode cX4_mostLeft 36 = .ok (.invokestatic 33, 3) := by decide +kernel
theorem dX4_mostLeft_39 : decode cX4_mostLeft 39 = .ok (.invokestatic 37, 3) := by decide +kernel
theorem dX4_mostLeft_42 : decode cX4_mostLeft 42 = .ok (.istore_n 3, 1) := by decide +kernel
theorem dX4_mostLeft_43 : decode cX4_mostLeft 43 = .ok (.iinc 4 1, 3) := by decide +kernel
theorem dX4_mostLeft_46 : decode cX4_mostLeft 46 = .ok (.goto (-41), 3) := by decide +kernel
theorem dX4_mostLeft_49 : decode cX4_mostLeft 49 = .ok (.iload_n 3, 1) := by decide +kernel
theorem dX4_mostLeft_50 : decode cX4_mostLeft 50 = .ok (.ireturn, 1) := by decide +kernel
theorem dX4_likeOnes_0 : decode cX4_likeOnes 0 = .ok (.iconst 0, 1) := by decide +kernel
theorem dX4_likeOnes_1 : decode cX4_likeOnes 1 = .ok (.istore 4, 2) := by decide +kernel
theorem dX4_likeOnes_3 : decode cX4_likeOnes 3 = .ok (.iconst 1, 1) := by decide +kernel
theorem dX4_likeOnes_4 : decode cX4_likeOnes 4 = .ok (.istore 5, 2) := by decide +kernel
theorem dX4_likeOnes_6 : decode cX4_likeOnes 6 = .ok (.iload 5, 2) := by decide +kernel
theorem dX4_likeOnes_8 : decode cX4_likeOnes 8 = .ok (.bipush 9, 2) := by decide +kernel
theorem dX4_likeOnes_10 : decode cX4_likeOnes 10 = .ok (.if_icmp .gt 32, 3) := by decide +kernel
theorem dX4_likeOnes_13 : decode cX4_likeOnes 13 = .ok (.iload_n 1, 1) := by decide +kernel
theorem dX4_likeOnes_14 : decode cX4_likeOnes 14 = .ok (.iload 5, 2) := by decide +kernel
theorem dX4_likeOnes_16 : decode cX4_likeOnes 16 = .ok (.invokestatic 27, 3) := by decide +kernel
theorem dX4_likeOnes_19 : decode cX4_likeOnes 19 = .ok (.ifCond .eq 17, 3) := by decide +kernel
theorem dX4_likeOnes_22 : decode cX4_likeOnes 22 = .ok (.iload_n 0, 1) := by decide +kernel
theorem dX4_likeOnes_23 : decode cX4_likeOnes 23 = .ok (.iload 5, 2) := by decide +kernel
theorem dX4_likeOnes_25 : decode cX4_likeOnes 25 = .ok (.iload_n 2, 1) := by decide +kernel
theorem dX4_likeOnes_26 : decode cX4_likeOnes 26 = .ok (.invokestatic 30, 3) := by decide +kernel
theorem dX4_likeOnes_29 : decode cX4_likeOnes 29 = .ok (.iload_n 3, 1) := by decide +kernel
theorem dX4_likeOnes_30 : decode cX4_likeOnes 30 = .ok (.if_icmp .ne 6, 3) := by decide +kernel
theorem dX4_likeOnes_33 : decode cX4_likeOnes 33 = .ok (.iinc 4 1, 3) := by decide +kernel
theorem dX4_likeOnes_36 : decode cX4_likeOnes 36 = .ok (.iinc 5 1, 3) := by decide +kernel
theorem dX4_likeOnes_39 : decode cX4_likeOnes 39 = .ok (.goto (-33), 3) := by decide +kernel
theorem dX4_likeOnes_42 : decode cX4_likeOnes 42 = .ok (.iload 4, 2) := by decide +kernel
theorem dX4_likeOnes_44 : decode cX4_likeOnes 44 = .ok (.ireturn, 1) := by decide +kernel
theorem dX4_hasPride_0 : decode cX4_hasPride 0 = .ok (.iload_n 0, 1) := by decide +kernel
theorem dX4_hasPride_1 : decode cX4_hasPride 1 = .ok (.iload_n 1, 1) := by decide +kernel
theorem dX4_hasPride_2 : decode cX4_hasPride 2 = .ok (.iconst 1, 1) := by decide +kernel
theorem dX4_hasPride_3 : decode cX4_hasPride 3 = .ok (.isub, 1) := by decide +kernel
theorem dX4_hasPride_4 : decode cX4_hasPride 4 = .ok (.ishr, 1) := by decide +kernel
theorem dX4_hasPride_5 : decode cX4_hasPride 5 = .ok (.iconst 1, 1) := by decide +kernel
theorem dX4_hasPride_6 : decode cX4_hasPride 6 = .ok (.iand, 1) := by decide +kernel
theorem dX4_hasPride_7 : decode cX4_hasPride 7 = .ok (.ifCond .eq 7, 3) := by decide +kernel
theorem dX4_hasPride_10 : decode cX4_hasPride 10 = .ok (.iconst 1, 1) := by decide +kernel
theorem dX4_hasPride_11 : decode cX4_hasPride 11 = .ok (.goto 4, 3) := by decide +kernel
theorem dX4_hasPride_14 : decode cX4_hasPride 14 = .ok (.iconst 0, 1) := by decide +kernel
theorem dX4_hasPride_15 : decode cX4_hasPride 15 = .ok (.ireturn, 1) := by decide +kernel
end
section
theorem dX5_init_0 : decode cX5_init 0 = .ok (.aload_n 0, 1) := by decide +kernel
theorem dX5_init_1 : decode cX5_init 1 = .ok (.invokespecial 3, 3) := by decide +kernel
theorem dX5_init_4 : decode cX5_init 4 = .ok (.aload_n 0, 1) := by decide +kernel
theorem dX5_init_5 : decode cX5_init 5 = .ok (.iconst 4, 1) := by decide +kernel
theorem dX5_init_6 : decode cX5_init 6 = .ok (.newarray .int, 2) := by decide +kernel
theorem dX5_init_8 : decode cX5_init 8 = .ok (.putfield 9, 3) := by decide +kernel
theorem dX5_init_11 : decode cX5_init 11 = .ok (.aload_n 0, 1) := by decide +kernel
theorem dX5_init_12 : decode cX5_init 12 = .ok (.iconst 4, 1) := by decide +kernel
theorem dX5_init_13 : decode cX5_init 13 = .ok (.newarray .int, 2) := by decide +kernel
theorem dX5_init_15 : decode cX5_init 15 = .ok (.putfield 15, 3) := by decide +kernel
theorem dX5_init_18 : decode cX5_init 18 = .ok (.aload_n 0, 1) := by decide +kernel
theorem dX5_init_19 : decode cX5_init 19 = .ok (.bipush 12, 2) := by decide +kernel
theorem dX5_init_21 : decode cX5_init 21 = .ok (.newarray .int, 2) := by decide +kernel
theorem dX5_init_23 : decode cX5_init 23 = .ok (.putfield 18, 3) := by decide +kernel
theorem dX5_init_26 : decode cX5_init 26 = .ok (.aload_n 0, 1) := by decide +kernel
theorem dX5_init_27 : decode cX5_init 27 = .ok (.bipush 6, 2) := by decide +kernel
theorem dX5_init_29 : decode cX5_init 29 = .ok (.newarray .int, 2) := by decide +kernel
theorem dX5_init_31 : decode cX5_init 31 = .ok (.putfield 21, 3) := by decide +kernel
theorem dX5_init_34 : decode cX5_init 34 = .ok (.return_, 1) := by decide +kernel
theorem dX5_read_0 : decode cX5_read 0 = .ok (.aload_n 1, 1) := by decide +kernel
theorem dX5_read_1 : decode cX5_read 1 = .ok (.invokevirtual 24, 3) := by decide +kernel
theorem dX5_read_4 : decode cX5_read 4 = .ok (.istore_n 3, 1) := by decide +kernel
theorem dX5_read_5 : decode cX5_read 5 = .ok (.aload_n 0, 1) := by decide +kernel
theorem dX5_read_6 : decode cX5_read 6 = .ok (.iconst 4, 1) := by decide +kernel
theorem dX5_read_7 : decode cX5_read 7 = .ok (.iload_n 3, 1) := by decide +kernel
theorem dX5_read_8 : decode cX5_read 8 = .ok (.iconst 1, 1) := by decide +kernel
theorem dX5_read_9 : decode cX5_read 9 = .ok (.iadd, 1) := by decide +kernel
theorem dX5_read_10 : decode cX5_read 10 = .ok (.iconst 4, 1) := by decide +kernel
theorem dX5_read_11 : decode cX5_read 11 = .ok (.idiv, 1) := by decide +kernel
theorem dX5_read_12 : decode cX5_read 12 = .ok (.invokestatic 30, 3) := by decide +kernel
theorem dX5_read_15 : decode cX5_read 15 = .ok (.putfield 36, 3) := by decide +kernel
theorem dX5_read_18 : decode cX5_read 18 = .ok (.iconst 0, 1) := by decide +kernel
theorem dX5_read_19 : decode cX5_read 19 = .ok (.istore 4, 2) := by decide +kernel
theorem dX5_read_21 : decode cX5_read 21 = .ok (.iload 4, 2) := by decide +kernel
theorem dX5_read_23 : decode cX5_read 23 = .ok (.aload_n 0, 1) := by decide +kernel
theorem dX5_read_24 : decode cX5_read 24 = .ok (.getfield 36, 3) := by decide +kernel
theorem dX5_read_27 : decode cX5_read 27 = .ok (.if_icmp .ge 110, 3) := by decide +kernel
theorem dX5_read_30 : decode cX5_read 30 = .ok (.iload 4, 2) := by decide +kernel
theorem dX5_read_32 : decode cX5_read 32 = .ok (.iconst 4, 1) := by decide +kernel
theorem dX5_read_33 : decode cX5_read 33 = .ok (.imul, 1) := by decide +kernel
theorem dX5_read_34 : decode cX5_read 34 = .ok (.istore 5, 2) := by decide +kernel
theorem dX5_read_36 : decode cX5_read 36 = .ok (.aload_n 0, 1) := by decide +kernel
theorem dX5_read_37 : decode cX5_read 37 = .ok (.getfield 9, 3) := by decide +kernel
theorem dX5_read_40 : decode cX5_read 40 = .ok (.iload 4, 2) := by decide +kernel
theorem dX5_read_42 : decode cX5_read 42 = .ok (.ldc 40, 2) := by decide +kernel
theorem dX5_read_44 : decode cX5_read 44 = .ok (.aload_n 1, 1) := by decide +kernel
theorem dX5_read_45 : decode cX5_read 45 = .ok (.iload 5, 2) := by decide +kernel
theorem dX5_read_47 : decode cX5_read 47 = .ok (.invokevirtual 42, 3) := by decide +kernel
theorem dX5_read_50 : decode cX5_read 50 = .ok (.i2c, 1) := by decide +kernel
theorem dX5_read_51 : decode cX5_read 51 = .ok (.invokevirtual 46, 3) := by decide +kernel
theorem dX5_read_54 : decode cX5_read 54 = .ok (.iastore, 1) := by decide +kernel
theorem dX5_read_55 : decode cX5_read 55 = .ok (.aload_n 0, 1) := by decide +kernel
theorem dX5_read_56 : decode cX5_read 56 = .ok (.getfield 15, 3) := by decide +kernel
theorem dX5_read_59 : decode cX5_read 59 = .ok (.iload 4, 2) := by decide +kernel
theorem dX5_read_61 : decode cX5_read 61 = .ok (.aload_n 1, 1) := by decide +kernel
theorem dX5_read_62 : decode cX5_read 62 = .ok (.iload 5, 2) := by decide +kernel
theorem dX5_read_64 : decode cX5_read 64 = .ok (.iconst 1, 1) := by decide +kernel
theorem dX5_read_65 : decode cX5_read 65 = .ok (.iadd, 1) := by decide +kernel
theorem dX5_read_66 : decode cX5_read 66 = .ok (.invokevirtual 51, 3) := by decide +kernel
theorem dX5_read_69 : decode cX5_read 69 = .ok (.iastore, 1) := by decide +kernel
theorem dX5_read_70 : decode cX5_read 70 = .ok (.aload_n 2, 1) := by decide +kernel
theorem dX5_read_71 : decode cX5_read 71 = .ok (.getfield 54, 3) := by decide +kernel
theorem dX5_read_74 : decode cX5_read 74 = .ok (.iload 4, 2) := by decide +kernel
theorem dX5_read_76 : decode cX5_read 76 = .ok (.aload_n 1, 1) := by decide +kernel
theorem dX5_read_77 : decode cX5_read 77 = .ok (.iload 5, 2) := by decide +kernel
theorem dX5_read_79 : decode cX5_read 79 = .ok (.iconst 2, 1) := by decide +kernel
theorem dX5_read_80 : decode cX5_read 80 = .ok (.iadd, 1) := by decide +kernel
theorem dX5_read_81 : decode cX5_read 81 = .ok (.invokevirtual 51, 3) := by decide +kernel
theorem dX5_read_84 : decode cX5_read 84 = .ok (.iastore, 1) := by decide +kernel
theorem dX5_read_85 : decode cX5_read 85 = .ok (.iconst 0, 1) := by decide +kernel
theorem dX5_read_86 : decode cX5_read 86 = .ok (.istore 6, 2) := by decide +kernel
theorem dX5_read_88 : decode cX5_read 88 = .ok (.iload 6, 2) := by decide +kernel
theorem dX5_read_90 : decode cX5_read 90 = .ok (.iconst 3, 1) := by decide +kernel
theorem dX5_read_91 : decode cX5_read 91 = .ok (.if_icmp .ge 40, 3) := by decide +kernel
theorem dX5_read_94 : decode cX5_read 94 = .ok (.aload_n 0, 1) := by decide +kernel
theorem dX5_read_95 : decode cX5_read 95 = .ok (.getfield 18, 3) := by decide +kernel
theorem dX5_read_98 : decode cX5_read 98 = .ok (.iload 4, 2) := by decide +kernel
theorem dX5_read_100 : decode cX5_read 100 = .ok (.iconst 3, 1) := by decide +kernel
theorem dX5_read_101 : decode cX5_read 101 = .ok (.imul, 1) := by decide +kernel
theorem dX5_read_102 : decode cX5_read 102 = .ok (.iload 6, 2) := by decide +kernel
theorem dX5_read_104 : decode cX5_read 104 = .ok (.iadd, 1) := by decide +kernel
theorem dX5_read_105 : decode cX5_read 105 = .ok (.aload_n 0, 1) := by decide +kernel
theorem dX5_read_106 : decode cX5_read 106 = .ok (.getfield 9, 3) := by decide +kernel
theorem dX5_read_109 : decode cX5_read 109 = .ok (.iload 4, 2) := by decide +kernel
theorem dX5_read_111 : decode cX5_read 111 = .ok (.iaload, 1) := by decide +kernel
theorem dX5_read_112 : decode cX5_read 112 = .ok (.aload_n 0, 1) := by decide +kernel
theorem dX5_read_113 : decode cX5_read 113 = .ok (.getfield 15, 3) := by decide +kernel
theorem dX5_read_116 : decode cX5_read 116 = .ok (.iload 4, 2) := by decide +kernel
theorem dX5_read_118 : decode cX5_read 118 = .ok (.iaload, 1) := by decide +kernel
theorem dX5_read_119 : decode cX5_read 119 = .ok (.iload 6, 2) := by decide +kernel
theorem dX5_read_121 : decode cX5_read 121 = .ok (.invokestatic 59, 3) := by decide +kernel
theorem dX5_read_124 : decode cX5_read 124 = .ok (.iastore, 1) := by decide +kernel
theorem dX5_read_125 : decode cX5_read 125 = .ok (.iinc 6 1, 3) := by decide +kernel
theorem dX5_read_128 : decode cX5_read 128 = .ok (.goto (-40), 3) := by decide +kernel
theorem dX5_read_131 : decode cX5_read 131 = .ok (.iinc 4 1, 3) := by decide +kernel
theorem dX5_read_134 : decode cX5_read 134 = .ok (.goto (-113), 3) := by decide +kernel
theorem dX5_read_137 : decode cX5_read 137 = .ok (.aload_n 0, 1) := by decide +kernel
theorem dX5_read_138 : decode cX5_read 138 = .ok (.bipush 6, 2) := by decide +kernel
theorem dX5_read_140 : decode cX5_read 140 = .ok (.aload_n 1, 1) := by decide +kernel
theorem dX5_read_141 : decode cX5_read 141 = .ok (.getfield 65, 3) := by decide +kernel
theorem dX5_read_144 : decode cX5_read 144 = .ok (.iload_n 3, 1) := by decide +kernel
theorem dX5_read_145 : decode cX5_read 145 = .ok (.isub, 1) := by decide +kernel
theorem dX5_read_146 : decode cX5_read 146 = .ok (.iconst 1, 1) := by decide +kernel
theorem dX5_read_147 : decode cX5_read 147 = .ok (.isub, 1) := by decide +kernel
theorem dX5_read_148 : decode cX5_read 148 = .ok (.invokestatic 30, 3) := by decide +kernel
theorem dX5_read_151 : decode cX5_read 151 = .ok (.putfield 68, 3) := by decide +kernel
theorem dX5_read_154 : decode cX5_read 154 = .ok (.iconst 0, 1) := by decide +kernel
theorem dX5_read_155 : decode cX5_read 155 = .ok (.istore 4, 2) := by decide +kernel
theorem dX5_read_157 : decode cX5_read 157 = .ok (.iload 4, 2) := by decide +kernel
theorem dX5_read_159 : decode cX5_read 159 = .ok (.aload_n 0, 1) := by decide +kernel
theorem dX5_read_160 : decode cX5_read 160 = .ok (.getfield 68, 3) := by decide +kernel
theorem dX5_read_163 : decode cX5_read 163 = .ok (.if_icmp .ge 26, 3) := by decide +kernel
theorem dX5_read_166 : decode cX5_read 166 = .ok (.aload_n 0, 1) := by decide +kernel
theorem dX5_read_167 : decode cX5_read 167 = .ok (.getfield 21, 3) := by decide +kernel
theorem dX5_read_170 : decode cX5_read 170 = .ok (.iload 4, 2) := by decide +kernel
theorem dX5_read_172 : decode cX5_read 172 = .ok (.aload_n 1, 1) := by decide +kernel
theorem dX5_read_173 : decode cX5_read 173 = .ok (.iload_n 3, 1) := by decide +kernel
theorem dX5_read_174 : decode cX5_read 174 = .ok (.iconst 1, 1) := by decide +kernel
theorem dX5_read_175 : decode cX5_read 175 = .ok (.iadd, 1) := by decide +kernel
theorem dX5_read_176 : decode cX5_read 176 = .ok (.iload 4, 2) := by decide +kernel
theorem dX5_read_178 : decode cX5_read 178 = .ok (.iadd, 1) := by decide +kernel
theorem dX5_read_179 : decode cX5_read 179 = .ok (.invokevirtual 51, 3) := by decide +kernel
theorem dX5_read_182 : decode cX5_read 182 = .ok (.iastore, 1) := by decide +kernel
theorem dX5_read_183 : decode cX5_read 183 = .ok (.iinc 4 1, 3) := by decide +kernel
theorem dX5_read_186 : decode cX5_read 186 = .ok (.goto (-29), 3) := by decide +kernel
theorem dX5_read_189 : decode cX5_read 189 = .ok (.return_, 1) := by decide +kernel
theorem dX5_isThere_0 : decode cX5_isThere 0 = .ok (.aload_n 0, 1) := by decide +kernel
theorem dX5_isThere_1 : decode cX5_isThere 1 = .ok (.getfield 36, 3) := by decide +kernel
theorem dX5_isThere_4 : decode cX5_isThere 4 = .ok (.ifCond .le 7, 3) := by decide +kernel
theorem dX5_isThere_7 : decode cX5_isThere 7 = .ok (.iconst 1, 1) := by decide +kernel
theorem dX5_isThere_8 : decode cX5_isThere 8 = .ok (.goto 4, 3) := by decide +kernel
theorem dX5_isThere_11 : decode cX5_isThere 11 = .ok (.iconst 0, 1) := by decide +kernel
theorem dX5_isThere_12 : decode cX5_isThere 12 = .ok (.ireturn, 1) := by decide +kernel
theorem dX5_hasPerson_0 : decode cX5_hasPerson 0 = .ok (.iload_n 1, 1) := by decide +kernel
theorem dX5_hasPerson_1 : decode cX5_hasPerson 1 = .ok (.ifCond .lt 15, 3) := by decide +kernel
theorem dX5_hasPerson_4 : decode cX5_hasPerson 4 = .ok (.iload_n 1, 1) := by decide +kernel
theorem dX5_hasPerson_5 : decode cX5_hasPerson 5 = .ok (.aload_n 0, 1) := by decide +kernel
theorem dX5_hasPerson_6 : decode cX5_hasPerson 6 = .ok (.getfield 36, 3) := by decide +kernel
theorem dX5_hasPerson_9 : decode cX5_hasPerson 9 = .ok (.if_icmp .ge 7, 3) := by decide +kernel
theorem dX5_hasPerson_12 : decode cX5_hasPerson 12 = .ok (.iconst 1, 1) := by decide +kernel
theorem dX5_hasPerson_13 : decode cX5_hasPerson 13 = .ok (.goto 4, 3) := by decide +kernel
theorem dX5_hasPerson_16 : decode cX5_hasPerson 16 = .ok (.iconst 0, 1) := by decide +kernel
theorem dX5_hasPerson_17 : decode cX5_hasPerson 17 = .ok (.ireturn, 1) := by decide +kernel
theorem dX5_hasPail_0 : decode cX5_hasPail 0 = .ok (.iload_n 1, 1) := by decide +kernel
theorem dX5_hasPail_1 : decode cX5_hasPail 1 = .ok (.ifCond .lt 15, 3) := by decide +kernel
theorem dX5_hasPail_4 : decode cX5_hasPail 4 = .ok (.iload_n 1, 1) := by decide +kernel
theorem dX5_hasPail_5 : decode cX5_hasPail 5 = .ok (.aload_n 0, 1) := by decide +kernel
theorem dX5_hasPail_6 : decode cX5_hasPail 6 = .ok (.getfield 68, 3) := by decide +kernel
theorem dX5_hasPail_9 : decode cX5_hasPail 9 = .ok (.if_icmp .ge 7, 3) := by decide +kernel
theorem dX5_hasPail_12 : decode cX5_hasPail 12 = .ok (.iconst 1, 1) := by decide +kernel
theorem dX5_hasPail_13 : decode cX5_hasPail 13 = .ok (.goto 4, 3) := by decide +kernel
theorem dX5_hasPail_16 : decode cX5_hasPail 16 = .ok (.iconst 0, 1) := by decide +kernel
theorem dX5_hasPail_17 : decode cX5_hasPail 17 = .ok (.ireturn, 1) := by decide +kernel
theorem dX5_arePails_0 : decode cX5_arePails 0 = .ok (.iload_n 1, 1) := by decide +kernel
theorem dX5_arePails_1 : decode cX5_arePails 1 = .ok (.ifCond .lt 17, 3) := by decide +kernel
theorem dX5_arePails_4 : decode cX5_arePails 4 = .ok (.iload_n 1, 1) := by decide +kernel
theorem dX5_arePails_5 : decode cX5_arePails 5 = .ok (.iconst 1, 1) := by decide +kernel
theorem dX5_arePails_6 : decode cX5_arePails 6 = .ok (.aload_n 0, 1) := by decide +kernel
theorem dX5_arePails_7 : decode cX5_arePails 7 = .ok (.getfield 68, 3) := by decide +kernel
theorem dX5_arePails_10 : decode cX5_arePails 10 = .ok (.ishl, 1) := by decide +kernel
theorem dX5_arePails_11 : decode cX5_arePails 11 = .ok (.if_icmp .ge 7, 3) := by decide +kernel
theorem dX5_arePails_14 : decode cX5_arePails 14 = .ok (.iconst 1, 1) := by decide +kernel
theorem dX5_arePails_15 : decode cX5_arePails 15 = .ok (.goto 4, 3) := by decide +kernel
theorem dX5_arePails_18 : decode cX5_arePails 18 = .ok (.iconst 0, 1) := by decide +kernel
theorem dX5_arePails_19 : decode cX5_arePails 19 = .ok (.ireturn, 1) := by decide +kernel
theorem dX5_slightNumbers_0 : decode cX5_slightNumbers 0 = .ok (.aload_n 0, 1) := by decide +kernel
theorem dX5_slightNumbers_1 : decode cX5_slightNumbers 1 = .ok (.getfield 36, 3) := by decide +kernel
theorem dX5_slightNumbers_4 : decode cX5_slightNumbers 4 = .ok (.iconst 3, 1) := by decide +kernel
theorem dX5_slightNumbers_5 : decode cX5_slightNumbers 5 = .ok (.imul, 1) := by decide +kernel
theorem dX5_slightNumbers_6 : decode cX5_slightNumbers 6 = .ok (.ireturn, 1) := by decide +kernel
theorem dX5_hasSlight_0 : decode cX5_hasSlight 0 = .ok (.iload_n 1, 1) := by decide +kernel
theorem dX5_hasSlight_1 : decode cX5_hasSlight 1 = .ok (.ifCond .lt 17, 3) := by decide +kernel
theorem dX5_hasSlight_4 : decode cX5_hasSlight 4 = .ok (.iload_n 1, 1) := by decide +kernel
theorem dX5_hasSlight_5 : decode cX5_hasSlight 5 = .ok (.aload_n 0, 1) := by decide +kernel
theorem dX5_hasSlight_6 : decode cX5_hasSlight 6 = .ok (.getfield 36, 3) := by decide +kernel
theorem dX5_hasSlight_9 : decode cX5_hasSlight 9 = .ok (.iconst 3, 1) := by decide +kernel
theorem dX5_hasSlight_10 : decode cX5_hasSlight 10 = .ok (.imul, 1) := by decide +kernel
theorem dX5_hasSlight_11 : decode cX5_hasSlight 11 = .ok (.if_icmp .ge 7, 3) := by decide +kernel
theorem dX5_hasSlight_14 : decode cX5_hasSlight 14 = .ok (.iconst 1, 1) := by decide +kernel
theorem dX5_hasSlight_15 : decode cX5_hasSlight 15 = .ok (.goto 4, 3) := by decide +kernel
theorem dX5_hasSlight_18 : decode cX5_hasSlight 18 = .ok (.iconst 0, 1) := by decide +kernel
theorem dX5_hasSlight_19 : decode cX5_hasSlight 19 = .ok (.ireturn, 1) := by decide +kernel
theorem dX5_growth_0 : decode cX5_growth 0 = .ok (.aload_n 0, 1) := by decide +kernel
theorem dX5_growth_1 : decode cX5_growth 1 = .ok (.iload_n 2, 1) := by decide +kernel
theorem dX5_growth_2 : decode cX5_growth 2 = .ok (.invokevirtual 71, 3) := by decide +kernel
theorem dX5_growth_5 : decode cX5_growth 5 = .ok (.ifCond .ne 5, 3) := by decide +kernel
theorem dX5_growth_8 : decode cX5_growth 8 = .ok (.iconst 0, 1) := by decide +kernel
theorem dX5_growth_9 : decode cX5_growth 9 = .ok (.ireturn, 1) := by decide +kernel
theorem dX5_growth_10 : decode cX5_growth 10 = .ok (.aload_n 0, 1) := by decide +kernel
theorem dX5_growth_11 : decode cX5_growth 11 = .ok (.getfield 18, 3) := by decide +kernel
theorem dX5_growth_14 : decode cX5_growth 14 = .ok (.iload_n 2, 1) := by decide +kernel
theorem dX5_growth_15 : decode cX5_growth 15 = .ok (.iaload, 1) := by decide +kernel
theorem dX5_growth_16 : decode cX5_growth 16 = .ok (.bipush 99, 2) := by decide +kernel
theorem dX5_growth_18 : decode cX5_growth 18 = .ok (.aload_n 1, 1) := by decide +kernel
theorem dX5_growth_19 : decode cX5_growth 19 = .ok (.getfield 75, 3) := by decide +kernel
theorem dX5_growth_22 : decode cX5_growth 22 = .ok (.iload_n 2, 1) := by decide +kernel
theorem dX5_growth_23 : decode cX5_growth 23 = .ok (.iconst 3, 1) := by decide +kernel
theorem dX5_growth_24 : decode cX5_growth 24 = .ok (.idiv, 1) := by decide +kernel
theorem dX5_growth_25 : decode cX5_growth 25 = .ok (.iaload, 1) := by decide +kernel
theorem dX5_growth_26 : decode cX5_growth 26 = .ok (.isub, 1) := by decide +kernel
theorem dX5_growth_27 : decode cX5_growth 27 = .ok (.invokestatic 30, 3) := by decide +kernel
theorem dX5_growth_30 : decode cX5_growth 30 = .ok (.ireturn, 1) := by decide +kernel
theorem dX5_offend_0 : decode cX5_offend 0 = .ok (.aload_n 0, 1) := by decide +kernel
theorem dX5_offend_1 : decode cX5_offend 1 = .ok (.iload_n 2, 1) := by decide +kernel
theorem dX5_offend_2 : decode cX5_offend 2 = .ok (.invokevirtual 71, 3) := by decide +kernel
theorem dX5_offend_5 : decode cX5_offend 5 = .ok (.ifCond .eq 31, 3) := by decide +kernel
theorem dX5_offend_8 : decode cX5_offend 8 = .ok (.iload_n 2, 1) := by decide +kernel
theorem dX5_offend_9 : decode cX5_offend 9 = .ok (.iconst 3, 1) := by decide +kernel
theorem dX5_offend_10 : decode cX5_offend 10 = .ok (.idiv, 1) := by decide +kernel
theorem dX5_offend_11 : decode cX5_offend 11 = .ok (.istore_n 3, 1) := by decide +kernel
theorem dX5_offend_12 : decode cX5_offend 12 = .ok (.aload_n 1, 1) := by decide +kernel
theorem dX5_offend_13 : decode cX5_offend 13 = .ok (.getfield 75, 3) := by decide +kernel
theorem dX5_offend_16 : decode cX5_offend 16 = .ok (.iload_n 3, 1) := by decide +kernel
theorem dX5_offend_17 : decode cX5_offend 17 = .ok (.bipush 99, 2) := by decide +kernel
theorem dX5_offend_19 : decode cX5_offend 19 = .ok (.aload_n 1, 1) := by decide +kernel
theorem dX5_offend_20 : decode cX5_offend 20 = .ok (.getfield 75, 3) := by decide +kernel
theorem dX5_offend_23 : decode cX5_offend 23 = .ok (.iload_n 3, 1) := by decide +kernel
theorem dX5_offend_24 : decode cX5_offend 24 = .ok (.iaload, 1) := by decide +kernel
theorem dX5_offend_25 : decode cX5_offend 25 = .ok (.aload_n 0, 1) := by decide +kernel
theorem dX5_offend_26 : decode cX5_offend 26 = .ok (.getfield 18, 3) := by decide +kernel
theorem dX5_offend_29 : decode cX5_offend 29 = .ok (.iload_n 2, 1) := by decide +kernel
theorem dX5_offend_30 : decode cX5_offend 30 = .ok (.iaload, 1) := by decide +kernel
theorem dX5_offend_31 : decode cX5_offend 31 = .ok (.iadd, 1) := by decide +kernel
theorem dX5_offend_32 : decode cX5_offend 32 = .ok (.invokestatic 30, 3) := by decide +kernel
theorem dX5_offend_35 : decode cX5_offend 35 = .ok (.iastore, 1) := by decide +kernel
theorem dX5_offend_36 : decode cX5_offend 36 = .ok (.return_, 1) := by decide +kernel
theorem dX5_passNight_0 : decode cX5_passNight 0 = .ok (.iconst 0, 1) := by decide +kernel
theorem dX5_passNight_1 : decode cX5_passNight 1 = .ok (.istore_n 2, 1) := by decide +kernel
theorem dX5_passNight_2 : decode cX5_passNight 2 = .ok (.iload_n 2, 1) := by decide +kernel
theorem dX5_passNight_3 : decode cX5_passNight 3 = .ok (.aload_n 0, 1) := by decide +kernel
theorem dX5_passNight_4 : decode cX5_passNight 4 = .ok (.getfield 36, 3) := by decide +kernel
theorem dX5_passNight_7 : decode cX5_passNight 7 = .ok (.if_icmp .ge 30, 3) := by decide +kernel
theorem dX5_passNight_10 : decode cX5_passNight 10 = .ok (.aload_n 1, 1) := by decide +kernel
theorem dX5_passNight_11 : decode cX5_passNight 11 = .ok (.getfield 75, 3) := by decide +kernel
theorem dX5_passNight_14 : decode cX5_passNight 14 = .ok (.iload_n 2, 1) := by decide +kernel
theorem dX5_passNight_15 : decode cX5_passNight 15 = .ok (.aload_n 0, 1) := by decide +kernel
theorem dX5_passNight_16 : decode cX5_passNight 16 = .ok (.getfield 9, 3) := by decide +kernel
theorem dX5_passNight_19 : decode cX5_passNight 19 = .ok (.iload_n 2, 1) := by decide +kernel
theorem dX5_passNight_20 : decode cX5_passNight 20 = .ok (.iaload, 1) := by decide +kernel
theorem dX5_passNight_21 : decode cX5_passNight 21 = .ok (.aload_n 1, 1) := by decide +kernel
theorem dX5_passNight_22 : decode cX5_passNight 22 = .ok (.getfield 75, 3) := by decide +kernel
theorem dX5_passNight_25 : decode cX5_passNight 25 = .ok (.iload_n 2, 1) := by decide +kernel
theorem dX5_passNight_26 : decode cX5_passNight 26 = .ok (.iaload, 1) := by decide +kernel
theorem dX5_passNight_27 : decode cX5_passNight 27 = .ok (.invokestatic 78, 3) := by decide +kernel
theorem dX5_passNight_30 : decode cX5_passNight 30 = .ok (.iastore, 1) := by decide +kernel
theorem dX5_passNight_31 : decode cX5_passNight 31 = .ok (.iinc 2 1, 3) := by decide +kernel
theorem dX5_passNight_34 : decode cX5_passNight 34 = .ok (.goto (-32), 3) := by decide +kernel
theorem dX5_passNight_37 : decode cX5_passNight 37 = .ok (.return_, 1) := by decide +kernel
theorem dX5_wouldSet_0 : decode cX5_wouldSet 0 = .ok (.aload_n 0, 1) := by decide +kernel
theorem dX5_wouldSet_1 : decode cX5_wouldSet 1 = .ok (.iload_n 2, 1) := by decide +kernel
theorem dX5_wouldSet_2 : decode cX5_wouldSet 2 = .ok (.invokevirtual 81, 3) := by decide +kernel
theorem dX5_wouldSet_5 : decode cX5_wouldSet 5 = .ok (.ifCond .eq 21, 3) := by decide +kernel
theorem dX5_wouldSet_8 : decode cX5_wouldSet 8 = .ok (.aload_n 1, 1) := by decide +kernel
theorem dX5_wouldSet_9 : decode cX5_wouldSet 9 = .ok (.iload_n 2, 1) := by decide +kernel
theorem dX5_wouldSet_10 : decode cX5_wouldSet 10 = .ok (.invokevirtual 84, 3) := by decide +kernel
theorem dX5_wouldSet_13 : decode cX5_wouldSet 13 = .ok (.aload_n 0, 1) := by decide +kernel
theorem dX5_wouldSet_14 : decode cX5_wouldSet 14 = .ok (.getfield 21, 3) := by decide +kernel
theorem dX5_wouldSet_17 : decode cX5_wouldSet 17 = .ok (.iload_n 2, 1) := by decide +kernel
theorem dX5_wouldSet_18 : decode cX5_wouldSet 18 = .ok (.iaload, 1) := by decide +kernel
theorem dX5_wouldSet_19 : decode cX5_wouldSet 19 = .ok (.if_icmp .lt 7, 3) := by decide +kernel
theorem dX5_wouldSet_22 : decode cX5_wouldSet 22 = .ok (.iconst 1, 1) := by decide +kernel
theorem dX5_wouldSet_23 : decode cX5_wouldSet 23 = .ok (.goto 4, 3) := by decide +kernel
theorem dX5_wouldSet_26 : decode cX5_wouldSet 26 = .ok (.iconst 0, 1) := by decide +kernel
theorem dX5_wouldSet_27 : decode cX5_wouldSet 27 = .ok (.ireturn, 1) := by decide +kernel
theorem dX5_allThatWouldSet_0 : decode cX5_allThatWouldSet 0 = .ok (.iconst 0, 1) := by decide +kernel
theorem dX5_allThatWouldSet_1 : decode cX5_allThatWouldSet 1 = .ok (.istore_n 2, 1) := by decide +kernel
theorem dX5_allThatWouldSet_2 : decode cX5_allThatWouldSet 2 = .ok (.iconst 0, 1) := by decide +kernel
theorem dX5_allThatWouldSet_3 : decode cX5_allThatWouldSet 3 = .ok (.istore_n 3, 1) := by decide +kernel
theorem dX5_allThatWouldSet_4 : decode cX5_allThatWouldSet 4 = .ok (.iload_n 3, 1) := by decide +kernel
theorem dX5_allThatWouldSet_5 : decode cX5_allThatWouldSet 5 = .ok (.aload_n 0, 1) := by decide +kernel
theorem dX5_allThatWouldSet_6 : decode cX5_allThatWouldSet 6 = .ok (.getfield 68, 3) := by decide +kernel
theorem dX5_allThatWouldSet_9 : decode cX5_allThatWouldSet 9 = .ok (.if_icmp .ge 29, 3) := by decide +kernel
theorem dX5_allThatWouldSet_12 : decode cX5_allThatWouldSet 12 = .ok (.aload_n 1, 1) := by decide +kernel
theorem dX5_allThatWouldSet_13 : decode cX5_allThatWouldSet 13 = .ok (.iload_n 3, 1) := by decide +kernel
theorem dX5_allThatWouldSet_14 : decode cX5_allThatWouldSet 14 = .ok (.invokevirtual 84, 3) := by decide +kernel
theorem dX5_allThatWouldSet_17 : decode cX5_allThatWouldSet 17 = .ok (.aload_n 0, 1) := by decide +kernel
theorem dX5_allThatWouldSet_18 : decode cX5_allThatWouldSet 18 = .ok (.getfield 21, 3) := by decide +kernel
theorem dX5_allThatWouldSet_21 : decode cX5_allThatWouldSet 21 = .ok (.iload_n 3, 1) := by decide +kernel
theorem dX5_allThatWouldSet_22 : decode cX5_allThatWouldSet 22 = .ok (.iaload, 1) := by decide +kernel
theorem dX5_allThatWouldSet_23 : decode cX5_allThatWouldSet 23 = .ok (.if_icmp .lt 9, 3) := by decide +kernel
theorem dX5_allThatWouldSet_26 : decode cX5_allThatWouldSet 26 = .ok (.iload_n 2, 1) := by decide +kernel
theorem dX5_allThatWouldSet_27 : decode cX5_allThatWouldSet 27 = .ok (.iconst 1, 1) := by decide +kernel
theorem dX5_allThatWouldSet_28 : decode cX5_allThatWouldSet 28 = .ok (.iload_n 3, 1) := by decide +kernel
theorem dX5_allThatWouldSet_29 : decode cX5_allThatWouldSet 29 = .ok (.ishl, 1) := by decide +kernel
theorem dX5_allThatWouldSet_30 : decode cX5_allThatWouldSet 30 = .ok (.ior, 1) := by decide +kernel
theorem dX5_allThatWouldSet_31 : decode cX5_allThatWouldSet 31 = .ok (.istore_n 2, 1) := by decide +kernel
theorem dX5_allThatWouldSet_32 : decode cX5_allThatWouldSet 32 = .ok (.iinc 3 1, 3) := by decide +kernel
theorem dX5_allThatWouldSet_35 : decode cX5_allThatWouldSet 35 = .ok (.goto (-31), 3) := by decide +kernel
theorem dX5_allThatWouldSet_38 : decode cX5_allThatWouldSet 38 = .ok (.iload_n 2, 1) := by decide +kernel
theorem dX5_allThatWouldSet_39 : decode cX5_allThatWouldSet 39 = .ok (.ireturn, 1) := by decide +kernel
end
section
theorem dX6_init_0 : decode cX6_init 0 = .ok (.aload_n 0, 1) := by decide +kernel
theorem dX6_init_1 : decode cX6_init 1 = .ok (.invokespecial 1, 3) := by decide +kernel
theorem dX6_init_4 : decode cX6_init 4 = .ok (.aload_n 0, 1) := by decide +kernel
theorem dX6_init_5 : decode cX6_init 5 = .ok (.new 7, 3) := by decide +kernel
theorem dX6_init_8 : decode cX6_init 8 = .ok (.dup, 1) := by decide +kernel
theorem dX6_init_9 : decode cX6_init 9 = .ok (.invokespecial 9, 3) := by decide +kernel
theorem dX6_init_12 : decode cX6_init 12 = .ok (.putfield 10, 3) := by decide +kernel
theorem dX6_init_15 : decode cX6_init 15 = .ok (.aload_n 0, 1) := by decide +kernel
theorem dX6_init_16 : decode cX6_init 16 = .ok (.new 16, 3) := by decide +kernel
theorem dX6_init_19 : decode cX6_init 19 = .ok (.dup, 1) := by decide +kernel
theorem dX6_init_20 : decode cX6_init 20 = .ok (.invokespecial 18, 3) := by decide +kernel
theorem dX6_init_23 : decode cX6_init 23 = .ok (.putfield 19, 3) := by decide +kernel
theorem dX6_init_26 : decode cX6_init 26 = .ok (.aload_n 0, 1) := by decide +kernel
theorem dX6_init_27 : decode cX6_init 27 = .ok (.new 23, 3) := by decide +kernel
theorem dX6_init_30 : decode cX6_init 30 = .ok (.dup, 1) := by decide +kernel
theorem dX6_init_31 : decode cX6_init 31 = .ok (.invokespecial 25, 3) := by decide +kernel
theorem dX6_init_34 : decode cX6_init 34 = .ok (.putfield 26, 3) := by decide +kernel
theorem dX6_init_37 : decode cX6_init 37 = .ok (.aload_n 0, 1) := by decide +kernel
theorem dX6_init_38 : decode cX6_init 38 = .ok (.new 23, 3) := by decide +kernel
theorem dX6_init_41 : decode cX6_init 41 = .ok (.dup, 1) := by decide +kernel
theorem dX6_init_42 : decode cX6_init 42 = .ok (.invokespecial 25, 3) := by decide +kernel
theorem dX6_init_45 : decode cX6_init 45 = .ok (.putfield 30, 3) := by decide +kernel
theorem dX6_init_48 : decode cX6_init 48 = .ok (.aload_n 0, 1) := by decide +kernel
theorem dX6_init_49 : decode cX6_init 49 = .ok (.new 33, 3) := by decide +kernel
theorem dX6_init_52 : decode cX6_init 52 = .ok (.dup, 1) := by decide +kernel
theorem dX6_init_53 : decode cX6_init 53 = .ok (.invokespecial 35, 3) := by decide +kernel
theorem dX6_init_56 : decode cX6_init 56 = .ok (.putfield 36, 3) := by decide +kernel
theorem dX6_init_59 : decode cX6_init 59 = .ok (.return_, 1) := by decide +kernel
theorem dX6_letter_0 : decode cX6_letter 0 = .ok (.iload_n 1, 1) := by decide +kernel
theorem dX6_letter_1 : decode cX6_letter 1 = .ok (.iconst 1, 1) := by decide +kernel
theorem dX6_letter_2 : decode cX6_letter 2 = .ok (.if_icmp .lt 9, 3) := by decide +kernel
theorem dX6_letter_5 : decode cX6_letter 5 = .ok (.iload_n 1, 1) := by decide +kernel
theorem dX6_letter_6 : decode cX6_letter 6 = .ok (.bipush 126, 2) := by decide +kernel
theorem dX6_letter_8 : decode cX6_letter 8 = .ok (.if_icmp .le 6, 3) := by decide +kernel
theorem dX6_letter_11 : decode cX6_letter 11 = .ok (.bipush (-102), 2) := by decide +kernel
theorem dX6_letter_13 : decode cX6_letter 13 = .ok (.ireturn, 1) := by decide +kernel
theorem dX6_letter_14 : decode cX6_letter 14 = .ok (.aload_n 0, 1) := by decide +kernel
theorem dX6_letter_15 : decode cX6_letter 15 = .ok (.getfield 10, 3) := by decide +kernel
theorem dX6_letter_18 : decode cX6_letter 18 = .ok (.getfield 40, 3) := by decide +kernel
theorem dX6_letter_21 : decode cX6_letter 21 = .ok (.bipush 24, 2) := by decide +kernel
theorem dX6_letter_23 : decode cX6_letter 23 = .ok (.if_icmp .lt 6, 3) := by decide +kernel
theorem dX6_letter_26 : decode cX6_letter 26 = .ok (.bipush (-104), 2) := by decide +kernel
theorem dX6_letter_28 : decode cX6_letter 28 = .ok (.ireturn, 1) := by decide +kernel
theorem dX6_letter_29 : decode cX6_letter 29 = .ok (.aload_n 0, 1) := by decide +kernel
theorem dX6_letter_30 : decode cX6_letter 30 = .ok (.getfield 10, 3) := by decide +kernel
theorem dX6_letter_33 : decode cX6_letter 33 = .ok (.iload_n 1, 1) := by decide +kernel
theorem dX6_letter_34 : decode cX6_letter 34 = .ok (.invokevirtual 44, 3) := by decide +kernel
theorem dX6_letter_37 : decode cX6_letter 37 = .ok (.aload_n 0, 1) := by decide +kernel
theorem dX6_letter_38 : decode cX6_letter 38 = .ok (.getfield 10, 3) := by decide +kernel
theorem dX6_letter_41 : decode cX6_letter 41 = .ok (.getfield 40, 3) := by decide +kernel
theorem dX6_letter_44 : decode cX6_letter 44 = .ok (.ireturn, 1) := by decide +kernel
theorem dX6_blank_0 : decode cX6_blank 0 = .ok (.aload_n 0, 1) := by decide +kernel
theorem dX6_blank_1 : decode cX6_blank 1 = .ok (.getfield 10, 3) := by decide +kernel
theorem dX6_blank_4 : decode cX6_blank 4 = .ok (.invokevirtual 48, 3) := by decide +kernel
theorem dX6_blank_7 : decode cX6_blank 7 = .ok (.ireturn, 1) := by decide +kernel
theorem dX6_fault_0 : decode cX6_fault 0 = .ok (.aload_n 0, 1) := by decide +kernel
theorem dX6_fault_1 : decode cX6_fault 1 = .ok (.getfield 10, 3) := by decide +kernel
theorem dX6_fault_4 : decode cX6_fault 4 = .ok (.invokevirtual 52, 3) := by decide +kernel
theorem dX6_fault_7 : decode cX6_fault 7 = .ok (.ireturn, 1) := by decide +kernel
theorem dX6_valley_0 : decode cX6_valley 0 = .ok (.aload_n 0, 1) := by decide +kernel
theorem dX6_valley_1 : decode cX6_valley 1 = .ok (.getfield 10, 3) := by decide +kernel
theorem dX6_valley_4 : decode cX6_valley 4 = .ok (.invokevirtual 55, 3) := by decide +kernel
theorem dX6_valley_7 : decode cX6_valley 7 = .ok (.ifCond .ne 6, 3) := by decide +kernel
theorem dX6_valley_10 : decode cX6_valley 10 = .ok (.bipush (-103), 2) := by decide +kernel
theorem dX6_valley_12 : decode cX6_valley 12 = .ok (.ireturn, 1) := by decide +kernel
theorem dX6_valley_13 : decode cX6_valley 13 = .ok (.aload_n 0, 1) := by decide +kernel
theorem dX6_valley_14 : decode cX6_valley 14 = .ok (.getfield 26, 3) := by decide +kernel
theorem dX6_valley_17 : decode cX6_valley 17 = .ok (.invokevirtual 59, 3) := by decide +kernel
theorem dX6_valley_20 : decode cX6_valley 20 = .ok (.aload_n 0, 1) := by decide +kernel
theorem dX6_valley_21 : decode cX6_valley 21 = .ok (.getfield 19, 3) := by decide +kernel
theorem dX6_valley_24 : decode cX6_valley 24 = .ok (.aload_n 0, 1) := by decide +kernel
theorem dX6_valley_25 : decode cX6_valley 25 = .ok (.getfield 10, 3) := by decide +kernel
theorem dX6_valley_28 : decode cX6_valley 28 = .ok (.aload_n 0, 1) := by decide +kernel
theorem dX6_valley_29 : decode cX6_valley 29 = .ok (.getfield 26, 3) := by decide +kernel
theorem dX6_valley_32 : decode cX6_valley 32 = .ok (.invokevirtual 61, 3) := by decide +kernel
theorem dX6_valley_35 : decode cX6_valley 35 = .ok (.aload_n 0, 1) := by decide +kernel
theorem dX6_valley_36 : decode cX6_valley 36 = .ok (.getfield 10, 3) := by decide +kernel
theorem dX6_valley_39 : decode cX6_valley 39 = .ok (.invokevirtual 48, 3) := by decide +kernel
theorem dX6_valley_42 : decode cX6_valley 42 = .ok (.pop, 1) := by decide +kernel
theorem dX6_valley_43 : decode cX6_valley 43 = .ok (.aload_n 0, 1) := by decide +kernel
theorem dX6_valley_44 : decode cX6_valley 44 = .ok (.iconst 0, 1) := by decide +kernel
theorem dX6_valley_45 : decode cX6_valley 45 = .ok (.putfield 65, 3) := by decide +kernel
theorem dX6_valley_48 : decode cX6_valley 48 = .ok (.aload_n 0, 1) := by decide +kernel
theorem dX6_valley_49 : decode cX6_valley 49 = .ok (.dup, 1) := by decide +kernel
theorem dX6_valley_50 : decode cX6_valley 50 = .ok (.getfield 69, 3) := by decide +kernel
theorem dX6_valley_53 : decode cX6_valley 53 = .ok (.iconst 1, 1) := by decide +kernel
theorem dX6_valley_54 : decode cX6_valley 54 = .ok (.iadd, 1) := by decide +kernel
theorem dX6_valley_55 : decode cX6_valley 55 = .ok (.putfield 69, 3) := by decide +kernel
theorem dX6_valley_58 : decode cX6_valley 58 = .ok (.aload_n 0, 1) := by decide +kernel
theorem dX6_valley_59 : decode cX6_valley 59 = .ok (.getfield 19, 3) := by decide +kernel
theorem dX6_valley_62 : decode cX6_valley 62 = .ok (.getfield 72, 3) := by decide +kernel
theorem dX6_valley_65 : decode cX6_valley 65 = .ok (.ireturn, 1) := by decide +kernel
theorem dX6_person_0 : decode cX6_person 0 = .ok (.aload_n 0, 1) := by decide +kernel
theorem dX6_person_1 : decode cX6_person 1 = .ok (.getfield 19, 3) := by decide +kernel
theorem dX6_person_4 : decode cX6_person 4 = .ok (.iload_n 1, 1) := by decide +kernel
theorem dX6_person_5 : decode cX6_person 5 = .ok (.invokevirtual 75, 3) := by decide +kernel
theorem dX6_person_8 : decode cX6_person 8 = .ok (.ifCond .ne 6, 3) := by decide +kernel
theorem dX6_person_11 : decode cX6_person 11 = .ok (.bipush (-101), 2) := by decide +kernel
theorem dX6_person_13 : decode cX6_person 13 = .ok (.ireturn, 1) := by decide +kernel
theorem dX6_person_14 : decode cX6_person 14 = .ok (.iload_n 2, 1) := by decide +kernel
theorem dX6_person_15 : decode cX6_person 15 = .ok (.invokestatic 79, 3) := by decide +kernel
theorem dX6_person_18 : decode cX6_person 18 = .ok (.ifCond .eq 23, 3) := by decide +kernel
theorem dX6_person_21 : decode cX6_person 21 = .ok (.aload_n 0, 1) := by decide +kernel
theorem dX6_person_22 : decode cX6_person 22 = .ok (.getfield 19, 3) := by decide +kernel
theorem dX6_person_25 : decode cX6_person 25 = .ok (.aload_n 0, 1) := by decide +kernel
theorem dX6_person_26 : decode cX6_person 26 = .ok (.getfield 26, 3) := by decide +kernel
theorem dX6_person_29 : decode cX6_person 29 = .ok (.iload_n 1, 1) := by decide +kernel
theorem dX6_person_30 : decode cX6_person 30 = .ok (.iconst 3, 1) := by decide +kernel
theorem dX6_person_31 : decode cX6_person 31 = .ok (.imul, 1) := by decide +kernel
theorem dX6_person_32 : decode cX6_person 32 = .ok (.iload_n 2, 1) := by decide +kernel
theorem dX6_person_33 : decode cX6_person 33 = .ok (.iadd, 1) := by decide +kernel
theorem dX6_person_34 : decode cX6_person 34 = .ok (.bipush 10, 2) := by decide +kernel
theorem dX6_person_36 : decode cX6_person 36 = .ok (.isub, 1) := by decide +kernel
theorem dX6_person_37 : decode cX6_person 37 = .ok (.invokevirtual 82, 3) := by decide +kernel
theorem dX6_person_40 : decode cX6_person 40 = .ok (.ireturn, 1) := by decide +kernel
theorem dX6_person_41 : decode cX6_person 41 = .ok (.iload_n 2, 1) := by decide +kernel
theorem dX6_person_42 : decode cX6_person 42 = .ok (.tableswitch 196 0 8 #[50, 60, 70, 80, 90, 100, 117, 142, 163], 50) := by decide +kernel
theorem dX6_person_92 : decode cX6_person 92 = .ok (.aload_n 0, 1) := by decide +kernel
theorem dX6_person_93 : decode cX6_person 93 = .ok (.getfield 19, 3) := by decide +kernel
theorem dX6_person_96 : decode cX6_person 96 = .ok (.getfield 86, 3) := by decide +kernel
theorem dX6_person_99 : decode cX6_person 99 = .ok (.iload_n 1, 1) := by decide +kernel
theorem dX6_person_100 : decode cX6_person 100 = .ok (.iaload, 1) := by decide +kernel
theorem dX6_person_101 : decode cX6_person 101 = .ok (.ireturn, 1) := by decide +kernel
theorem dX6_person_102 : decode cX6_person 102 = .ok (.aload_n 0, 1) := by decide +kernel
theorem dX6_person_103 : decode cX6_person 103 = .ok (.getfield 19, 3) := by decide +kernel
theorem dX6_person_106 : decode cX6_person 106 = .ok (.getfield 90, 3) := by decide +kernel
theorem dX6_person_109 : decode cX6_person 109 = .ok (.iload_n 1, 1) := by decide +kernel
theorem dX6_person_110 : decode cX6_person 110 = .ok (.iaload, 1) := by decide +kernel
theorem dX6_person_111 : decode cX6_person 111 = .ok (.ireturn, 1) := by decide +kernel
theorem dX6_person_112 : decode cX6_person 112 = .ok (.aload_n 0, 1) := by decide +kernel
theorem dX6_person_113 : decode cX6_person 113 = .ok (.getfield 26, 3) := by decide +kernel
theorem dX6_person_116 : decode cX6_person 116 = .ok (.getfield 93, 3) := by decide +kernel
theorem dX6_person_119 : decode cX6_person 119 = .ok (.iload_n 1, 1) := by decide +kernel
theorem dX6_person_120 : decode cX6_person 120 = .ok (.iaload, 1) := by decide +kernel
theorem dX6_person_121 : decode cX6_person 121 = .ok (.ireturn, 1) := by decide +kernel
theorem dX6_person_122 : decode cX6_person 122 = .ok (.aload_n 0, 1) := by decide +kernel
theorem dX6_person_123 : decode cX6_person 123 = .ok (.getfield 26, 3) := by decide +kernel
theorem dX6_person_126 : decode cX6_person 126 = .ok (.getfield 96, 3) := by decide +kernel
theorem dX6_person_129 : decode cX6_person 129 = .ok (.iload_n 1, 1) := by decide +kernel
theorem dX6_person_130 : decode cX6_person 130 = .ok (.iaload, 1) := by decide +kernel
theorem dX6_person_131 : decode cX6_person 131 = .ok (.ireturn, 1) := by decide +kernel
theorem dX6_person_132 : decode cX6_person 132 = .ok (.aload_n 0, 1) := by decide +kernel
theorem dX6_person_133 : decode cX6_person 133 = .ok (.getfield 26, 3) := by decide +kernel
theorem dX6_person_136 : decode cX6_person 136 = .ok (.getfield 99, 3) := by decide +kernel
theorem dX6_person_139 : decode cX6_person 139 = .ok (.iload_n 1, 1) := by decide +kernel
theorem dX6_person_140 : decode cX6_person 140 = .ok (.iaload, 1) := by decide +kernel
theorem dX6_person_141 : decode cX6_person 141 = .ok (.ireturn, 1) := by decide +kernel
theorem dX6_person_142 : decode cX6_person 142 = .ok (.aload_n 0, 1) := by decide +kernel
theorem dX6_person_143 : decode cX6_person 143 = .ok (.getfield 36, 3) := by decide +kernel
theorem dX6_person_146 : decode cX6_person 146 = .ok (.aload_n 0, 1) := by decide +kernel
theorem dX6_person_147 : decode cX6_person 147 = .ok (.getfield 19, 3) := by decide +kernel
theorem dX6_person_150 : decode cX6_person 150 = .ok (.aload_n 0, 1) := by decide +kernel
theorem dX6_person_151 : decode cX6_person 151 = .ok (.getfield 26, 3) := by decide +kernel
theorem dX6_person_154 : decode cX6_person 154 = .ok (.iload_n 1, 1) := by decide +kernel
theorem dX6_person_155 : decode cX6_person 155 = .ok (.invokevirtual 102, 3) := by decide +kernel
theorem dX6_person_158 : decode cX6_person 158 = .ok (.ireturn, 1) := by decide +kernel
theorem dX6_person_159 : decode cX6_person 159 = .ok (.aload_n 0, 1) := by decide +kernel
theorem dX6_person_160 : decode cX6_person 160 = .ok (.getfield 36, 3) := by decide +kernel
theorem dX6_person_163 : decode cX6_person 163 = .ok (.aload_n 0, 1) := by decide +kernel
theorem dX6_person_164 : decode cX6_person 164 = .ok (.getfield 19, 3) := by decide +kernel
theorem dX6_person_167 : decode cX6_person 167 = .ok (.aload_n 0, 1) := by decide +kernel
theorem dX6_person_168 : decode cX6_person 168 = .ok (.getfield 26, 3) := by decide +kernel
theorem dX6_person_171 : decode cX6_person 171 = .ok (.iload_n 1, 1) := by decide +kernel
theorem dX6_person_172 : decode cX6_person 172 = .ok (.invokevirtual 102, 3) := by decide +kernel
theorem dX6_person_175 : decode cX6_person 175 = .ok (.pop, 1) := by decide +kernel
theorem dX6_person_176 : decode cX6_person 176 = .ok (.aload_n 0, 1) := by decide +kernel
theorem dX6_person_177 : decode cX6_person 177 = .ok (.getfield 36, 3) := by decide +kernel
theorem dX6_person_180 : decode cX6_person 180 = .ok (.getfield 106, 3) := by decide +kernel
theorem dX6_person_183 : decode cX6_person 183 = .ok (.ireturn, 1) := by decide +kernel
theorem dX6_person_184 : decode cX6_person 184 = .ok (.aload_n 0, 1) := by decide +kernel
theorem dX6_person_185 : decode cX6_person 185 = .ok (.getfield 26, 3) := by decide +kernel
theorem dX6_person_188 : decode cX6_person 188 = .ok (.getfield 109, 3) := by decide +kernel
theorem dX6_person_191 : decode cX6_person 191 = .ok (.iload_n 1, 1) := by decide +kernel
theorem dX6_person_192 : decode cX6_person 192 = .ok (.aload_n 0, 1) := by decide +kernel
theorem dX6_person_193 : decode cX6_person 193 = .ok (.getfield 19, 3) := by decide +kernel
theorem dX6_person_196 : decode cX6_person 196 = .ok (.getfield 86, 3) := by decide +kernel
theorem dX6_person_199 : decode cX6_person 199 = .ok (.iload_n 1, 1) := by decide +kernel
theorem dX6_person_200 : decode cX6_person 200 = .ok (.iaload, 1) := by decide +kernel
theorem dX6_person_201 : decode cX6_person 201 = .ok (.invokevirtual 113, 3) := by decide +kernel
theorem dX6_person_204 : decode cX6_person 204 = .ok (.ireturn, 1) := by decide +kernel
theorem dX6_person_205 : decode cX6_person 205 = .ok (.aload_n 0, 1) := by decide +kernel
theorem dX6_person_206 : decode cX6_person 206 = .ok (.getfield 19, 3) := by decide +kernel
theorem dX6_person_209 : decode cX6_person 209 = .ok (.getfield 86, 3) := by decide +kernel
theorem dX6_person_212 : decode cX6_person 212 = .ok (.iload_n 1, 1) := by decide +kernel
theorem dX6_person_213 : decode cX6_person 213 = .ok (.iaload, 1) := by decide +kernel
theorem dX6_person_214 : decode cX6_person 214 = .ok (.aload_n 0, 1) := by decide +kernel
theorem dX6_person_215 : decode cX6_person 215 = .ok (.getfield 26, 3) := by decide +kernel
theorem dX6_person_218 : decode cX6_person 218 = .ok (.getfield 109, 3) := by decide +kernel
theorem dX6_person_221 : decode cX6_person 221 = .ok (.iload_n 1, 1) := by decide +kernel
theorem dX6_person_222 : decode cX6_person 222 = .ok (.aload_n 0, 1) := by decide +kernel
theorem dX6_person_223 : decode cX6_person 223 = .ok (.getfield 19, 3) := by decide +kernel
theorem dX6_person_226 : decode cX6_person 226 = .ok (.getfield 86, 3) := by decide +kernel
theorem dX6_person_229 : decode cX6_person 229 = .ok (.iload_n 1, 1) := by decide +kernel
theorem dX6_person_230 : decode cX6_person 230 = .ok (.iaload, 1) := by decide +kernel
theorem dX6_person_231 : decode cX6_person 231 = .ok (.invokevirtual 113, 3) := by decide +kernel
theorem dX6_person_234 : decode cX6_person 234 = .ok (.invokestatic 118, 3) := by decide +kernel
theorem dX6_person_237 : decode cX6_person 237 = .ok (.ireturn, 1) := by decide +kernel
theorem dX6_person_238 : decode cX6_person 238 = .ok (.bipush (-102), 2) := by decide +kernel
theorem dX6_person_240 : decode cX6_person 240 = .ok (.ireturn, 1) := by decide +kernel
theorem dX6_as_0 : decode cX6_as 0 = .ok (.aload_n 0, 1) := by decide +kernel
theorem dX6_as_1 : decode cX6_as 1 = .ok (.getfield 19, 3) := by decide +kernel
theorem dX6_as_4 : decode cX6_as 4 = .ok (.iload_n 1, 1) := by decide +kernel
theorem dX6_as_5 : decode cX6_as 5 = .ok (.invokevirtual 75, 3) := by decide +kernel
theorem dX6_as_8 : decode cX6_as 8 = .ok (.ifCond .ne 6, 3) := by decide +kernel
theorem dX6_as_11 : decode cX6_as 11 = .ok (.bipush (-101), 2) := by decide +kernel
theorem dX6_as_13 : decode cX6_as 13 = .ok (.ireturn, 1) := by decide +kernel
theorem dX6_as_14 : decode cX6_as 14 = .ok (.iload_n 2, 1) := by decide +kernel
theorem dX6_as_15 : decode cX6_as 15 = .ok (.ifCond .lt 8, 3) := by decide +kernel
theorem dX6_as_18 : decode cX6_as 18 = .ok (.iload_n 2, 1) := by decide +kernel
theorem dX6_as_19 : decode cX6_as 19 = .ok (.iconst 5, 1) := by decide +kernel
theorem dX6_as_20 : decode cX6_as 20 = .ok (.if_icmp .lt 6, 3) := by decide +kernel
theorem dX6_as_23 : decode cX6_as 23 = .ok (.bipush (-102), 2) := by decide +kernel
theorem dX6_as_25 : decode cX6_as 25 = .ok (.ireturn, 1) := by decide +kernel
theorem dX6_as_26 : decode cX6_as 26 = .ok (.aload_n 0, 1) := by decide +kernel
theorem dX6_as_27 : decode cX6_as 27 = .ok (.getfield 19, 3) := by decide +kernel
theorem dX6_as_30 : decode cX6_as 30 = .ok (.getfield 86, 3) := by decide +kernel
theorem dX6_as_33 : decode cX6_as 33 = .ok (.iload_n 1, 1) := by decide +kernel
theorem dX6_as_34 : decode cX6_as 34 = .ok (.iaload, 1) := by decide +kernel
theorem dX6_as_35 : decode cX6_as 35 = .ok (.iload_n 2, 1) := by decide +kernel
theorem dX6_as_36 : decode cX6_as 36 = .ok (.invokestatic 123, 3) := by decide +kernel
theorem dX6_as_39 : decode cX6_as 39 = .ok (.ifCond .eq 7, 3) := by decide +kernel
theorem dX6_as_42 : decode cX6_as 42 = .ok (.iload_n 1, 1) := by decide +kernel
theorem dX6_as_43 : decode cX6_as 43 = .ok (.goto 4, 3) := by decide +kernel
theorem dX6_as_46 : decode cX6_as 46 = .ok (.iconst (-1), 1) := by decide +kernel
theorem dX6_as_47 : decode cX6_as 47 = .ok (.ireturn, 1) := by decide +kernel
theorem dX6_pail_0 : decode cX6_pail 0 = .ok (.aload_n 0, 1) := by decide +kernel
theorem dX6_pail_1 : decode cX6_pail 1 = .ok (.getfield 19, 3) := by decide +kernel
theorem dX6_pail_4 : decode cX6_pail 4 = .ok (.iload_n 1, 1) := by decide +kernel
theorem dX6_pail_5 : decode cX6_pail 5 = .ok (.invokevirtual 127, 3) := by decide +kernel
theorem dX6_pail_8 : decode cX6_pail 8 = .ok (.ifCond .ne 6, 3) := by decide +kernel
theorem dX6_pail_11 : decode cX6_pail 11 = .ok (.bipush (-101), 2) := by decide +kernel
theorem dX6_pail_13 : decode cX6_pail 13 = .ok (.ireturn, 1) := by decide +kernel
theorem dX6_pail_14 : decode cX6_pail 14 = .ok (.iload_n 2, 1) := by decide +kernel
theorem dX6_pail_15 : decode cX6_pail 15 = .ok (.tableswitch 118 0 6 #[41, 51, 60, 77, 98, 104, 111], 41) := by decide +kernel
theorem dX6_pail_56 : decode cX6_pail 56 = .ok (.aload_n 0, 1) := by decide +kernel
theorem dX6_pail_57 : decode cX6_pail 57 = .ok (.getfield 19, 3) := by decide +kernel
theorem dX6_pail_60 : decode cX6_pail 60 = .ok (.getfield 130, 3) := by decide +kernel
theorem dX6_pail_63 : decode cX6_pail 63 = .ok (.iload_n 1, 1) := by decide +kernel
theorem dX6_pail_64 : decode cX6_pail 64 = .ok (.iaload, 1) := by decide +kernel
theorem dX6_pail_65 : decode cX6_pail 65 = .ok (.ireturn, 1) := by decide +kernel
theorem dX6_pail_66 : decode cX6_pail 66 = .ok (.aload_n 0, 1) := by decide +kernel
theorem dX6_pail_67 : decode cX6_pail 67 = .ok (.getfield 26, 3) := by decide +kernel
theorem dX6_pail_70 : decode cX6_pail 70 = .ok (.iload_n 1, 1) := by decide +kernel
theorem dX6_pail_71 : decode cX6_pail 71 = .ok (.invokevirtual 133, 3) := by decide +kernel
theorem dX6_pail_74 : decode cX6_pail 74 = .ok (.ireturn, 1) := by decide +kernel
theorem dX6_pail_75 : decode cX6_pail 75 = .ok (.aload_n 0, 1) := by decide +kernel
theorem dX6_pail_76 : decode cX6_pail 76 = .ok (.getfield 26, 3) := by decide +kernel
theorem dX6_pail_79 : decode cX6_pail 79 = .ok (.iload_n 1, 1) := by decide +kernel
theorem dX6_pail_80 : decode cX6_pail 80 = .ok (.invokevirtual 137, 3) := by decide +kernel
theorem dX6_pail_83 : decode cX6_pail 83 = .ok (.ifCond .eq 7, 3) := by decide +kernel
theorem dX6_pail_86 : decode cX6_pail 86 = .ok (.iconst 1, 1) := by decide +kernel
theorem dX6_pail_87 : decode cX6_pail 87 = .ok (.goto 4, 3) := by decide +kernel
theorem dX6_pail_90 : decode cX6_pail 90 = .ok (.iconst 0, 1) := by decide +kernel
theorem dX6_pail_91 : decode cX6_pail 91 = .ok (.ireturn, 1) := by decide +kernel
theorem dX6_pail_92 : decode cX6_pail 92 = .ok (.aload_n 0, 1) := by decide +kernel
theorem dX6_pail_93 : decode cX6_pail 93 = .ok (.getfield 19, 3) := by decide +kernel
theorem dX6_pail_96 : decode cX6_pail 96 = .ok (.aload_n 0, 1) := by decide +kernel
theorem dX6_pail_97 : decode cX6_pail 97 = .ok (.getfield 26, 3) := by decide +kernel
theorem dX6_pail_100 : decode cX6_pail 100 = .ok (.iload_n 1, 1) := by decide +kernel
theorem dX6_pail_101 : decode cX6_pail 101 = .ok (.invokevirtual 140, 3) := by decide +kernel
theorem dX6_pail_104 : decode cX6_pail 104 = .ok (.ifCond .eq 7, 3) := by decide +kernel
theorem dX6_pail_107 : decode cX6_pail 107 = .ok (.iconst 1, 1) := by decide +kernel
theorem dX6_pail_108 : decode cX6_pail 108 = .ok (.goto 4, 3) := by decide +kernel
theorem dX6_pail_111 : decode cX6_pail 111 = .ok (.iconst 0, 1) := by decide +kernel
theorem dX6_pail_112 : decode cX6_pail 112 = .ok (.ireturn, 1) := by decide +kernel
theorem dX6_pail_113 : decode cX6_pail 113 = .ok (.aload_n 0, 1) := by decide +kernel
theorem dX6_pail_114 : decode cX6_pail 114 = .ok (.iload_n 1, 1) := by decide +kernel
theorem dX6_pail_115 : decode cX6_pail 115 = .ok (.invokevirtual 144, 3) := by decide +kernel
theorem dX6_pail_118 : decode cX6_pail 118 = .ok (.ireturn, 1) := by decide +kernel
theorem dX6_pail_119 : decode cX6_pail 119 = .ok (.aload_n 0, 1) := by decide +kernel
theorem dX6_pail_120 : decode cX6_pail 120 = .ok (.iload_n 1, 1) := by decide +kernel
theorem dX6_pail_121 : decode cX6_pail 121 = .ok (.iconst 1, 1) := by decide +kernel
theorem dX6_pail_122 : decode cX6_pail 122 = .ok (.invokevirtual 147, 3) := by decide +kernel
theorem dX6_pail_125 : decode cX6_pail 125 = .ok (.ireturn, 1) := by decide +kernel
theorem dX6_pail_126 : decode cX6_pail 126 = .ok (.aload_n 0, 1) := by decide +kernel
theorem dX6_pail_127 : decode cX6_pail 127 = .ok (.iload_n 1, 1) := by decide +kernel
theorem dX6_pail_128 : decode cX6_pail 128 = .ok (.iconst 0, 1) := by decide +kernel
theorem dX6_pail_129 : decode cX6_pail 129 = .ok (.invokevirtual 147, 3) := by decide +kernel
theorem dX6_pail_132 : decode cX6_pail 132 = .ok (.ireturn, 1) := by decide +kernel
theorem dX6_pail_133 : decode cX6_pail 133 = .ok (.bipush (-102), 2) := by decide +kernel
theorem dX6_pail_135 : decode cX6_pail 135 = .ok (.ireturn, 1) := by decide +kernel
theorem dX6_slight_0 : decode cX6_slight 0 = .ok (.aload_n 0, 1) := by decide +kernel
theorem dX6_slight_1 : decode cX6_slight 1 = .ok (.getfield 19, 3) := by decide +kernel
theorem dX6_slight_4 : decode cX6_slight 4 = .ok (.iload_n 1, 1) := by decide +kernel
theorem dX6_slight_5 : decode cX6_slight 5 = .ok (.invokevirtual 75, 3) := by decide +kernel
theorem dX6_slight_8 : decode cX6_slight 8 = .ok (.ifCond .ne 6, 3) := by decide +kernel
theorem dX6_slight_11 : decode cX6_slight 11 = .ok (.bipush (-101), 2) := by decide +kernel
theorem dX6_slight_13 : decode cX6_slight 13 = .ok (.ireturn, 1) := by decide +kernel
theorem dX6_slight_14 : decode cX6_slight 14 = .ok (.iload_n 2, 1) := by decide +kernel
theorem dX6_slight_15 : decode cX6_slight 15 = .ok (.invokestatic 151, 3) := by decide +kernel
theorem dX6_slight_18 : decode cX6_slight 18 = .ok (.ifCond .ne 6, 3) := by decide +kernel
theorem dX6_slight_21 : decode cX6_slight 21 = .ok (.bipush (-102), 2) := by decide +kernel
theorem dX6_slight_23 : decode cX6_slight 23 = .ok (.ireturn, 1) := by decide +kernel
theorem dX6_slight_24 : decode cX6_slight 24 = .ok (.aload_n 0, 1) := by decide +kernel
theorem dX6_slight_25 : decode cX6_slight 25 = .ok (.getfield 19, 3) := by decide +kernel
theorem dX6_slight_28 : decode cX6_slight 28 = .ok (.aload_n 0, 1) := by decide +kernel
theorem dX6_slight_29 : decode cX6_slight 29 = .ok (.getfield 26, 3) := by decide +kernel
theorem dX6_slight_32 : decode cX6_slight 32 = .ok (.iload_n 1, 1) := by decide +kernel
theorem dX6_slight_33 : decode cX6_slight 33 = .ok (.iconst 3, 1) := by decide +kernel
theorem dX6_slight_34 : decode cX6_slight 34 = .ok (.imul, 1) := by decide +kernel
theorem dX6_slight_35 : decode cX6_slight 35 = .ok (.iload_n 2, 1) := by decide +kernel
theorem dX6_slight_36 : decode cX6_slight 36 = .ok (.iadd, 1) := by decide +kernel
theorem dX6_slight_37 : decode cX6_slight 37 = .ok (.invokevirtual 154, 3) := by decide +kernel
theorem dX6_slight_40 : decode cX6_slight 40 = .ok (.aload_n 0, 1) := by decide +kernel
theorem dX6_slight_41 : decode cX6_slight 41 = .ok (.getfield 26, 3) := by decide +kernel
theorem dX6_slight_44 : decode cX6_slight 44 = .ok (.getfield 99, 3) := by decide +kernel
theorem dX6_slight_47 : decode cX6_slight 47 = .ok (.iload_n 1, 1) := by decide +kernel
theorem dX6_slight_48 : decode cX6_slight 48 = .ok (.dup2, 1) := by decide +kernel
theorem dX6_slight_49 : decode cX6_slight 49 = .ok (.iaload, 1) := by decide +kernel
theorem dX6_slight_50 : decode cX6_slight 50 = .ok (.iconst 1, 1) := by decide +kernel
theorem dX6_slight_51 : decode cX6_slight 51 = .ok (.iadd, 1) := by decide +kernel
theorem dX6_slight_52 : decode cX6_slight 52 = .ok (.iastore, 1) := by decide +kernel
theorem dX6_slight_53 : decode cX6_slight 53 = .ok (.aload_n 0, 1) := by decide +kernel
theorem dX6_slight_54 : decode cX6_slight 54 = .ok (.getfield 26, 3) := by decide +kernel
theorem dX6_slight_57 : decode cX6_slight 57 = .ok (.getfield 96, 3) := by decide +kernel
theorem dX6_slight_60 : decode cX6_slight 60 = .ok (.iload_n 1, 1) := by decide +kernel
theorem dX6_slight_61 : decode cX6_slight 61 = .ok (.iaload, 1) := by decide +kernel
theorem dX6_slight_62 : decode cX6_slight 62 = .ok (.ireturn, 1) := by decide +kernel
theorem dX6_soothe_0 : decode cX6_soothe 0 = .ok (.aload_n 0, 1) := by decide +kernel
theorem dX6_soothe_1 : decode cX6_soothe 1 = .ok (.getfield 19, 3) := by decide +kernel
theorem dX6_soothe_4 : decode cX6_soothe 4 = .ok (.iload_n 1, 1) := by decide +kernel
theorem dX6_soothe_5 : decode cX6_soothe 5 = .ok (.invokevirtual 75, 3) := by decide +kernel
theorem dX6_soothe_8 : decode cX6_soothe 8 = .ok (.ifCond .ne 6, 3) := by decide +kernel
theorem dX6_soothe_11 : decode cX6_soothe 11 = .ok (.bipush (-101), 2) := by decide +kernel
theorem dX6_soothe_13 : decode cX6_soothe 13 = .ok (.ireturn, 1) := by decide +kernel
theorem dX6_soothe_14 : decode cX6_soothe 14 = .ok (.aload_n 0, 1) := by decide +kernel
theorem dX6_soothe_15 : decode cX6_soothe 15 = .ok (.getfield 26, 3) := by decide +kernel
theorem dX6_soothe_18 : decode cX6_soothe 18 = .ok (.getfield 96, 3) := by decide +kernel
theorem dX6_soothe_21 : decode cX6_soothe 21 = .ok (.iload_n 1, 1) := by decide +kernel
theorem dX6_soothe_22 : decode cX6_soothe 22 = .ok (.iaload, 1) := by decide +kernel
theorem dX6_soothe_23 : decode cX6_soothe 23 = .ok (.istore_n 2, 1) := by decide +kernel
theorem dX6_soothe_24 : decode cX6_soothe 24 = .ok (.aload_n 0, 1) := by decide +kernel
theorem dX6_soothe_25 : decode cX6_soothe 25 = .ok (.getfield 26, 3) := by decide +kernel
theorem dX6_soothe_28 : decode cX6_soothe 28 = .ok (.getfield 96, 3) := by decide +kernel
theorem dX6_soothe_31 : decode cX6_soothe 31 = .ok (.iload_n 1, 1) := by decide +kernel
theorem dX6_soothe_32 : decode cX6_soothe 32 = .ok (.iconst 0, 1) := by decide +kernel
theorem dX6_soothe_33 : decode cX6_soothe 33 = .ok (.iastore, 1) := by decide +kernel
theorem dX6_soothe_34 : decode cX6_soothe 34 = .ok (.iload_n 2, 1) := by decide +kernel
theorem dX6_soothe_35 : decode cX6_soothe 35 = .ok (.ireturn, 1) := by decide +kernel
theorem dX6_sit_0 : decode cX6_sit 0 = .ok (.aload_n 0, 1) := by decide +kernel
theorem dX6_sit_1 : decode cX6_sit 1 = .ok (.getfield 19, 3) := by decide +kernel
theorem dX6_sit_4 : decode cX6_sit 4 = .ok (.iload_n 1, 1) := by decide +kernel
theorem dX6_sit_5 : decode cX6_sit 5 = .ok (.invokevirtual 75, 3) := by decide +kernel
theorem dX6_sit_8 : decode cX6_sit 8 = .ok (.ifCond .eq 10, 3) := by decide +kernel
theorem dX6_sit_11 : decode cX6_sit 11 = .ok (.iload_n 2, 1) := by decide +kernel
theorem dX6_sit_12 : decode cX6_sit 12 = .ok (.invokestatic 158, 3) := by decide +kernel
theorem dX6_sit_15 : decode cX6_sit 15 = .ok (.ifCond .ne 6, 3) := by decide +kernel
theorem dX6_sit_18 : decode cX6_sit 18 = .ok (.bipush (-101), 2) := by decide +kernel
theorem dX6_sit_20 : decode cX6_sit 20 = .ok (.ireturn, 1) := by decide +kernel
theorem dX6_sit_21 : decode cX6_sit 21 = .ok (.aload_n 0, 1) := by decide +kernel
theorem dX6_sit_22 : decode cX6_sit 22 = .ok (.getfield 26, 3) := by decide +kernel
theorem dX6_sit_25 : decode cX6_sit 25 = .ok (.getfield 93, 3) := by decide +kernel
theorem dX6_sit_28 : decode cX6_sit 28 = .ok (.iload_n 1, 1) := by decide +kernel
theorem dX6_sit_29 : decode cX6_sit 29 = .ok (.iaload, 1) := by decide +kernel
theorem dX6_sit_30 : decode cX6_sit 30 = .ok (.istore_n 3, 1) := by decide +kernel
theorem dX6_sit_31 : decode cX6_sit 31 = .ok (.aload_n 0, 1) := by decide +kernel
theorem dX6_sit_32 : decode cX6_sit 32 = .ok (.getfield 26, 3) := by decide +kernel
theorem dX6_sit_35 : decode cX6_sit 35 = .ok (.getfield 93, 3) := by decide +kernel
theorem dX6_sit_38 : decode cX6_sit 38 = .ok (.iload_n 1, 1) := by decide +kernel
theorem dX6_sit_39 : decode cX6_sit 39 = .ok (.iload_n 2, 1) := by decide +kernel
theorem dX6_sit_40 : decode cX6_sit 40 = .ok (.iastore, 1) := by decide +kernel
theorem dX6_sit_41 : decode cX6_sit 41 = .ok (.iload_n 3, 1) := by decide +kernel
theorem dX6_sit_42 : decode cX6_sit 42 = .ok (.ireturn, 1) := by decide +kernel
theorem dX6_night_0 : decode cX6_night 0 = .ok (.aload_n 0, 1) := by decide +kernel
theorem dX6_night_1 : decode cX6_night 1 = .ok (.getfield 19, 3) := by decide +kernel
theorem dX6_night_4 : decode cX6_night 4 = .ok (.invokevirtual 161, 3) := by decide +kernel
theorem dX6_night_7 : decode cX6_night 7 = .ok (.ifCond .ne 6, 3) := by decide +kernel
theorem dX6_night_10 : decode cX6_night 10 = .ok (.bipush (-103), 2) := by decide +kernel
theorem dX6_night_12 : decode cX6_night 12 = .ok (.ireturn, 1) := by decide +kernel
theorem dX6_night_13 : decode cX6_night 13 = .ok (.aload_n 0, 1) := by decide +kernel
theorem dX6_night_14 : decode cX6_night 14 = .ok (.getfield 26, 3) := by decide +kernel
theorem dX6_night_17 : decode cX6_night 17 = .ok (.getfield 164, 3) := by decide +kernel
theorem dX6_night_20 : decode cX6_night 20 = .ok (.bipush 99, 2) := by decide +kernel
theorem dX6_night_22 : decode cX6_night 22 = .ok (.if_icmp .lt 6, 3) := by decide +kernel
theorem dX6_night_25 : decode cX6_night 25 = .ok (.bipush (-104), 2) := by decide +kernel
theorem dX6_night_27 : decode cX6_night 27 = .ok (.ireturn, 1) := by decide +kernel
theorem dX6_night_28 : decode cX6_night 28 = .ok (.aload_n 0, 1) := by decide +kernel
theorem dX6_night_29 : decode cX6_night 29 = .ok (.getfield 19, 3) := by decide +kernel
theorem dX6_night_32 : decode cX6_night 32 = .ok (.aload_n 0, 1) := by decide +kernel
theorem dX6_night_33 : decode cX6_night 33 = .ok (.getfield 26, 3) := by decide +kernel
theorem dX6_night_36 : decode cX6_night 36 = .ok (.invokevirtual 167, 3) := by decide +kernel
theorem dX6_night_39 : decode cX6_night 39 = .ok (.aload_n 0, 1) := by decide +kernel
theorem dX6_night_40 : decode cX6_night 40 = .ok (.getfield 26, 3) := by decide +kernel
theorem dX6_night_43 : decode cX6_night 43 = .ok (.dup, 1) := by decide +kernel
theorem dX6_night_44 : decode cX6_night 44 = .ok (.getfield 164, 3) := by decide +kernel
theorem dX6_night_47 : decode cX6_night 47 = .ok (.iconst 1, 1) := by decide +kernel
theorem dX6_night_48 : decode cX6_night 48 = .ok (.iadd, 1) := by decide +kernel
theorem dX6_night_49 : decode cX6_night 49 = .ok (.putfield 164, 3) := by decide +kernel
theorem dX6_night_52 : decode cX6_night 52 = .ok (.aload_n 0, 1) := by decide +kernel
theorem dX6_night_53 : decode cX6_night 53 = .ok (.getfield 26, 3) := by decide +kernel
theorem dX6_night_56 : decode cX6_night 56 = .ok (.getfield 164, 3) := by decide +kernel
theorem dX6_night_59 : decode cX6_night 59 = .ok (.ireturn, 1) := by decide +kernel
theorem dX6_curdle_0 : decode cX6_curdle 0 = .ok (.aload_n 0, 1) := by decide +kernel
theorem dX6_curdle_1 : decode cX6_curdle 1 = .ok (.getfield 19, 3) := by decide +kernel
theorem dX6_curdle_4 : decode cX6_curdle 4 = .ok (.invokevirtual 161, 3) := by decide +kernel
theorem dX6_curdle_7 : decode cX6_curdle 7 = .ok (.ifCond .ne 6, 3) := by decide +kernel
theorem dX6_curdle_10 : decode cX6_curdle 10 = .ok (.bipush (-103), 2) := by decide +kernel
theorem dX6_curdle_12 : decode cX6_curdle 12 = .ok (.ireturn, 1) := by decide +kernel
theorem dX6_curdle_13 : decode cX6_curdle 13 = .ok (.aload_n 0, 1) := by decide +kernel
theorem dX6_curdle_14 : decode cX6_curdle 14 = .ok (.getfield 19, 3) := by decide +kernel
theorem dX6_curdle_17 : decode cX6_curdle 17 = .ok (.aload_n 0, 1) := by decide +kernel
theorem dX6_curdle_18 : decode cX6_curdle 18 = .ok (.getfield 26, 3) := by decide +kernel
theorem dX6_curdle_21 : decode cX6_curdle 21 = .ok (.invokevirtual 171, 3) := by decide +kernel
theorem dX6_curdle_24 : decode cX6_curdle 24 = .ok (.aload_n 0, 1) := by decide +kernel
theorem dX6_curdle_25 : decode cX6_curdle 25 = .ok (.getfield 26, 3) := by decide +kernel
theorem dX6_curdle_28 : decode cX6_curdle 28 = .ok (.getfield 175, 3) := by decide +kernel
theorem dX6_curdle_31 : decode cX6_curdle 31 = .ok (.iconst (-1), 1) := by decide +kernel
theorem dX6_curdle_32 : decode cX6_curdle 32 = .ok (.ixor, 1) := by decide +kernel
theorem dX6_curdle_33 : decode cX6_curdle 33 = .ok (.iand, 1) := by decide +kernel
theorem dX6_curdle_34 : decode cX6_curdle 34 = .ok (.istore_n 1, 1) := by decide +kernel
theorem dX6_curdle_35 : decode cX6_curdle 35 = .ok (.iload_n 1, 1) := by decide +kernel
theorem dX6_curdle_36 : decode cX6_curdle 36 = .ok (.invokestatic 178, 3) := by decide +kernel
theorem dX6_curdle_39 : decode cX6_curdle 39 = .ok (.istore_n 2, 1) := by decide +kernel
theorem dX6_curdle_40 : decode cX6_curdle 40 = .ok (.aload_n 0, 1) := by decide +kernel
theorem dX6_curdle_41 : decode cX6_curdle 41 = .ok (.getfield 26, 3) := by decide +kernel
theorem dX6_curdle_44 : decode cX6_curdle 44 = .ok (.dup, 1) := by decide +kernel
theorem dX6_curdle_45 : decode cX6_curdle 45 = .ok (.getfield 175, 3) := by decide +kernel
theorem dX6_curdle_48 : decode cX6_curdle 48 = .ok (.iload_n 1, 1) := by decide +kernel
theorem dX6_curdle_49 : decode cX6_curdle 49 = .ok (.ior, 1) := by decide +kernel
theorem dX6_curdle_50 : decode cX6_curdle 50 = .ok (.putfield 175, 3) := by decide +kernel
theorem dX6_curdle_53 : decode cX6_curdle 53 = .ok (.aload_n 0, 1) := by decide +kernel
theorem dX6_curdle_54 : decode cX6_curdle 54 = .ok (.getfield 26, 3) := by decide +kernel
theorem dX6_curdle_57 : decode cX6_curdle 57 = .ok (.dup, 1) := by decide +kernel
theorem dX6_curdle_58 : decode cX6_curdle 58 = .ok (.getfield 183, 3) := by decide +kernel
theorem dX6_curdle_61 : decode cX6_curdle 61 = .ok (.iload_n 2, 1) := by decide +kernel
theorem dX6_curdle_62 : decode cX6_curdle 62 = .ok (.iadd, 1) := by decide +kernel
theorem dX6_curdle_63 : decode cX6_curdle 63 = .ok (.putfield 183, 3) := by decide +kernel
theorem dX6_curdle_66 : decode cX6_curdle 66 = .ok (.aload_n 0, 1) := by decide +kernel
theorem dX6_curdle_67 : decode cX6_curdle 67 = .ok (.getfield 26, 3) := by decide +kernel
theorem dX6_curdle_70 : decode cX6_curdle 70 = .ok (.iconst 0, 1) := by decide +kernel
theorem dX6_curdle_71 : decode cX6_curdle 71 = .ok (.putfield 186, 3) := by decide +kernel
theorem dX6_curdle_74 : decode cX6_curdle 74 = .ok (.iload_n 2, 1) := by decide +kernel
theorem dX6_curdle_75 : decode cX6_curdle 75 = .ok (.ireturn, 1) := by decide +kernel
theorem dX6_fresh_0 : decode cX6_fresh 0 = .ok (.aload_n 0, 1) := by decide +kernel
theorem dX6_fresh_1 : decode cX6_fresh 1 = .ok (.getfield 19, 3) := by decide +kernel
theorem dX6_fresh_4 : decode cX6_fresh 4 = .ok (.iload_n 1, 1) := by decide +kernel
theorem dX6_fresh_5 : decode cX6_fresh 5 = .ok (.invokevirtual 127, 3) := by decide +kernel
theorem dX6_fresh_8 : decode cX6_fresh 8 = .ok (.ifCond .ne 6, 3) := by decide +kernel
theorem dX6_fresh_11 : decode cX6_fresh 11 = .ok (.bipush (-101), 2) := by decide +kernel
theorem dX6_fresh_13 : decode cX6_fresh 13 = .ok (.ireturn, 1) := by decide +kernel
theorem dX6_fresh_14 : decode cX6_fresh 14 = .ok (.aload_n 0, 1) := by decide +kernel
theorem dX6_fresh_15 : decode cX6_fresh 15 = .ok (.getfield 26, 3) := by decide +kernel
theorem dX6_fresh_18 : decode cX6_fresh 18 = .ok (.iload_n 1, 1) := by decide +kernel
theorem dX6_fresh_19 : decode cX6_fresh 19 = .ok (.invokevirtual 137, 3) := by decide +kernel
theorem dX6_fresh_22 : decode cX6_fresh 22 = .ok (.ifCond .eq 7, 3) := by decide +kernel
theorem dX6_fresh_25 : decode cX6_fresh 25 = .ok (.iconst 1, 1) := by decide +kernel
theorem dX6_fresh_26 : decode cX6_fresh 26 = .ok (.goto 4, 3) := by decide +kernel
theorem dX6_fresh_29 : decode cX6_fresh 29 = .ok (.iconst 0, 1) := by decide +kernel
theorem dX6_fresh_30 : decode cX6_fresh 30 = .ok (.istore_n 2, 1) := by decide +kernel
theorem dX6_fresh_31 : decode cX6_fresh 31 = .ok (.aload_n 0, 1) := by decide +kernel
theorem dX6_fresh_32 : decode cX6_fresh 32 = .ok (.getfield 26, 3) := by decide +kernel
theorem dX6_fresh_35 : decode cX6_fresh 35 = .ok (.dup, 1) := by decide +kernel
theorem dX6_fresh_36 : decode cX6_fresh 36 = .ok (.getfield 175, 3) := by decide +kernel
theorem dX6_fresh_39 : decode cX6_fresh 39 = .ok (.iconst 1, 1) := by decide +kernel
theorem dX6_fresh_40 : decode cX6_fresh 40 = .ok (.iload_n 1, 1) := by decide +kernel
theorem dX6_fresh_41 : decode cX6_fresh 41 = .ok (.ishl, 1) := by decide +kernel
theorem dX6_fresh_42 : decode cX6_fresh 42 = .ok (.iconst (-1), 1) := by decide +kernel
theorem dX6_fresh_43 : decode cX6_fresh 43 = .ok (.ixor, 1) := by decide +kernel
theorem dX6_fresh_44 : decode cX6_fresh 44 = .ok (.iand, 1) := by decide +kernel
theorem dX6_fresh_45 : decode cX6_fresh 45 = .ok (.putfield 175, 3) := by decide +kernel
theorem dX6_fresh_48 : decode cX6_fresh 48 = .ok (.iload_n 2, 1) := by decide +kernel
theorem dX6_fresh_49 : decode cX6_fresh 49 = .ok (.ireturn, 1) := by decide +kernel
theorem dX6_force_0 : decode cX6_force 0 = .ok (.aload_n 0, 1) := by decide +kernel
theorem dX6_force_1 : decode cX6_force 1 = .ok (.getfield 19, 3) := by decide +kernel
theorem dX6_force_4 : decode cX6_force 4 = .ok (.invokevirtual 161, 3) := by decide +kernel
theorem dX6_force_7 : decode cX6_force 7 = .ok (.ifCond .eq 10, 3) := by decide +kernel
theorem dX6_force_10 : decode cX6_force 10 = .ok (.iload_n 1, 1) := by decide +kernel
theorem dX6_force_11 : decode cX6_force 11 = .ok (.invokestatic 158, 3) := by decide +kernel
theorem dX6_force_14 : decode cX6_force 14 = .ok (.ifCond .ne 6, 3) := by decide +kernel
theorem dX6_force_17 : decode cX6_force 17 = .ok (.bipush (-101), 2) := by decide +kernel
theorem dX6_force_19 : decode cX6_force 19 = .ok (.ireturn, 1) := by decide +kernel
theorem dX6_force_20 : decode cX6_force 20 = .ok (.aload_n 0, 1) := by decide +kernel
theorem dX6_force_21 : decode cX6_force 21 = .ok (.getfield 26, 3) := by decide +kernel
theorem dX6_force_24 : decode cX6_force 24 = .ok (.iload_n 1, 1) := by decide +kernel
theorem dX6_force_25 : decode cX6_force 25 = .ok (.invokevirtual 133, 3) := by decide +kernel
theorem dX6_force_28 : decode cX6_force 28 = .ok (.ireturn, 1) := by decide +kernel
theorem dX6_keep_0 : decode cX6_keep 0 = .ok (.aload_n 0, 1) := by decide +kernel
theorem dX6_keep_1 : decode cX6_keep 1 = .ok (.iload_n 1, 1) := by decide +kernel
theorem dX6_keep_2 : decode cX6_keep 2 = .ok (.invokevirtual 189, 3) := by decide +kernel
theorem dX6_keep_5 : decode cX6_keep 5 = .ok (.ifCond .eq 14, 3) := by decide +kernel
theorem dX6_keep_8 : decode cX6_keep 8 = .ok (.aload_n 0, 1) := by decide +kernel
theorem dX6_keep_9 : decode cX6_keep 9 = .ok (.getfield 19, 3) := by decide +kernel
theorem dX6_keep_12 : decode cX6_keep 12 = .ok (.iload_n 2, 1) := by decide +kernel
theorem dX6_keep_13 : decode cX6_keep 13 = .ok (.invokevirtual 75, 3) := by decide +kernel
theorem dX6_keep_16 : decode cX6_keep 16 = .ok (.ifCond .ne 6, 3) := by decide +kernel
theorem dX6_keep_19 : decode cX6_keep 19 = .ok (.bipush (-101), 2) := by decide +kernel
theorem dX6_keep_21 : decode cX6_keep 21 = .ok (.ireturn, 1) := by decide +kernel
theorem dX6_keep_22 : decode cX6_keep 22 = .ok (.aload_n 0, 1) := by decide +kernel
theorem dX6_keep_23 : decode cX6_keep 23 = .ok (.getfield 26, 3) := by decide +kernel
theorem dX6_keep_26 : decode cX6_keep 26 = .ok (.getfield 192, 3) := by decide +kernel
theorem dX6_keep_29 : decode cX6_keep 29 = .ok (.iload_n 1, 1) := by decide +kernel
theorem dX6_keep_30 : decode cX6_keep 30 = .ok (.iaload, 1) := by decide +kernel
theorem dX6_keep_31 : decode cX6_keep 31 = .ok (.ifCond .gt 15, 3) := by decide +kernel
theorem dX6_keep_34 : decode cX6_keep 34 = .ok (.aload_n 0, 1) := by decide +kernel
theorem dX6_keep_35 : decode cX6_keep 35 = .ok (.getfield 26, 3) := by decide +kernel
theorem dX6_keep_38 : decode cX6_keep 38 = .ok (.getfield 96, 3) := by decide +kernel
theorem dX6_keep_41 : decode cX6_keep 41 = .ok (.iload_n 2, 1) := by decide +kernel
theorem dX6_keep_42 : decode cX6_keep 42 = .ok (.iaload, 1) := by decide +kernel
theorem dX6_keep_43 : decode cX6_keep 43 = .ok (.ifCond .ne 6, 3) := by decide +kernel
theorem dX6_keep_46 : decode cX6_keep 46 = .ok (.bipush (-103), 2) := by decide +kernel
theorem dX6_keep_48 : decode cX6_keep 48 = .ok (.ireturn, 1) := by decide +kernel
theorem dX6_keep_49 : decode cX6_keep 49 = .ok (.aload_n 0, 1) := by decide +kernel
theorem dX6_keep_50 : decode cX6_keep 50 = .ok (.getfield 26, 3) := by decide +kernel
theorem dX6_keep_53 : decode cX6_keep 53 = .ok (.getfield 192, 3) := by decide +kernel
theorem dX6_keep_56 : decode cX6_keep 56 = .ok (.iload_n 1, 1) := by decide +kernel
theorem dX6_keep_57 : decode cX6_keep 57 = .ok (.aload_n 0, 1) := by decide +kernel
theorem dX6_keep_58 : decode cX6_keep 58 = .ok (.getfield 26, 3) := by decide +kernel
theorem dX6_keep_61 : decode cX6_keep 61 = .ok (.getfield 96, 3) := by decide +kernel
theorem dX6_keep_64 : decode cX6_keep 64 = .ok (.iload_n 2, 1) := by decide +kernel
theorem dX6_keep_65 : decode cX6_keep 65 = .ok (.iaload, 1) := by decide +kernel
theorem dX6_keep_66 : decode cX6_keep 66 = .ok (.iastore, 1) := by decide +kernel
theorem dX6_keep_67 : decode cX6_keep 67 = .ok (.aload_n 0, 1) := by decide +kernel
theorem dX6_keep_68 : decode cX6_keep 68 = .ok (.getfield 26, 3) := by decide +kernel
theorem dX6_keep_71 : decode cX6_keep 71 = .ok (.getfield 96, 3) := by decide +kernel
theorem dX6_keep_74 : decode cX6_keep 74 = .ok (.iload_n 2, 1) := by decide +kernel
theorem dX6_keep_75 : decode cX6_keep 75 = .ok (.iconst 0, 1) := by decide +kernel
theorem dX6_keep_76 : decode cX6_keep 76 = .ok (.iastore, 1) := by decide +kernel
theorem dX6_keep_77 : decode cX6_keep 77 = .ok (.aload_n 0, 1) := by decide +kernel
theorem dX6_keep_78 : decode cX6_keep 78 = .ok (.getfield 26, 3) := by decide +kernel
theorem dX6_keep_81 : decode cX6_keep 81 = .ok (.getfield 192, 3) := by decide +kernel
theorem dX6_keep_84 : decode cX6_keep 84 = .ok (.iload_n 1, 1) := by decide +kernel
theorem dX6_keep_85 : decode cX6_keep 85 = .ok (.iaload, 1) := by decide +kernel
theorem dX6_keep_86 : decode cX6_keep 86 = .ok (.ireturn, 1) := by decide +kernel
theorem dX6_pour_0 : decode cX6_pour 0 = .ok (.aload_n 0, 1) := by decide +kernel
theorem dX6_pour_1 : decode cX6_pour 1 = .ok (.iload_n 1, 1) := by decide +kernel
theorem dX6_pour_2 : decode cX6_pour 2 = .ok (.invokevirtual 189, 3) := by decide +kernel
theorem dX6_pour_5 : decode cX6_pour 5 = .ok (.ifCond .eq 10, 3) := by decide +kernel
theorem dX6_pour_8 : decode cX6_pour 8 = .ok (.iload_n 2, 1) := by decide +kernel
theorem dX6_pour_9 : decode cX6_pour 9 = .ok (.invokestatic 158, 3) := by decide +kernel
theorem dX6_pour_12 : decode cX6_pour 12 = .ok (.ifCond .ne 6, 3) := by decide +kernel
theorem dX6_pour_15 : decode cX6_pour 15 = .ok (.bipush (-101), 2) := by decide +kernel
theorem dX6_pour_17 : decode cX6_pour 17 = .ok (.ireturn, 1) := by decide +kernel
theorem dX6_pour_18 : decode cX6_pour 18 = .ok (.aload_n 0, 1) := by decide +kernel
theorem dX6_pour_19 : decode cX6_pour 19 = .ok (.getfield 26, 3) := by decide +kernel
theorem dX6_pour_22 : decode cX6_pour 22 = .ok (.getfield 192, 3) := by decide +kernel
theorem dX6_pour_25 : decode cX6_pour 25 = .ok (.iload_n 1, 1) := by decide +kernel
theorem dX6_pour_26 : decode cX6_pour 26 = .ok (.iaload, 1) := by decide +kernel
theorem dX6_pour_27 : decode cX6_pour 27 = .ok (.ifCond .ne 6, 3) := by decide +kernel
theorem dX6_pour_30 : decode cX6_pour 30 = .ok (.bipush (-103), 2) := by decide +kernel
theorem dX6_pour_32 : decode cX6_pour 32 = .ok (.ireturn, 1) := by decide +kernel
theorem dX6_pour_33 : decode cX6_pour 33 = .ok (.aload_n 0, 1) := by decide +kernel
theorem dX6_pour_34 : decode cX6_pour 34 = .ok (.getfield 26, 3) := by decide +kernel
theorem dX6_pour_37 : decode cX6_pour 37 = .ok (.getfield 186, 3) := by decide +kernel
theorem dX6_pour_40 : decode cX6_pour 40 = .ok (.iconst 4, 1) := by decide +kernel
theorem dX6_pour_41 : decode cX6_pour 41 = .ok (.if_icmp .lt 6, 3) := by decide +kernel
theorem dX6_pour_44 : decode cX6_pour 44 = .ok (.bipush (-104), 2) := by decide +kernel
theorem dX6_pour_46 : decode cX6_pour 46 = .ok (.ireturn, 1) := by decide +kernel
theorem dX6_pour_47 : decode cX6_pour 47 = .ok (.aload_n 0, 1) := by decide +kernel
theorem dX6_pour_48 : decode cX6_pour 48 = .ok (.getfield 26, 3) := by decide +kernel
theorem dX6_pour_51 : decode cX6_pour 51 = .ok (.getfield 192, 3) := by decide +kernel
theorem dX6_pour_54 : decode cX6_pour 54 = .ok (.iload_n 1, 1) := by decide +kernel
theorem dX6_pour_55 : decode cX6_pour 55 = .ok (.iaload, 1) := by decide +kernel
theorem dX6_pour_56 : decode cX6_pour 56 = .ok (.istore_n 3, 1) := by decide +kernel
theorem dX6_pour_57 : decode cX6_pour 57 = .ok (.aload_n 0, 1) := by decide +kernel
theorem dX6_pour_58 : decode cX6_pour 58 = .ok (.getfield 26, 3) := by decide +kernel
theorem dX6_pour_61 : decode cX6_pour 61 = .ok (.iload_n 3, 1) := by decide +kernel
theorem dX6_pour_62 : decode cX6_pour 62 = .ok (.iload_n 2, 1) := by decide +kernel
theorem dX6_pour_63 : decode cX6_pour 63 = .ok (.invokevirtual 195, 3) := by decide +kernel
theorem dX6_pour_66 : decode cX6_pour 66 = .ok (.aload_n 0, 1) := by decide +kernel
theorem dX6_pour_67 : decode cX6_pour 67 = .ok (.getfield 26, 3) := by decide +kernel
theorem dX6_pour_70 : decode cX6_pour 70 = .ok (.getfield 192, 3) := by decide +kernel
theorem dX6_pour_73 : decode cX6_pour 73 = .ok (.iload_n 1, 1) := by decide +kernel
theorem dX6_pour_74 : decode cX6_pour 74 = .ok (.iconst 0, 1) := by decide +kernel
theorem dX6_pour_75 : decode cX6_pour 75 = .ok (.iastore, 1) := by decide +kernel
theorem dX6_pour_76 : decode cX6_pour 76 = .ok (.iload_n 3, 1) := by decide +kernel
theorem dX6_pour_77 : decode cX6_pour 77 = .ok (.ireturn, 1) := by decide +kernel
theorem dX6_bottle_0 : decode cX6_bottle 0 = .ok (.aload_n 0, 1) := by decide +kernel
theorem dX6_bottle_1 : decode cX6_bottle 1 = .ok (.iload_n 1, 1) := by decide +kernel
theorem dX6_bottle_2 : decode cX6_bottle 2 = .ok (.invokevirtual 189, 3) := by decide +kernel
theorem dX6_bottle_5 : decode cX6_bottle 5 = .ok (.ifCond .eq 15, 3) := by decide +kernel
theorem dX6_bottle_8 : decode cX6_bottle 8 = .ok (.aload_n 0, 1) := by decide +kernel
theorem dX6_bottle_9 : decode cX6_bottle 9 = .ok (.getfield 26, 3) := by decide +kernel
theorem dX6_bottle_12 : decode cX6_bottle 12 = .ok (.getfield 192, 3) := by decide +kernel
theorem dX6_bottle_15 : decode cX6_bottle 15 = .ok (.iload_n 1, 1) := by decide +kernel
theorem dX6_bottle_16 : decode cX6_bottle 16 = .ok (.iaload, 1) := by decide +kernel
theorem dX6_bottle_17 : decode cX6_bottle 17 = .ok (.goto 5, 3) := by decide +kernel
theorem dX6_bottle_20 : decode cX6_bottle 20 = .ok (.bipush (-101), 2) := by decide +kernel
theorem dX6_bottle_22 : decode cX6_bottle 22 = .ok (.ireturn, 1) := by decide +kernel
theorem dX6_would_0 : decode cX6_would 0 = .ok (.aload_n 0, 1) := by decide +kernel
theorem dX6_would_1 : decode cX6_would 1 = .ok (.getfield 19, 3) := by decide +kernel
theorem dX6_would_4 : decode cX6_would 4 = .ok (.invokevirtual 161, 3) := by decide +kernel
theorem dX6_would_7 : decode cX6_would 7 = .ok (.ifCond .eq 17, 3) := by decide +kernel
theorem dX6_would_10 : decode cX6_would 10 = .ok (.aload_n 0, 1) := by decide +kernel
theorem dX6_would_11 : decode cX6_would 11 = .ok (.getfield 19, 3) := by decide +kernel
theorem dX6_would_14 : decode cX6_would 14 = .ok (.aload_n 0, 1) := by decide +kernel
theorem dX6_would_15 : decode cX6_would 15 = .ok (.getfield 26, 3) := by decide +kernel
theorem dX6_would_18 : decode cX6_would 18 = .ok (.invokevirtual 171, 3) := by decide +kernel
theorem dX6_would_21 : decode cX6_would 21 = .ok (.goto 5, 3) := by decide +kernel
theorem dX6_would_24 : decode cX6_would 24 = .ok (.bipush (-103), 2) := by decide +kernel
theorem dX6_would_26 : decode cX6_would 26 = .ok (.ireturn, 1) := by decide +kernel
theorem dX6_few_0 : decode cX6_few 0 = .ok (.iload_n 1, 1) := by decide +kernel
theorem dX6_few_1 : decode cX6_few 1 = .ok (.ifCond .eq 21, 3) := by decide +kernel
theorem dX6_few_4 : decode cX6_few 4 = .ok (.aload_n 0, 1) := by decide +kernel
theorem dX6_few_5 : decode cX6_few 5 = .ok (.getfield 19, 3) := by decide +kernel
theorem dX6_few_8 : decode cX6_few 8 = .ok (.iload_n 1, 1) := by decide +kernel
theorem dX6_few_9 : decode cX6_few 9 = .ok (.invokevirtual 199, 3) := by decide +kernel
theorem dX6_few_12 : decode cX6_few 12 = .ok (.ifCond .eq 10, 3) := by decide +kernel
theorem dX6_few_15 : decode cX6_few 15 = .ok (.iload_n 2, 1) := by decide +kernel
theorem dX6_few_16 : decode cX6_few 16 = .ok (.invokestatic 202, 3) := by decide +kernel
theorem dX6_few_19 : decode cX6_few 19 = .ok (.ifCond .ne 6, 3) := by decide +kernel
theorem dX6_few_22 : decode cX6_few 22 = .ok (.bipush (-102), 2) := by decide +kernel
theorem dX6_few_24 : decode cX6_few 24 = .ok (.ireturn, 1) := by decide +kernel
theorem dX6_few_25 : decode cX6_few 25 = .ok (.aload_n 0, 1) := by decide +kernel
theorem dX6_few_26 : decode cX6_few 26 = .ok (.getfield 205, 3) := by decide +kernel
theorem dX6_few_29 : decode cX6_few 29 = .ok (.bipush 30, 2) := by decide +kernel
theorem dX6_few_31 : decode cX6_few 31 = .ok (.if_icmp .lt 6, 3) := by decide +kernel
theorem dX6_few_34 : decode cX6_few 34 = .ok (.bipush (-103), 2) := by decide +kernel
theorem dX6_few_36 : decode cX6_few 36 = .ok (.ireturn, 1) := by decide +kernel
theorem dX6_few_37 : decode cX6_few 37 = .ok (.aload_n 0, 1) := by decide +kernel
theorem dX6_few_38 : decode cX6_few 38 = .ok (.dup, 1) := by decide +kernel
theorem dX6_few_39 : decode cX6_few 39 = .ok (.getfield 205, 3) := by decide +kernel
theorem dX6_few_42 : decode cX6_few 42 = .ok (.iconst 1, 1) := by decide +kernel
theorem dX6_few_43 : decode cX6_few 43 = .ok (.iadd, 1) := by decide +kernel
theorem dX6_few_44 : decode cX6_few 44 = .ok (.putfield 205, 3) := by decide +kernel
theorem dX6_few_47 : decode cX6_few 47 = .ok (.aload_n 0, 1) := by decide +kernel
theorem dX6_few_48 : decode cX6_few 48 = .ok (.getfield 36, 3) := by decide +kernel
theorem dX6_few_51 : decode cX6_few 51 = .ok (.aload_n 0, 1) := by decide +kernel
theorem dX6_few_52 : decode cX6_few 52 = .ok (.getfield 19, 3) := by decide +kernel
theorem dX6_few_55 : decode cX6_few 55 = .ok (.aload_n 0, 1) := by decide +kernel
theorem dX6_few_56 : decode cX6_few 56 = .ok (.getfield 26, 3) := by decide +kernel
theorem dX6_few_59 : decode cX6_few 59 = .ok (.iload_n 1, 1) := by decide +kernel
theorem dX6_few_60 : decode cX6_few 60 = .ok (.invokevirtual 208, 3) := by decide +kernel
theorem dX6_few_63 : decode cX6_few 63 = .ok (.aload_n 0, 1) := by decide +kernel
theorem dX6_few_64 : decode cX6_few 64 = .ok (.getfield 36, 3) := by decide +kernel
theorem dX6_few_67 : decode cX6_few 67 = .ok (.iload_n 2, 1) := by decide +kernel
theorem dX6_few_68 : decode cX6_few 68 = .ok (.aload_n 0, 1) := by decide +kernel
theorem dX6_few_69 : decode cX6_few 69 = .ok (.getfield 36, 3) := by decide +kernel
theorem dX6_few_72 : decode cX6_few 72 = .ok (.getfield 106, 3) := by decide +kernel
theorem dX6_few_75 : decode cX6_few 75 = .ok (.invokevirtual 212, 3) := by decide +kernel
theorem dX6_few_78 : decode cX6_few 78 = .ok (.ireturn, 1) := by decide +kernel
theorem dX6_week_0 : decode cX6_week 0 = .ok (.iload_n 1, 1) := by decide +kernel
theorem dX6_week_1 : decode cX6_week 1 = .ok (.iconst 1, 1) := by decide +kernel
theorem dX6_week_2 : decode cX6_week 2 = .ok (.if_icmp .lt 15, 3) := by decide +kernel
theorem dX6_week_5 : decode cX6_week 5 = .ok (.iload_n 1, 1) := by decide +kernel
theorem dX6_week_6 : decode cX6_week 6 = .ok (.iconst 3, 1) := by decide +kernel
theorem dX6_week_7 : decode cX6_week 7 = .ok (.if_icmp .gt 10, 3) := by decide +kernel
theorem dX6_week_10 : decode cX6_week 10 = .ok (.iload_n 2, 1) := by decide +kernel
theorem dX6_week_11 : decode cX6_week 11 = .ok (.invokestatic 202, 3) := by decide +kernel
theorem dX6_week_14 : decode cX6_week 14 = .ok (.ifCond .ne 6, 3) := by decide +kernel
theorem dX6_week_17 : decode cX6_week 17 = .ok (.bipush (-102), 2) := by decide +kernel
theorem dX6_week_19 : decode cX6_week 19 = .ok (.ireturn, 1) := by decide +kernel
theorem dX6_week_20 : decode cX6_week 20 = .ok (.aload_n 0, 1) := by decide +kernel
theorem dX6_week_21 : decode cX6_week 21 = .ok (.getfield 19, 3) := by decide +kernel
theorem dX6_week_24 : decode cX6_week 24 = .ok (.invokevirtual 161, 3) := by decide +kernel
theorem dX6_week_27 : decode cX6_week 27 = .ok (.ifCond .eq 12, 3) := by decide +kernel
theorem dX6_week_30 : decode cX6_week 30 = .ok (.aload_n 0, 1) := by decide +kernel
theorem dX6_week_31 : decode cX6_week 31 = .ok (.getfield 215, 3) := by decide +kernel
theorem dX6_week_34 : decode cX6_week 34 = .ok (.bipush 20, 2) := by decide +kernel
theorem dX6_week_36 : decode cX6_week 36 = .ok (.if_icmp .lt 6, 3) := by decide +kernel
theorem dX6_week_39 : decode cX6_week 39 = .ok (.bipush (-103), 2) := by decide +kernel
theorem dX6_week_41 : decode cX6_week 41 = .ok (.ireturn, 1) := by decide +kernel
theorem dX6_week_42 : decode cX6_week 42 = .ok (.aload_n 0, 1) := by decide +kernel
theorem dX6_week_43 : decode cX6_week 43 = .ok (.dup, 1) := by decide +kernel
theorem dX6_week_44 : decode cX6_week 44 = .ok (.getfield 215, 3) := by decide +kernel
theorem dX6_week_47 : decode cX6_week 47 = .ok (.iconst 1, 1) := by decide +kernel
theorem dX6_week_48 : decode cX6_week 48 = .ok (.iadd, 1) := by decide +kernel
theorem dX6_week_49 : decode cX6_week 49 = .ok (.putfield 215, 3) := by decide +kernel
theorem dX6_week_52 : decode cX6_week 52 = .ok (.aload_n 0, 1) := by decide +kernel
theorem dX6_week_53 : decode cX6_week 53 = .ok (.getfield 36, 3) := by decide +kernel
theorem dX6_week_56 : decode cX6_week 56 = .ok (.aload_n 0, 1) := by decide +kernel
theorem dX6_week_57 : decode cX6_week 57 = .ok (.getfield 19, 3) := by decide +kernel
theorem dX6_week_60 : decode cX6_week 60 = .ok (.aload_n 0, 1) := by decide +kernel
theorem dX6_week_61 : decode cX6_week 61 = .ok (.getfield 26, 3) := by decide +kernel
theorem dX6_week_64 : decode cX6_week 64 = .ok (.iload_n 1, 1) := by decide +kernel
theorem dX6_week_65 : decode cX6_week 65 = .ok (.invokevirtual 218, 3) := by decide +kernel
theorem dX6_week_68 : decode cX6_week 68 = .ok (.aload_n 0, 1) := by decide +kernel
theorem dX6_week_69 : decode cX6_week 69 = .ok (.getfield 36, 3) := by decide +kernel
theorem dX6_week_72 : decode cX6_week 72 = .ok (.iload_n 2, 1) := by decide +kernel
theorem dX6_week_73 : decode cX6_week 73 = .ok (.iload_n 1, 1) := by decide +kernel
theorem dX6_week_74 : decode cX6_week 74 = .ok (.invokevirtual 212, 3) := by decide +kernel
theorem dX6_week_77 : decode cX6_week 77 = .ok (.ireturn, 1) := by decide +kernel
theorem dX6_who_0 : decode cX6_who 0 = .ok (.aload_n 0, 1) := by decide +kernel
theorem dX6_who_1 : decode cX6_who 1 = .ok (.getfield 19, 3) := by decide +kernel
theorem dX6_who_4 : decode cX6_who 4 = .ok (.iload_n 1, 1) := by decide +kernel
theorem dX6_who_5 : decode cX6_who 5 = .ok (.invokevirtual 199, 3) := by decide +kernel
theorem dX6_who_8 : decode cX6_who 8 = .ok (.ifCond .ne 6, 3) := by decide +kernel
theorem dX6_who_11 : decode cX6_who 11 = .ok (.bipush (-102), 2) := by decide +kernel
theorem dX6_who_13 : decode cX6_who 13 = .ok (.ireturn, 1) := by decide +kernel
theorem dX6_who_14 : decode cX6_who 14 = .ok (.aload_n 0, 1) := by decide +kernel
theorem dX6_who_15 : decode cX6_who 15 = .ok (.getfield 19, 3) := by decide +kernel
theorem dX6_who_18 : decode cX6_who 18 = .ok (.invokevirtual 161, 3) := by decide +kernel
theorem dX6_who_21 : decode cX6_who 21 = .ok (.ifCond .eq 22, 3) := by decide +kernel
theorem dX6_who_24 : decode cX6_who 24 = .ok (.aload_n 0, 1) := by decide +kernel
theorem dX6_who_25 : decode cX6_who 25 = .ok (.getfield 36, 3) := by decide +kernel
theorem dX6_who_28 : decode cX6_who 28 = .ok (.aload_n 0, 1) := by decide +kernel
theorem dX6_who_29 : decode cX6_who 29 = .ok (.getfield 19, 3) := by decide +kernel
theorem dX6_who_32 : decode cX6_who 32 = .ok (.aload_n 0, 1) := by decide +kernel
theorem dX6_who_33 : decode cX6_who 33 = .ok (.getfield 26, 3) := by decide +kernel
theorem dX6_who_36 : decode cX6_who 36 = .ok (.iload_n 1, 1) := by decide +kernel
theorem dX6_who_37 : decode cX6_who 37 = .ok (.invokevirtual 221, 3) := by decide +kernel
theorem dX6_who_40 : decode cX6_who 40 = .ok (.goto 5, 3) := by decide +kernel
theorem dX6_who_43 : decode cX6_who 43 = .ok (.bipush (-103), 2) := by decide +kernel
theorem dX6_who_45 : decode cX6_who 45 = .ok (.ireturn, 1) := by decide +kernel
theorem dX6_see_0 : decode cX6_see 0 = .ok (.aload_n 0, 1) := by decide +kernel
theorem dX6_see_1 : decode cX6_see 1 = .ok (.getfield 19, 3) := by decide +kernel
theorem dX6_see_4 : decode cX6_see 4 = .ok (.iload_n 1, 1) := by decide +kernel
theorem dX6_see_5 : decode cX6_see 5 = .ok (.invokevirtual 75, 3) := by decide +kernel
theorem dX6_see_8 : decode cX6_see 8 = .ok (.ifCond .ne 6, 3) := by decide +kernel
theorem dX6_see_11 : decode cX6_see 11 = .ok (.bipush (-101), 2) := by decide +kernel
theorem dX6_see_13 : decode cX6_see 13 = .ok (.ireturn, 1) := by decide +kernel
end
section
theorem dX6_see_14 : decode cX6_see 14 = .ok (.iload_n 2, 1) := by decide +kernel
theorem dX6_see_15 : decode cX6_see 15 = .ok (.invokestatic 151, 3) := by decide +kernel
theorem dX6_see_18 : decode cX6_see 18 = .ok (.ifCond .eq 13, 3) := by decide +kernel
theorem dX6_see_21 : decode cX6_see 21 = .ok (.iload_n 3, 1) := by decide +kernel
theorem dX6_see_22 : decode cX6_see 22 = .ok (.ifCond .lt 9, 3) := by decide +kernel
theorem dX6_see_25 : decode cX6_see 25 = .ok (.iload_n 3, 1) := by decide +kernel
theorem dX6_see_26 : decode cX6_see 26 = .ok (.bipush 99, 2) := by decide +kernel
theorem dX6_see_28 : decode cX6_see 28 = .ok (.if_icmp .le 6, 3) := by decide +kernel
theorem dX6_see_31 : decode cX6_see 31 = .ok (.bipush (-102), 2) := by decide +kernel
theorem dX6_see_33 : decode cX6_see 33 = .ok (.ireturn, 1) := by decide +kernel
theorem dX6_see_34 : decode cX6_see 34 = .ok (.aload_n 0, 1) := by decide +kernel
theorem dX6_see_35 : decode cX6_see 35 = .ok (.getfield 26, 3) := by decide +kernel
theorem dX6_see_38 : decode cX6_see 38 = .ok (.getfield 109, 3) := by decide +kernel
theorem dX6_see_41 : decode cX6_see 41 = .ok (.getfield 224, 3) := by decide +kernel
theorem dX6_see_44 : decode cX6_see 44 = .ok (.bipush 6, 2) := by decide +kernel
theorem dX6_see_46 : decode cX6_see 46 = .ok (.if_icmp .lt 6, 3) := by decide +kernel
theorem dX6_see_49 : decode cX6_see 49 = .ok (.bipush (-104), 2) := by decide +kernel
theorem dX6_see_51 : decode cX6_see 51 = .ok (.ireturn, 1) := by decide +kernel
theorem dX6_see_52 : decode cX6_see 52 = .ok (.aload_n 0, 1) := by decide +kernel
theorem dX6_see_53 : decode cX6_see 53 = .ok (.getfield 26, 3) := by decide +kernel
theorem dX6_see_56 : decode cX6_see 56 = .ok (.getfield 109, 3) := by decide +kernel
theorem dX6_see_59 : decode cX6_see 59 = .ok (.iload_n 1, 1) := by decide +kernel
theorem dX6_see_60 : decode cX6_see 60 = .ok (.iload_n 2, 1) := by decide +kernel
theorem dX6_see_61 : decode cX6_see 61 = .ok (.iload_n 3, 1) := by decide +kernel
theorem dX6_see_62 : decode cX6_see 62 = .ok (.invokevirtual 225, 3) := by decide +kernel
theorem dX6_see_65 : decode cX6_see 65 = .ok (.aload_n 0, 1) := by decide +kernel
theorem dX6_see_66 : decode cX6_see 66 = .ok (.getfield 26, 3) := by decide +kernel
theorem dX6_see_69 : decode cX6_see 69 = .ok (.getfield 109, 3) := by decide +kernel
theorem dX6_see_72 : decode cX6_see 72 = .ok (.getfield 224, 3) := by decide +kernel
theorem dX6_see_75 : decode cX6_see 75 = .ok (.ireturn, 1) := by decide +kernel
theorem dX6_forget_0 : decode cX6_forget 0 = .ok (.aload_n 0, 1) := by decide +kernel
theorem dX6_forget_1 : decode cX6_forget 1 = .ok (.getfield 26, 3) := by decide +kernel
theorem dX6_forget_4 : decode cX6_forget 4 = .ok (.getfield 109, 3) := by decide +kernel
theorem dX6_forget_7 : decode cX6_forget 7 = .ok (.getfield 224, 3) := by decide +kernel
theorem dX6_forget_10 : decode cX6_forget 10 = .ok (.istore_n 1, 1) := by decide +kernel
theorem dX6_forget_11 : decode cX6_forget 11 = .ok (.aload_n 0, 1) := by decide +kernel
theorem dX6_forget_12 : decode cX6_forget 12 = .ok (.getfield 26, 3) := by decide +kernel
theorem dX6_forget_15 : decode cX6_forget 15 = .ok (.getfield 109, 3) := by decide +kernel
theorem dX6_forget_18 : decode cX6_forget 18 = .ok (.iconst 0, 1) := by decide +kernel
theorem dX6_forget_19 : decode cX6_forget 19 = .ok (.putfield 224, 3) := by decide +kernel
theorem dX6_forget_22 : decode cX6_forget 22 = .ok (.iload_n 1, 1) := by decide +kernel
theorem dX6_forget_23 : decode cX6_forget 23 = .ok (.ireturn, 1) := by decide +kernel
theorem dX6_weeks_0 : decode cX6_weeks 0 = .ok (.iload_n 1, 1) := by decide +kernel
theorem dX6_weeks_1 : decode cX6_weeks 1 = .ok (.iconst 1, 1) := by decide +kernel
theorem dX6_weeks_2 : decode cX6_weeks 2 = .ok (.if_icmp .lt 22, 3) := by decide +kernel
theorem dX6_weeks_5 : decode cX6_weeks 5 = .ok (.iload_n 1, 1) := by decide +kernel
theorem dX6_weeks_6 : decode cX6_weeks 6 = .ok (.bipush 60, 2) := by decide +kernel
theorem dX6_weeks_8 : decode cX6_weeks 8 = .ok (.if_icmp .gt 16, 3) := by decide +kernel
theorem dX6_weeks_11 : decode cX6_weeks 11 = .ok (.iload_n 2, 1) := by decide +kernel
theorem dX6_weeks_12 : decode cX6_weeks 12 = .ok (.ifCond .lt 12, 3) := by decide +kernel
theorem dX6_weeks_15 : decode cX6_weeks 15 = .ok (.iload_n 3, 1) := by decide +kernel
theorem dX6_weeks_16 : decode cX6_weeks 16 = .ok (.ifCond .lt 8, 3) := by decide +kernel
theorem dX6_weeks_19 : decode cX6_weeks 19 = .ok (.iload_n 3, 1) := by decide +kernel
theorem dX6_weeks_20 : decode cX6_weeks 20 = .ok (.iconst 2, 1) := by decide +kernel
theorem dX6_weeks_21 : decode cX6_weeks 21 = .ok (.if_icmp .le 6, 3) := by decide +kernel
theorem dX6_weeks_24 : decode cX6_weeks 24 = .ok (.bipush (-102), 2) := by decide +kernel
theorem dX6_weeks_26 : decode cX6_weeks 26 = .ok (.ireturn, 1) := by decide +kernel
theorem dX6_weeks_27 : decode cX6_weeks 27 = .ok (.aload_n 0, 1) := by decide +kernel
theorem dX6_weeks_28 : decode cX6_weeks 28 = .ok (.getfield 19, 3) := by decide +kernel
theorem dX6_weeks_31 : decode cX6_weeks 31 = .ok (.invokevirtual 161, 3) := by decide +kernel
theorem dX6_weeks_34 : decode cX6_weeks 34 = .ok (.ifCond .ne 6, 3) := by decide +kernel
theorem dX6_weeks_37 : decode cX6_weeks 37 = .ok (.bipush (-103), 2) := by decide +kernel
theorem dX6_weeks_39 : decode cX6_weeks 39 = .ok (.ireturn, 1) := by decide +kernel
theorem dX6_weeks_40 : decode cX6_weeks 40 = .ok (.aload_n 0, 1) := by decide +kernel
theorem dX6_weeks_41 : decode cX6_weeks 41 = .ok (.getfield 36, 3) := by decide +kernel
theorem dX6_weeks_44 : decode cX6_weeks 44 = .ok (.aload_n 0, 1) := by decide +kernel
theorem dX6_weeks_45 : decode cX6_weeks 45 = .ok (.getfield 19, 3) := by decide +kernel
theorem dX6_weeks_48 : decode cX6_weeks 48 = .ok (.aload_n 0, 1) := by decide +kernel
theorem dX6_weeks_49 : decode cX6_weeks 49 = .ok (.getfield 26, 3) := by decide +kernel
theorem dX6_weeks_52 : decode cX6_weeks 52 = .ok (.iload_n 1, 1) := by decide +kernel
theorem dX6_weeks_53 : decode cX6_weeks 53 = .ok (.iload_n 2, 1) := by decide +kernel
theorem dX6_weeks_54 : decode cX6_weeks 54 = .ok (.invokevirtual 228, 3) := by decide +kernel
theorem dX6_weeks_57 : decode cX6_weeks 57 = .ok (.iload_n 3, 1) := by decide +kernel
theorem dX6_weeks_58 : decode cX6_weeks 58 = .ok (.ifCond .ne 11, 3) := by decide +kernel
theorem dX6_weeks_61 : decode cX6_weeks 61 = .ok (.aload_n 0, 1) := by decide +kernel
theorem dX6_weeks_62 : decode cX6_weeks 62 = .ok (.getfield 36, 3) := by decide +kernel
theorem dX6_weeks_65 : decode cX6_weeks 65 = .ok (.getfield 106, 3) := by decide +kernel
theorem dX6_weeks_68 : decode cX6_weeks 68 = .ok (.ireturn, 1) := by decide +kernel
theorem dX6_weeks_69 : decode cX6_weeks 69 = .ok (.iload_n 3, 1) := by decide +kernel
theorem dX6_weeks_70 : decode cX6_weeks 70 = .ok (.iconst 1, 1) := by decide +kernel
theorem dX6_weeks_71 : decode cX6_weeks 71 = .ok (.if_icmp .ne 16, 3) := by decide +kernel
theorem dX6_weeks_74 : decode cX6_weeks 74 = .ok (.aload_n 0, 1) := by decide +kernel
theorem dX6_weeks_75 : decode cX6_weeks 75 = .ok (.getfield 36, 3) := by decide +kernel
theorem dX6_weeks_78 : decode cX6_weeks 78 = .ok (.getfield 232, 3) := by decide +kernel
theorem dX6_weeks_81 : decode cX6_weeks 81 = .ok (.invokevirtual 235, 3) := by decide +kernel
theorem dX6_weeks_84 : decode cX6_weeks 84 = .ok (.goto 10, 3) := by decide +kernel
theorem dX6_weeks_87 : decode cX6_weeks 87 = .ok (.aload_n 0, 1) := by decide +kernel
theorem dX6_weeks_88 : decode cX6_weeks 88 = .ok (.getfield 36, 3) := by decide +kernel
theorem dX6_weeks_91 : decode cX6_weeks 91 = .ok (.getfield 238, 3) := by decide +kernel
theorem dX6_weeks_94 : decode cX6_weeks 94 = .ok (.ireturn, 1) := by decide +kernel
theorem dX6_image_0 : decode cX6_image 0 = .ok (.aload_n 0, 1) := by decide +kernel
theorem dX6_image_1 : decode cX6_image 1 = .ok (.getfield 19, 3) := by decide +kernel
theorem dX6_image_4 : decode cX6_image 4 = .ok (.invokevirtual 161, 3) := by decide +kernel
theorem dX6_image_7 : decode cX6_image 7 = .ok (.ifCond .ne 6, 3) := by decide +kernel
theorem dX6_image_10 : decode cX6_image 10 = .ok (.bipush (-103), 2) := by decide +kernel
theorem dX6_image_12 : decode cX6_image 12 = .ok (.ireturn, 1) := by decide +kernel
theorem dX6_image_13 : decode cX6_image 13 = .ok (.aload_n 0, 1) := by decide +kernel
theorem dX6_image_14 : decode cX6_image 14 = .ok (.getfield 30, 3) := by decide +kernel
theorem dX6_image_17 : decode cX6_image 17 = .ok (.aload_n 0, 1) := by decide +kernel
theorem dX6_image_18 : decode cX6_image 18 = .ok (.getfield 26, 3) := by decide +kernel
theorem dX6_image_21 : decode cX6_image 21 = .ok (.invokevirtual 241, 3) := by decide +kernel
theorem dX6_image_24 : decode cX6_image 24 = .ok (.aload_n 0, 1) := by decide +kernel
theorem dX6_image_25 : decode cX6_image 25 = .ok (.iconst 1, 1) := by decide +kernel
theorem dX6_image_26 : decode cX6_image 26 = .ok (.putfield 65, 3) := by decide +kernel
theorem dX6_image_29 : decode cX6_image 29 = .ok (.aload_n 0, 1) := by decide +kernel
theorem dX6_image_30 : decode cX6_image 30 = .ok (.getfield 26, 3) := by decide +kernel
theorem dX6_image_33 : decode cX6_image 33 = .ok (.getfield 164, 3) := by decide +kernel
theorem dX6_image_36 : decode cX6_image 36 = .ok (.ireturn, 1) := by decide +kernel
theorem dX6_restore_0 : decode cX6_restore 0 = .ok (.aload_n 0, 1) := by decide +kernel
theorem dX6_restore_1 : decode cX6_restore 1 = .ok (.getfield 65, 3) := by decide +kernel
theorem dX6_restore_4 : decode cX6_restore 4 = .ok (.ifCond .ne 6, 3) := by decide +kernel
theorem dX6_restore_7 : decode cX6_restore 7 = .ok (.bipush (-103), 2) := by decide +kernel
theorem dX6_restore_9 : decode cX6_restore 9 = .ok (.ireturn, 1) := by decide +kernel
theorem dX6_restore_10 : decode cX6_restore 10 = .ok (.aload_n 0, 1) := by decide +kernel
theorem dX6_restore_11 : decode cX6_restore 11 = .ok (.getfield 26, 3) := by decide +kernel
theorem dX6_restore_14 : decode cX6_restore 14 = .ok (.aload_n 0, 1) := by decide +kernel
theorem dX6_restore_15 : decode cX6_restore 15 = .ok (.getfield 30, 3) := by decide +kernel
theorem dX6_restore_18 : decode cX6_restore 18 = .ok (.invokevirtual 241, 3) := by decide +kernel
theorem dX6_restore_21 : decode cX6_restore 21 = .ok (.aload_n 0, 1) := by decide +kernel
theorem dX6_restore_22 : decode cX6_restore 22 = .ok (.getfield 26, 3) := by decide +kernel
theorem dX6_restore_25 : decode cX6_restore 25 = .ok (.getfield 164, 3) := by decide +kernel
theorem dX6_restore_28 : decode cX6_restore 28 = .ok (.ireturn, 1) := by decide +kernel
theorem dX6_count_0 : decode cX6_count 0 = .ok (.iload_n 1, 1) := by decide +kernel
theorem dX6_count_1 : decode cX6_count 1 = .ok (.tableswitch 202 0 14 #[75, 83, 91, 99, 110, 125, 136, 144, 152, 160, 168, 179, 187, 192, 197], 75) := by decide +kernel
theorem dX6_count_76 : decode cX6_count 76 = .ok (.aload_n 0, 1) := by decide +kernel
theorem dX6_count_77 : decode cX6_count 77 = .ok (.getfield 19, 3) := by decide +kernel
theorem dX6_count_80 : decode cX6_count 80 = .ok (.getfield 244, 3) := by decide +kernel
theorem dX6_count_83 : decode cX6_count 83 = .ok (.ireturn, 1) := by decide +kernel
theorem dX6_count_84 : decode cX6_count 84 = .ok (.aload_n 0, 1) := by decide +kernel
theorem dX6_count_85 : decode cX6_count 85 = .ok (.getfield 19, 3) := by decide +kernel
theorem dX6_count_88 : decode cX6_count 88 = .ok (.getfield 72, 3) := by decide +kernel
theorem dX6_count_91 : decode cX6_count 91 = .ok (.ireturn, 1) := by decide +kernel
theorem dX6_count_92 : decode cX6_count 92 = .ok (.aload_n 0, 1) := by decide +kernel
theorem dX6_count_93 : decode cX6_count 93 = .ok (.getfield 26, 3) := by decide +kernel
theorem dX6_count_96 : decode cX6_count 96 = .ok (.invokevirtual 235, 3) := by decide +kernel
theorem dX6_count_99 : decode cX6_count 99 = .ok (.ireturn, 1) := by decide +kernel
theorem dX6_count_100 : decode cX6_count 100 = .ok (.aload_n 0, 1) := by decide +kernel
theorem dX6_count_101 : decode cX6_count 101 = .ok (.getfield 26, 3) := by decide +kernel
theorem dX6_count_104 : decode cX6_count 104 = .ok (.getfield 175, 3) := by decide +kernel
theorem dX6_count_107 : decode cX6_count 107 = .ok (.invokestatic 178, 3) := by decide +kernel
theorem dX6_count_110 : decode cX6_count 110 = .ok (.ireturn, 1) := by decide +kernel
theorem dX6_count_111 : decode cX6_count 111 = .ok (.aload_n 0, 1) := by decide +kernel
theorem dX6_count_112 : decode cX6_count 112 = .ok (.getfield 19, 3) := by decide +kernel
theorem dX6_count_115 : decode cX6_count 115 = .ok (.aload_n 0, 1) := by decide +kernel
theorem dX6_count_116 : decode cX6_count 116 = .ok (.getfield 26, 3) := by decide +kernel
theorem dX6_count_119 : decode cX6_count 119 = .ok (.invokevirtual 171, 3) := by decide +kernel
theorem dX6_count_122 : decode cX6_count 122 = .ok (.invokestatic 178, 3) := by decide +kernel
theorem dX6_count_125 : decode cX6_count 125 = .ok (.ireturn, 1) := by decide +kernel
theorem dX6_count_126 : decode cX6_count 126 = .ok (.aload_n 0, 1) := by decide +kernel
theorem dX6_count_127 : decode cX6_count 127 = .ok (.getfield 26, 3) := by decide +kernel
theorem dX6_count_130 : decode cX6_count 130 = .ok (.invokevirtual 247, 3) := by decide +kernel
theorem dX6_count_133 : decode cX6_count 133 = .ok (.invokestatic 178, 3) := by decide +kernel
theorem dX6_count_136 : decode cX6_count 136 = .ok (.ireturn, 1) := by decide +kernel
theorem dX6_count_137 : decode cX6_count 137 = .ok (.aload_n 0, 1) := by decide +kernel
theorem dX6_count_138 : decode cX6_count 138 = .ok (.getfield 26, 3) := by decide +kernel
theorem dX6_count_141 : decode cX6_count 141 = .ok (.getfield 186, 3) := by decide +kernel
theorem dX6_count_144 : decode cX6_count 144 = .ok (.ireturn, 1) := by decide +kernel
theorem dX6_count_145 : decode cX6_count 145 = .ok (.aload_n 0, 1) := by decide +kernel
theorem dX6_count_146 : decode cX6_count 146 = .ok (.getfield 26, 3) := by decide +kernel
theorem dX6_count_149 : decode cX6_count 149 = .ok (.getfield 164, 3) := by decide +kernel
theorem dX6_count_152 : decode cX6_count 152 = .ok (.ireturn, 1) := by decide +kernel
theorem dX6_count_153 : decode cX6_count 153 = .ok (.aload_n 0, 1) := by decide +kernel
theorem dX6_count_154 : decode cX6_count 154 = .ok (.getfield 26, 3) := by decide +kernel
theorem dX6_count_157 : decode cX6_count 157 = .ok (.invokevirtual 250, 3) := by decide +kernel
theorem dX6_count_160 : decode cX6_count 160 = .ok (.ireturn, 1) := by decide +kernel
theorem dX6_count_161 : decode cX6_count 161 = .ok (.aload_n 0, 1) := by decide +kernel
theorem dX6_count_162 : decode cX6_count 162 = .ok (.getfield 26, 3) := by decide +kernel
theorem dX6_count_165 : decode cX6_count 165 = .ok (.getfield 183, 3) := by decide +kernel
theorem dX6_count_168 : decode cX6_count 168 = .ok (.ireturn, 1) := by decide +kernel
theorem dX6_count_169 : decode cX6_count 169 = .ok (.aload_n 0, 1) := by decide +kernel
theorem dX6_count_170 : decode cX6_count 170 = .ok (.getfield 26, 3) := by decide +kernel
theorem dX6_count_173 : decode cX6_count 173 = .ok (.getfield 109, 3) := by decide +kernel
theorem dX6_count_176 : decode cX6_count 176 = .ok (.getfield 224, 3) := by decide +kernel
theorem dX6_count_179 : decode cX6_count 179 = .ok (.ireturn, 1) := by decide +kernel
theorem dX6_count_180 : decode cX6_count 180 = .ok (.aload_n 0, 1) := by decide +kernel
theorem dX6_count_181 : decode cX6_count 181 = .ok (.getfield 10, 3) := by decide +kernel
theorem dX6_count_184 : decode cX6_count 184 = .ok (.getfield 40, 3) := by decide +kernel
theorem dX6_count_187 : decode cX6_count 187 = .ok (.ireturn, 1) := by decide +kernel
theorem dX6_count_188 : decode cX6_count 188 = .ok (.aload_n 0, 1) := by decide +kernel
theorem dX6_count_189 : decode cX6_count 189 = .ok (.getfield 69, 3) := by decide +kernel
theorem dX6_count_192 : decode cX6_count 192 = .ok (.ireturn, 1) := by decide +kernel
theorem dX6_count_193 : decode cX6_count 193 = .ok (.aload_n 0, 1) := by decide +kernel
theorem dX6_count_194 : decode cX6_count 194 = .ok (.getfield 205, 3) := by decide +kernel
theorem dX6_count_197 : decode cX6_count 197 = .ok (.ireturn, 1) := by decide +kernel
theorem dX6_count_198 : decode cX6_count 198 = .ok (.aload_n 0, 1) := by decide +kernel
theorem dX6_count_199 : decode cX6_count 199 = .ok (.getfield 215, 3) := by decide +kernel
theorem dX6_count_202 : decode cX6_count 202 = .ok (.ireturn, 1) := by decide +kernel
theorem dX6_count_203 : decode cX6_count 203 = .ok (.bipush (-102), 2) := by decide +kernel
theorem dX6_count_205 : decode cX6_count 205 = .ok (.ireturn, 1) := by decide +kernel
theorem dX6_digest_0 : decode cX6_digest 0 = .ok (.ldc2_w 253, 3) := by decide +kernel
theorem dX6_digest_3 : decode cX6_digest 3 = .ok (.lstore_n 1, 1) := by decide +kernel
theorem dX6_digest_4 : decode cX6_digest 4 = .ok (.iconst 0, 1) := by decide +kernel
theorem dX6_digest_5 : decode cX6_digest 5 = .ok (.istore_n 3, 1) := by decide +kernel
theorem dX6_digest_6 : decode cX6_digest 6 = .ok (.iload_n 3, 1) := by decide +kernel
theorem dX6_digest_7 : decode cX6_digest 7 = .ok (.aload_n 0, 1) := by decide +kernel
theorem dX6_digest_8 : decode cX6_digest 8 = .ok (.getfield 19, 3) := by decide +kernel
theorem dX6_digest_11 : decode cX6_digest 11 = .ok (.getfield 244, 3) := by decide +kernel
theorem dX6_digest_14 : decode cX6_digest 14 = .ok (.if_icmp .ge 54, 3) := by decide +kernel
theorem dX6_digest_17 : decode cX6_digest 17 = .ok (.iconst 0, 1) := by decide +kernel
theorem dX6_digest_18 : decode cX6_digest 18 = .ok (.istore 4, 2) := by decide +kernel
theorem dX6_digest_20 : decode cX6_digest 20 = .ok (.iload 4, 2) := by decide +kernel
theorem dX6_digest_22 : decode cX6_digest 22 = .ok (.bipush 13, 2) := by decide +kernel
theorem dX6_digest_24 : decode cX6_digest 24 = .ok (.if_icmp .ge 38, 3) := by decide +kernel
theorem dX6_digest_27 : decode cX6_digest 27 = .ok (.iload 4, 2) := by decide +kernel
theorem dX6_digest_29 : decode cX6_digest 29 = .ok (.bipush 8, 2) := by decide +kernel
theorem dX6_digest_31 : decode cX6_digest 31 = .ok (.if_icmp .le 10, 3) := by decide +kernel
theorem dX6_digest_34 : decode cX6_digest 34 = .ok (.iload 4, 2) := by decide +kernel
theorem dX6_digest_36 : decode cX6_digest 36 = .ok (.bipush 10, 2) := by decide +kernel
theorem dX6_digest_38 : decode cX6_digest 38 = .ok (.if_icmp .lt 18, 3) := by decide +kernel
theorem dX6_digest_41 : decode cX6_digest 41 = .ok (.ldc2_w 255, 3) := by decide +kernel
theorem dX6_digest_44 : decode cX6_digest 44 = .ok (.lload_n 1, 1) := by decide +kernel
theorem dX6_digest_45 : decode cX6_digest 45 = .ok (.lmul, 1) := by decide +kernel
theorem dX6_digest_46 : decode cX6_digest 46 = .ok (.aload_n 0, 1) := by decide +kernel
theorem dX6_digest_47 : decode cX6_digest 47 = .ok (.iload_n 3, 1) := by decide +kernel
theorem dX6_digest_48 : decode cX6_digest 48 = .ok (.iload 4, 2) := by decide +kernel
theorem dX6_digest_50 : decode cX6_digest 50 = .ok (.invokevirtual 257, 3) := by decide +kernel
theorem dX6_digest_53 : decode cX6_digest 53 = .ok (.i2l, 1) := by decide +kernel
theorem dX6_digest_54 : decode cX6_digest 54 = .ok (.ladd, 1) := by decide +kernel
theorem dX6_digest_55 : decode cX6_digest 55 = .ok (.lstore_n 1, 1) := by decide +kernel
theorem dX6_digest_56 : decode cX6_digest 56 = .ok (.iinc 4 1, 3) := by decide +kernel
theorem dX6_digest_59 : decode cX6_digest 59 = .ok (.goto (-39), 3) := by decide +kernel
theorem dX6_digest_62 : decode cX6_digest 62 = .ok (.iinc 3 1, 3) := by decide +kernel
theorem dX6_digest_65 : decode cX6_digest 65 = .ok (.goto (-59), 3) := by decide +kernel
theorem dX6_digest_68 : decode cX6_digest 68 = .ok (.iconst 0, 1) := by decide +kernel
theorem dX6_digest_69 : decode cX6_digest 69 = .ok (.istore_n 3, 1) := by decide +kernel
theorem dX6_digest_70 : decode cX6_digest 70 = .ok (.iload_n 3, 1) := by decide +kernel
theorem dX6_digest_71 : decode cX6_digest 71 = .ok (.aload_n 0, 1) := by decide +kernel
theorem dX6_digest_72 : decode cX6_digest 72 = .ok (.getfield 19, 3) := by decide +kernel
theorem dX6_digest_75 : decode cX6_digest 75 = .ok (.getfield 72, 3) := by decide +kernel
theorem dX6_digest_78 : decode cX6_digest 78 = .ok (.if_icmp .ge 40, 3) := by decide +kernel
theorem dX6_digest_81 : decode cX6_digest 81 = .ok (.iconst 0, 1) := by decide +kernel
theorem dX6_digest_82 : decode cX6_digest 82 = .ok (.istore 4, 2) := by decide +kernel
theorem dX6_digest_84 : decode cX6_digest 84 = .ok (.iload 4, 2) := by decide +kernel
theorem dX6_digest_86 : decode cX6_digest 86 = .ok (.bipush 7, 2) := by decide +kernel
theorem dX6_digest_88 : decode cX6_digest 88 = .ok (.if_icmp .ge 24, 3) := by decide +kernel
theorem dX6_digest_91 : decode cX6_digest 91 = .ok (.ldc2_w 255, 3) := by decide +kernel
theorem dX6_digest_94 : decode cX6_digest 94 = .ok (.lload_n 1, 1) := by decide +kernel
theorem dX6_digest_95 : decode cX6_digest 95 = .ok (.lmul, 1) := by decide +kernel
theorem dX6_digest_96 : decode cX6_digest 96 = .ok (.aload_n 0, 1) := by decide +kernel
theorem dX6_digest_97 : decode cX6_digest 97 = .ok (.iload_n 3, 1) := by decide +kernel
theorem dX6_digest_98 : decode cX6_digest 98 = .ok (.iload 4, 2) := by decide +kernel
theorem dX6_digest_100 : decode cX6_digest 100 = .ok (.invokevirtual 260, 3) := by decide +kernel
theorem dX6_digest_103 : decode cX6_digest 103 = .ok (.i2l, 1) := by decide +kernel
theorem dX6_digest_104 : decode cX6_digest 104 = .ok (.ladd, 1) := by decide +kernel
theorem dX6_digest_105 : decode cX6_digest 105 = .ok (.lstore_n 1, 1) := by decide +kernel
theorem dX6_digest_106 : decode cX6_digest 106 = .ok (.iinc 4 1, 3) := by decide +kernel
theorem dX6_digest_109 : decode cX6_digest 109 = .ok (.goto (-25), 3) := by decide +kernel
theorem dX6_digest_112 : decode cX6_digest 112 = .ok (.iinc 3 1, 3) := by decide +kernel
theorem dX6_digest_115 : decode cX6_digest 115 = .ok (.goto (-45), 3) := by decide +kernel
theorem dX6_digest_118 : decode cX6_digest 118 = .ok (.aload_n 0, 1) := by decide +kernel
theorem dX6_digest_119 : decode cX6_digest 119 = .ok (.getfield 19, 3) := by decide +kernel
theorem dX6_digest_122 : decode cX6_digest 122 = .ok (.invokevirtual 161, 3) := by decide +kernel
theorem dX6_digest_125 : decode cX6_digest 125 = .ok (.ifCond .eq 72, 3) := by decide +kernel
theorem dX6_digest_128 : decode cX6_digest 128 = .ok (.iconst 0, 1) := by decide +kernel
theorem dX6_digest_129 : decode cX6_digest 129 = .ok (.istore_n 3, 1) := by decide +kernel
theorem dX6_digest_130 : decode cX6_digest 130 = .ok (.iload_n 3, 1) := by decide +kernel
theorem dX6_digest_131 : decode cX6_digest 131 = .ok (.bipush 6, 2) := by decide +kernel
theorem dX6_digest_133 : decode cX6_digest 133 = .ok (.if_icmp .ge 22, 3) := by decide +kernel
theorem dX6_digest_136 : decode cX6_digest 136 = .ok (.ldc2_w 255, 3) := by decide +kernel
theorem dX6_digest_139 : decode cX6_digest 139 = .ok (.lload_n 1, 1) := by decide +kernel
theorem dX6_digest_140 : decode cX6_digest 140 = .ok (.lmul, 1) := by decide +kernel
theorem dX6_digest_141 : decode cX6_digest 141 = .ok (.aload_n 0, 1) := by decide +kernel
theorem dX6_digest_142 : decode cX6_digest 142 = .ok (.iload_n 3, 1) := by decide +kernel
theorem dX6_digest_143 : decode cX6_digest 143 = .ok (.invokevirtual 263, 3) := by decide +kernel
theorem dX6_digest_146 : decode cX6_digest 146 = .ok (.i2l, 1) := by decide +kernel
theorem dX6_digest_147 : decode cX6_digest 147 = .ok (.ladd, 1) := by decide +kernel
theorem dX6_digest_148 : decode cX6_digest 148 = .ok (.lstore_n 1, 1) := by decide +kernel
theorem dX6_digest_149 : decode cX6_digest 149 = .ok (.iinc 3 1, 3) := by decide +kernel
theorem dX6_digest_152 : decode cX6_digest 152 = .ok (.goto (-22), 3) := by decide +kernel
theorem dX6_digest_155 : decode cX6_digest 155 = .ok (.iconst 0, 1) := by decide +kernel
theorem dX6_digest_156 : decode cX6_digest 156 = .ok (.istore_n 3, 1) := by decide +kernel
theorem dX6_digest_157 : decode cX6_digest 157 = .ok (.iload_n 3, 1) := by decide +kernel
theorem dX6_digest_158 : decode cX6_digest 158 = .ok (.iconst 4, 1) := by decide +kernel
theorem dX6_digest_159 : decode cX6_digest 159 = .ok (.if_icmp .ge 22, 3) := by decide +kernel
theorem dX6_digest_162 : decode cX6_digest 162 = .ok (.ldc2_w 255, 3) := by decide +kernel
theorem dX6_digest_165 : decode cX6_digest 165 = .ok (.lload_n 1, 1) := by decide +kernel
theorem dX6_digest_166 : decode cX6_digest 166 = .ok (.lmul, 1) := by decide +kernel
theorem dX6_digest_167 : decode cX6_digest 167 = .ok (.aload_n 0, 1) := by decide +kernel
theorem dX6_digest_168 : decode cX6_digest 168 = .ok (.iload_n 3, 1) := by decide +kernel
theorem dX6_digest_169 : decode cX6_digest 169 = .ok (.invokevirtual 266, 3) := by decide +kernel
theorem dX6_digest_172 : decode cX6_digest 172 = .ok (.i2l, 1) := by decide +kernel
theorem dX6_digest_173 : decode cX6_digest 173 = .ok (.ladd, 1) := by decide +kernel
theorem dX6_digest_174 : decode cX6_digest 174 = .ok (.lstore_n 1, 1) := by decide +kernel
theorem dX6_digest_175 : decode cX6_digest 175 = .ok (.iinc 3 1, 3) := by decide +kernel
theorem dX6_digest_178 : decode cX6_digest 178 = .ok (.goto (-21), 3) := by decide +kernel
theorem dX6_digest_181 : decode cX6_digest 181 = .ok (.ldc2_w 255, 3) := by decide +kernel
theorem dX6_digest_184 : decode cX6_digest 184 = .ok (.lload_n 1, 1) := by decide +kernel
theorem dX6_digest_185 : decode cX6_digest 185 = .ok (.lmul, 1) := by decide +kernel
theorem dX6_digest_186 : decode cX6_digest 186 = .ok (.aload_n 0, 1) := by decide +kernel
theorem dX6_digest_187 : decode cX6_digest 187 = .ok (.aload_n 0, 1) := by decide +kernel
theorem dX6_digest_188 : decode cX6_digest 188 = .ok (.invokevirtual 269, 3) := by decide +kernel
theorem dX6_digest_191 : decode cX6_digest 191 = .ok (.invokevirtual 272, 3) := by decide +kernel
theorem dX6_digest_194 : decode cX6_digest 194 = .ok (.i2l, 1) := by decide +kernel
theorem dX6_digest_195 : decode cX6_digest 195 = .ok (.ladd, 1) := by decide +kernel
theorem dX6_digest_196 : decode cX6_digest 196 = .ok (.lstore_n 1, 1) := by decide +kernel
theorem dX6_digest_197 : decode cX6_digest 197 = .ok (.iconst 0, 1) := by decide +kernel
theorem dX6_digest_198 : decode cX6_digest 198 = .ok (.istore_n 3, 1) := by decide +kernel
theorem dX6_digest_199 : decode cX6_digest 199 = .ok (.iload_n 3, 1) := by decide +kernel
theorem dX6_digest_200 : decode cX6_digest 200 = .ok (.aload_n 0, 1) := by decide +kernel
theorem dX6_digest_201 : decode cX6_digest 201 = .ok (.getfield 10, 3) := by decide +kernel
theorem dX6_digest_204 : decode cX6_digest 204 = .ok (.getfield 40, 3) := by decide +kernel
theorem dX6_digest_207 : decode cX6_digest 207 = .ok (.if_icmp .ge 25, 3) := by decide +kernel
theorem dX6_digest_210 : decode cX6_digest 210 = .ok (.ldc2_w 255, 3) := by decide +kernel
theorem dX6_digest_213 : decode cX6_digest 213 = .ok (.lload_n 1, 1) := by decide +kernel
theorem dX6_digest_214 : decode cX6_digest 214 = .ok (.lmul, 1) := by decide +kernel
theorem dX6_digest_215 : decode cX6_digest 215 = .ok (.aload_n 0, 1) := by decide +kernel
theorem dX6_digest_216 : decode cX6_digest 216 = .ok (.getfield 10, 3) := by decide +kernel
theorem dX6_digest_219 : decode cX6_digest 219 = .ok (.iload_n 3, 1) := by decide +kernel
theorem dX6_digest_220 : decode cX6_digest 220 = .ok (.invokevirtual 275, 3) := by decide +kernel
theorem dX6_digest_223 : decode cX6_digest 223 = .ok (.i2l, 1) := by decide +kernel
theorem dX6_digest_224 : decode cX6_digest 224 = .ok (.ladd, 1) := by decide +kernel
theorem dX6_digest_225 : decode cX6_digest 225 = .ok (.lstore_n 1, 1) := by decide +kernel
theorem dX6_digest_226 : decode cX6_digest 226 = .ok (.iinc 3 1, 3) := by decide +kernel
theorem dX6_digest_229 : decode cX6_digest 229 = .ok (.goto (-30), 3) := by decide +kernel
theorem dX6_digest_232 : decode cX6_digest 232 = .ok (.iconst 0, 1) := by decide +kernel
theorem dX6_digest_233 : decode cX6_digest 233 = .ok (.istore_n 3, 1) := by decide +kernel
theorem dX6_digest_234 : decode cX6_digest 234 = .ok (.iload_n 3, 1) := by decide +kernel
theorem dX6_digest_235 : decode cX6_digest 235 = .ok (.bipush 15, 2) := by decide +kernel
theorem dX6_digest_237 : decode cX6_digest 237 = .ok (.if_icmp .ge 22, 3) := by decide +kernel
theorem dX6_digest_240 : decode cX6_digest 240 = .ok (.ldc2_w 255, 3) := by decide +kernel
theorem dX6_digest_243 : decode cX6_digest 243 = .ok (.lload_n 1, 1) := by decide +kernel
theorem dX6_digest_244 : decode cX6_digest 244 = .ok (.lmul, 1) := by decide +kernel
theorem dX6_digest_245 : decode cX6_digest 245 = .ok (.aload_n 0, 1) := by decide +kernel
theorem dX6_digest_246 : decode cX6_digest 246 = .ok (.iload_n 3, 1) := by decide +kernel
theorem dX6_digest_247 : decode cX6_digest 247 = .ok (.invokevirtual 278, 3) := by decide +kernel
theorem dX6_digest_250 : decode cX6_digest 250 = .ok (.i2l, 1) := by decide +kernel
theorem dX6_digest_251 : decode cX6_digest 251 = .ok (.ladd, 1) := by decide +kernel
theorem dX6_digest_252 : decode cX6_digest 252 = .ok (.lstore_n 1, 1) := by decide +kernel
theorem dX6_digest_253 : decode cX6_digest 253 = .ok (.iinc 3 1, 3) := by decide +kernel
theorem dX6_digest_256 : decode cX6_digest 256 = .ok (.goto (-22), 3) := by decide +kernel
theorem dX6_digest_259 : decode cX6_digest 259 = .ok (.lload_n 1, 1) := by decide +kernel
theorem dX6_digest_260 : decode cX6_digest 260 = .ok (.lreturn, 1) := by decide +kernel
theorem dX6_isSlight_0 : decode cX6_isSlight 0 = .ok (.iload_n 0, 1) := by decide +kernel
theorem dX6_isSlight_1 : decode cX6_isSlight 1 = .ok (.ifCond .lt 12, 3) := by decide +kernel
theorem dX6_isSlight_4 : decode cX6_isSlight 4 = .ok (.iload_n 0, 1) := by decide +kernel
theorem dX6_isSlight_5 : decode cX6_isSlight 5 = .ok (.iconst 3, 1) := by decide +kernel
theorem dX6_isSlight_6 : decode cX6_isSlight 6 = .ok (.if_icmp .ge 7, 3) := by decide +kernel
theorem dX6_isSlight_9 : decode cX6_isSlight 9 = .ok (.iconst 1, 1) := by decide +kernel
theorem dX6_isSlight_10 : decode cX6_isSlight 10 = .ok (.goto 4, 3) := by decide +kernel
theorem dX6_isSlight_13 : decode cX6_isSlight 13 = .ok (.iconst 0, 1) := by decide +kernel
theorem dX6_isSlight_14 : decode cX6_isSlight 14 = .ok (.ireturn, 1) := by decide +kernel
theorem dX6_isPlace_0 : decode cX6_isPlace 0 = .ok (.iload_n 0, 1) := by decide +kernel
theorem dX6_isPlace_1 : decode cX6_isPlace 1 = .ok (.ifCond .lt 13, 3) := by decide +kernel
theorem dX6_isPlace_4 : decode cX6_isPlace 4 = .ok (.iload_n 0, 1) := by decide +kernel
theorem dX6_isPlace_5 : decode cX6_isPlace 5 = .ok (.bipush 6, 2) := by decide +kernel
theorem dX6_isPlace_7 : decode cX6_isPlace 7 = .ok (.if_icmp .ge 7, 3) := by decide +kernel
theorem dX6_isPlace_10 : decode cX6_isPlace 10 = .ok (.iconst 1, 1) := by decide +kernel
theorem dX6_isPlace_11 : decode cX6_isPlace 11 = .ok (.goto 4, 3) := by decide +kernel
theorem dX6_isPlace_14 : decode cX6_isPlace 14 = .ok (.iconst 0, 1) := by decide +kernel
theorem dX6_isPlace_15 : decode cX6_isPlace 15 = .ok (.ireturn, 1) := by decide +kernel
theorem dX6_isRowPlace_0 : decode cX6_isRowPlace 0 = .ok (.iload_n 0, 1) := by decide +kernel
theorem dX6_isRowPlace_1 : decode cX6_isRowPlace 1 = .ok (.bipush 10, 2) := by decide +kernel
theorem dX6_isRowPlace_3 : decode cX6_isRowPlace 3 = .ok (.if_icmp .lt 13, 3) := by decide +kernel
theorem dX6_isRowPlace_6 : decode cX6_isRowPlace 6 = .ok (.iload_n 0, 1) := by decide +kernel
theorem dX6_isRowPlace_7 : decode cX6_isRowPlace 7 = .ok (.bipush 13, 2) := by decide +kernel
theorem dX6_isRowPlace_9 : decode cX6_isRowPlace 9 = .ok (.if_icmp .ge 7, 3) := by decide +kernel
theorem dX6_isRowPlace_12 : decode cX6_isRowPlace 12 = .ok (.iconst 1, 1) := by decide +kernel
theorem dX6_isRowPlace_13 : decode cX6_isRowPlace 13 = .ok (.goto 4, 3) := by decide +kernel
theorem dX6_isRowPlace_16 : decode cX6_isRowPlace 16 = .ok (.iconst 0, 1) := by decide +kernel
theorem dX6_isRowPlace_17 : decode cX6_isRowPlace 17 = .ok (.ireturn, 1) := by decide +kernel
theorem dX6_isRowTell_0 : decode cX6_isRowTell 0 = .ok (.iload_n 0, 1) := by decide +kernel
theorem dX6_isRowTell_1 : decode cX6_isRowTell 1 = .ok (.ifCond .eq 10, 3) := by decide +kernel
theorem dX6_isRowTell_4 : decode cX6_isRowTell 4 = .ok (.iload_n 0, 1) := by decide +kernel
theorem dX6_isRowTell_5 : decode cX6_isRowTell 5 = .ok (.invokestatic 79, 3) := by decide +kernel
theorem dX6_isRowTell_8 : decode cX6_isRowTell 8 = .ok (.ifCond .eq 7, 3) := by decide +kernel
theorem dX6_isRowTell_11 : decode cX6_isRowTell 11 = .ok (.iconst 1, 1) := by decide +kernel
theorem dX6_isRowTell_12 : decode cX6_isRowTell 12 = .ok (.goto 4, 3) := by decide +kernel
theorem dX6_isRowTell_15 : decode cX6_isRowTell 15 = .ok (.iconst 0, 1) := by decide +kernel
theorem dX6_isRowTell_16 : decode cX6_isRowTell 16 = .ok (.ireturn, 1) := by decide +kernel
theorem dX6_hasBottle_0 : decode cX6_hasBottle 0 = .ok (.aload_n 0, 1) := by decide +kernel
theorem dX6_hasBottle_1 : decode cX6_hasBottle 1 = .ok (.getfield 19, 3) := by decide +kernel
theorem dX6_hasBottle_4 : decode cX6_hasBottle 4 = .ok (.invokevirtual 161, 3) := by decide +kernel
theorem dX6_hasBottle_7 : decode cX6_hasBottle 7 = .ok (.ifCond .eq 16, 3) := by decide +kernel
theorem dX6_hasBottle_10 : decode cX6_hasBottle 10 = .ok (.iload_n 1, 1) := by decide +kernel
theorem dX6_hasBottle_11 : decode cX6_hasBottle 11 = .ok (.ifCond .lt 12, 3) := by decide +kernel
theorem dX6_hasBottle_14 : decode cX6_hasBottle 14 = .ok (.iload_n 1, 1) := by decide +kernel
theorem dX6_hasBottle_15 : decode cX6_hasBottle 15 = .ok (.iconst 4, 1) := by decide +kernel
theorem dX6_hasBottle_16 : decode cX6_hasBottle 16 = .ok (.if_icmp .ge 7, 3) := by decide +kernel
theorem dX6_hasBottle_19 : decode cX6_hasBottle 19 = .ok (.iconst 1, 1) := by decide +kernel
theorem dX6_hasBottle_20 : decode cX6_hasBottle 20 = .ok (.goto 4, 3) := by decide +kernel
theorem dX6_hasBottle_23 : decode cX6_hasBottle 23 = .ok (.iconst 0, 1) := by decide +kernel
theorem dX6_hasBottle_24 : decode cX6_hasBottle 24 = .ok (.ireturn, 1) := by decide +kernel
theorem dX6_bottlesFor_0 : decode cX6_bottlesFor 0 = .ok (.aload_n 0, 1) := by decide +kernel
theorem dX6_bottlesFor_1 : decode cX6_bottlesFor 1 = .ok (.getfield 19, 3) := by decide +kernel
theorem dX6_bottlesFor_4 : decode cX6_bottlesFor 4 = .ok (.getfield 130, 3) := by decide +kernel
theorem dX6_bottlesFor_7 : decode cX6_bottlesFor 7 = .ok (.iload_n 1, 1) := by decide +kernel
theorem dX6_bottlesFor_8 : decode cX6_bottlesFor 8 = .ok (.iaload, 1) := by decide +kernel
theorem dX6_bottlesFor_9 : decode cX6_bottlesFor 9 = .ok (.aload_n 0, 1) := by decide +kernel
theorem dX6_bottlesFor_10 : decode cX6_bottlesFor 10 = .ok (.getfield 26, 3) := by decide +kernel
theorem dX6_bottlesFor_13 : decode cX6_bottlesFor 13 = .ok (.iload_n 1, 1) := by decide +kernel
theorem dX6_bottlesFor_14 : decode cX6_bottlesFor 14 = .ok (.invokevirtual 133, 3) := by decide +kernel
theorem dX6_bottlesFor_17 : decode cX6_bottlesFor 17 = .ok (.isub, 1) := by decide +kernel
theorem dX6_bottlesFor_18 : decode cX6_bottlesFor 18 = .ok (.istore_n 2, 1) := by decide +kernel
theorem dX6_bottlesFor_19 : decode cX6_bottlesFor 19 = .ok (.iload_n 2, 1) := by decide +kernel
theorem dX6_bottlesFor_20 : decode cX6_bottlesFor 20 = .ok (.ifCond .gt 7, 3) := by decide +kernel
theorem dX6_bottlesFor_23 : decode cX6_bottlesFor 23 = .ok (.iconst 0, 1) := by decide +kernel
theorem dX6_bottlesFor_24 : decode cX6_bottlesFor 24 = .ok (.goto 11, 3) := by decide +kernel
theorem dX6_bottlesFor_27 : decode cX6_bottlesFor 27 = .ok (.aload_n 0, 1) := by decide +kernel
theorem dX6_bottlesFor_28 : decode cX6_bottlesFor 28 = .ok (.getfield 26, 3) := by decide +kernel
theorem dX6_bottlesFor_31 : decode cX6_bottlesFor 31 = .ok (.iload_n 2, 1) := by decide +kernel
theorem dX6_bottlesFor_32 : decode cX6_bottlesFor 32 = .ok (.invokevirtual 281, 3) := by decide +kernel
theorem dX6_bottlesFor_35 : decode cX6_bottlesFor 35 = .ok (.ireturn, 1) := by decide +kernel
theorem dX6_odds_0 : decode cX6_odds 0 = .ok (.aload_n 0, 1) := by decide +kernel
theorem dX6_odds_1 : decode cX6_odds 1 = .ok (.getfield 36, 3) := by decide +kernel
theorem dX6_odds_4 : decode cX6_odds 4 = .ok (.aload_n 0, 1) := by decide +kernel
theorem dX6_odds_5 : decode cX6_odds 5 = .ok (.getfield 19, 3) := by decide +kernel
theorem dX6_odds_8 : decode cX6_odds 8 = .ok (.aload_n 0, 1) := by decide +kernel
theorem dX6_odds_9 : decode cX6_odds 9 = .ok (.getfield 26, 3) := by decide +kernel
theorem dX6_odds_12 : decode cX6_odds 12 = .ok (.iload_n 1, 1) := by decide +kernel
theorem dX6_odds_13 : decode cX6_odds 13 = .ok (.invokevirtual 284, 3) := by decide +kernel
theorem dX6_odds_16 : decode cX6_odds 16 = .ok (.istore_n 3, 1) := by decide +kernel
theorem dX6_odds_17 : decode cX6_odds 17 = .ok (.aload_n 0, 1) := by decide +kernel
theorem dX6_odds_18 : decode cX6_odds 18 = .ok (.getfield 19, 3) := by decide +kernel
theorem dX6_odds_21 : decode cX6_odds 21 = .ok (.invokevirtual 287, 3) := by decide +kernel
theorem dX6_odds_24 : decode cX6_odds 24 = .ok (.istore 4, 2) := by decide +kernel
theorem dX6_odds_26 : decode cX6_odds 26 = .ok (.iload_n 3, 1) := by decide +kernel
theorem dX6_odds_27 : decode cX6_odds 27 = .ok (.iload 4, 2) := by decide +kernel
theorem dX6_odds_29 : decode cX6_odds 29 = .ok (.invokestatic 290, 3) := by decide +kernel
theorem dX6_odds_32 : decode cX6_odds 32 = .ok (.istore 5, 2) := by decide +kernel
theorem dX6_odds_34 : decode cX6_odds 34 = .ok (.iload 5, 2) := by decide +kernel
theorem dX6_odds_36 : decode cX6_odds 36 = .ok (.ifCond .ne 5, 3) := by decide +kernel
theorem dX6_odds_39 : decode cX6_odds 39 = .ok (.iconst 0, 1) := by decide +kernel
theorem dX6_odds_40 : decode cX6_odds 40 = .ok (.ireturn, 1) := by decide +kernel
theorem dX6_odds_41 : decode cX6_odds 41 = .ok (.iload_n 2, 1) := by decide +kernel
theorem dX6_odds_42 : decode cX6_odds 42 = .ok (.ifCond .eq 10, 3) := by decide +kernel
theorem dX6_odds_45 : decode cX6_odds 45 = .ok (.iload_n 3, 1) := by decide +kernel
theorem dX6_odds_46 : decode cX6_odds 46 = .ok (.iload 5, 2) := by decide +kernel
theorem dX6_odds_48 : decode cX6_odds 48 = .ok (.idiv, 1) := by decide +kernel
theorem dX6_odds_49 : decode cX6_odds 49 = .ok (.goto 8, 3) := by decide +kernel
theorem dX6_odds_52 : decode cX6_odds 52 = .ok (.iload 4, 2) := by decide +kernel
theorem dX6_odds_54 : decode cX6_odds 54 = .ok (.iload 5, 2) := by decide +kernel
theorem dX6_odds_56 : decode cX6_odds 56 = .ok (.idiv, 1) := by decide +kernel
theorem dX6_odds_57 : decode cX6_odds 57 = .ok (.ireturn, 1) := by decide +kernel
theorem dX6_commonDivisor_0 : decode cX6_commonDivisor 0 = .ok (.iload_n 0, 1) := by decide +kernel
theorem dX6_commonDivisor_1 : decode cX6_commonDivisor 1 = .ok (.istore_n 2, 1) := by decide +kernel
theorem dX6_commonDivisor_2 : decode cX6_commonDivisor 2 = .ok (.iload_n 1, 1) := by decide +kernel
theorem dX6_commonDivisor_3 : decode cX6_commonDivisor 3 = .ok (.istore_n 3, 1) := by decide +kernel
theorem dX6_commonDivisor_4 : decode cX6_commonDivisor 4 = .ok (.iconst 0, 1) := by decide +kernel
theorem dX6_commonDivisor_5 : decode cX6_commonDivisor 5 = .ok (.istore 4, 2) := by decide +kernel
theorem dX6_commonDivisor_7 : decode cX6_commonDivisor 7 = .ok (.iload 4, 2) := by decide +kernel
theorem dX6_commonDivisor_9 : decode cX6_commonDivisor 9 = .ok (.bipush 64, 2) := by decide +kernel
theorem dX6_commonDivisor_11 : decode cX6_commonDivisor 11 = .ok (.if_icmp .ge 23, 3) := by decide +kernel
theorem dX6_commonDivisor_14 : decode cX6_commonDivisor 14 = .ok (.iload_n 3, 1) := by decide +kernel
theorem dX6_commonDivisor_15 : decode cX6_commonDivisor 15 = .ok (.ifCond .eq 19, 3) := by decide +kernel
theorem dX6_commonDivisor_18 : decode cX6_commonDivisor 18 = .ok (.iload_n 2, 1) := by decide +kernel
theorem dX6_commonDivisor_19 : decode cX6_commonDivisor 19 = .ok (.iload_n 3, 1) := by decide +kernel
theorem dX6_commonDivisor_20 : decode cX6_commonDivisor 20 = .ok (.irem, 1) := by decide +kernel
theorem dX6_commonDivisor_21 : decode cX6_commonDivisor 21 = .ok (.istore 5, 2) := by decide +kernel
theorem dX6_commonDivisor_23 : decode cX6_commonDivisor 23 = .ok (.iload_n 3, 1) := by decide +kernel
theorem dX6_commonDivisor_24 : decode cX6_commonDivisor 24 = .ok (.istore_n 2, 1) := by decide +kernel
theorem dX6_commonDivisor_25 : decode cX6_commonDivisor 25 = .ok (.iload 5, 2) := by decide +kernel
theorem dX6_commonDivisor_27 : decode cX6_commonDivisor 27 = .ok (.istore_n 3, 1) := by decide +kernel
theorem dX6_commonDivisor_28 : decode cX6_commonDivisor 28 = .ok (.iinc 4 1, 3) := by decide +kernel
theorem dX6_commonDivisor_31 : decode cX6_commonDivisor 31 = .ok (.goto (-24), 3) := by decide +kernel
theorem dX6_commonDivisor_34 : decode cX6_commonDivisor 34 = .ok (.iload_n 2, 1) := by decide +kernel
theorem dX6_commonDivisor_35 : decode cX6_commonDivisor 35 = .ok (.ireturn, 1) := by decide +kernel
end
section
theorem dX7_init_0 : decode cX7_init 0 = .ok (.aload_n 0, 1) := by decide +kernel
theorem dX7_init_1 : decode cX7_init 1 = .ok (.invokespecial 1, 3) := by decide +kernel
theorem dX7_init_4 : decode cX7_init 4 = .ok (.aload_n 0, 1) := by decide +kernel
theorem dX7_init_5 : decode cX7_init 5 = .ok (.bipush 24, 2) := by decide +kernel
theorem dX7_init_7 : decode cX7_init 7 = .ok (.newarray .int, 2) := by decide +kernel
theorem dX7_init_9 : decode cX7_init 9 = .ok (.putfield 7, 3) := by decide +kernel
theorem dX7_init_12 : decode cX7_init 12 = .ok (.aload_n 0, 1) := by decide +kernel
theorem dX7_init_13 : decode cX7_init 13 = .ok (.bipush 12, 2) := by decide +kernel
theorem dX7_init_15 : decode cX7_init 15 = .ok (.newarray .int, 2) := by decide +kernel
theorem dX7_init_17 : decode cX7_init 17 = .ok (.putfield 13, 3) := by decide +kernel
theorem dX7_init_20 : decode cX7_init 20 = .ok (.aload_n 0, 1) := by decide +kernel
theorem dX7_init_21 : decode cX7_init 21 = .ok (.iconst 4, 1) := by decide +kernel
theorem dX7_init_22 : decode cX7_init 22 = .ok (.newarray .int, 2) := by decide +kernel
theorem dX7_init_24 : decode cX7_init 24 = .ok (.putfield 16, 3) := by decide +kernel
theorem dX7_init_27 : decode cX7_init 27 = .ok (.aload_n 0, 1) := by decide +kernel
theorem dX7_init_28 : decode cX7_init 28 = .ok (.iconst 4, 1) := by decide +kernel
theorem dX7_init_29 : decode cX7_init 29 = .ok (.newarray .int, 2) := by decide +kernel
theorem dX7_init_31 : decode cX7_init 31 = .ok (.putfield 19, 3) := by decide +kernel
theorem dX7_init_34 : decode cX7_init 34 = .ok (.aload_n 0, 1) := by decide +kernel
theorem dX7_init_35 : decode cX7_init 35 = .ok (.bipush 6, 2) := by decide +kernel
theorem dX7_init_37 : decode cX7_init 37 = .ok (.newarray .int, 2) := by decide +kernel
theorem dX7_init_39 : decode cX7_init 39 = .ok (.putfield 22, 3) := by decide +kernel
theorem dX7_init_42 : decode cX7_init 42 = .ok (.aload_n 0, 1) := by decide +kernel
theorem dX7_init_43 : decode cX7_init 43 = .ok (.bipush 6, 2) := by decide +kernel
theorem dX7_init_45 : decode cX7_init 45 = .ok (.newarray .int, 2) := by decide +kernel
theorem dX7_init_47 : decode cX7_init 47 = .ok (.putfield 25, 3) := by decide +kernel
theorem dX7_init_50 : decode cX7_init 50 = .ok (.aload_n 0, 1) := by decide +kernel
theorem dX7_init_51 : decode cX7_init 51 = .ok (.iconst 4, 1) := by decide +kernel
theorem dX7_init_52 : decode cX7_init 52 = .ok (.newarray .int, 2) := by decide +kernel
theorem dX7_init_54 : decode cX7_init 54 = .ok (.putfield 28, 3) := by decide +kernel
theorem dX7_init_57 : decode cX7_init 57 = .ok (.aload_n 0, 1) := by decide +kernel
theorem dX7_init_58 : decode cX7_init 58 = .ok (.bipush 8, 2) := by decide +kernel
theorem dX7_init_60 : decode cX7_init 60 = .ok (.newarray .int, 2) := by decide +kernel
theorem dX7_init_62 : decode cX7_init 62 = .ok (.putfield 31, 3) := by decide +kernel
theorem dX7_init_65 : decode cX7_init 65 = .ok (.aload_n 0, 1) := by decide +kernel
theorem dX7_init_66 : decode cX7_init 66 = .ok (.iconst 4, 1) := by decide +kernel
theorem dX7_init_67 : decode cX7_init 67 = .ok (.newarray .int, 2) := by decide +kernel
theorem dX7_init_69 : decode cX7_init 69 = .ok (.putfield 34, 3) := by decide +kernel
theorem dX7_init_72 : decode cX7_init 72 = .ok (.aload_n 0, 1) := by decide +kernel
theorem dX7_init_73 : decode cX7_init 73 = .ok (.iconst 3, 1) := by decide +kernel
theorem dX7_init_74 : decode cX7_init 74 = .ok (.newarray .int, 2) := by decide +kernel
theorem dX7_init_76 : decode cX7_init 76 = .ok (.putfield 37, 3) := by decide +kernel
theorem dX7_init_79 : decode cX7_init 79 = .ok (.aload_n 0, 1) := by decide +kernel
theorem dX7_init_80 : decode cX7_init 80 = .ok (.iconst 3, 1) := by decide +kernel
theorem dX7_init_81 : decode cX7_init 81 = .ok (.newarray .int, 2) := by decide +kernel
theorem dX7_init_83 : decode cX7_init 83 = .ok (.putfield 40, 3) := by decide +kernel
theorem dX7_init_86 : decode cX7_init 86 = .ok (.aload_n 0, 1) := by decide +kernel
theorem dX7_init_87 : decode cX7_init 87 = .ok (.bipush 18, 2) := by decide +kernel
theorem dX7_init_89 : decode cX7_init 89 = .ok (.newarray .int, 2) := by decide +kernel
theorem dX7_init_91 : decode cX7_init 91 = .ok (.putfield 43, 3) := by decide +kernel
theorem dX7_init_94 : decode cX7_init 94 = .ok (.aload_n 0, 1) := by decide +kernel
theorem dX7_init_95 : decode cX7_init 95 = .ok (.bipush 22, 2) := by decide +kernel
theorem dX7_init_97 : decode cX7_init 97 = .ok (.newarray .int, 2) := by decide +kernel
theorem dX7_init_99 : decode cX7_init 99 = .ok (.putfield 46, 3) := by decide +kernel
theorem dX7_init_102 : decode cX7_init 102 = .ok (.aload_n 0, 1) := by decide +kernel
theorem dX7_init_103 : decode cX7_init 103 = .ok (.bipush 12, 2) := by decide +kernel
theorem dX7_init_105 : decode cX7_init 105 = .ok (.newarray .int, 2) := by decide +kernel
theorem dX7_init_107 : decode cX7_init 107 = .ok (.putfield 49, 3) := by decide +kernel
theorem dX7_init_110 : decode cX7_init 110 = .ok (.aload_n 0, 1) := by decide +kernel
theorem dX7_init_111 : decode cX7_init 111 = .ok (.iconst 4, 1) := by decide +kernel
theorem dX7_init_112 : decode cX7_init 112 = .ok (.newarray .int, 2) := by decide +kernel
theorem dX7_init_114 : decode cX7_init 114 = .ok (.putfield 52, 3) := by decide +kernel
theorem dX7_init_117 : decode cX7_init 117 = .ok (.aload_n 0, 1) := by decide +kernel
theorem dX7_init_118 : decode cX7_init 118 = .ok (.iconst 4, 1) := by decide +kernel
theorem dX7_init_119 : decode cX7_init 119 = .ok (.newarray .int, 2) := by decide +kernel
theorem dX7_init_121 : decode cX7_init 121 = .ok (.putfield 55, 3) := by decide +kernel
theorem dX7_init_124 : decode cX7_init 124 = .ok (.aload_n 0, 1) := by decide +kernel
theorem dX7_init_125 : decode cX7_init 125 = .ok (.bipush 6, 2) := by decide +kernel
theorem dX7_init_127 : decode cX7_init 127 = .ok (.newarray .int, 2) := by decide +kernel
theorem dX7_init_129 : decode cX7_init 129 = .ok (.putfield 58, 3) := by decide +kernel
theorem dX7_init_132 : decode cX7_init 132 = .ok (.aload_n 0, 1) := by decide +kernel
theorem dX7_init_133 : decode cX7_init 133 = .ok (.iconst 4, 1) := by decide +kernel
theorem dX7_init_134 : decode cX7_init 134 = .ok (.newarray .int, 2) := by decide +kernel
theorem dX7_init_136 : decode cX7_init 136 = .ok (.putfield 61, 3) := by decide +kernel
theorem dX7_init_139 : decode cX7_init 139 = .ok (.aload_n 0, 1) := by decide +kernel
theorem dX7_init_140 : decode cX7_init 140 = .ok (.bipush 8, 2) := by decide +kernel
theorem dX7_init_142 : decode cX7_init 142 = .ok (.newarray .int, 2) := by decide +kernel
theorem dX7_init_144 : decode cX7_init 144 = .ok (.putfield 64, 3) := by decide +kernel
theorem dX7_init_147 : decode cX7_init 147 = .ok (.aload_n 0, 1) := by decide +kernel
theorem dX7_init_148 : decode cX7_init 148 = .ok (.bipush 18, 2) := by decide +kernel
theorem dX7_init_150 : decode cX7_init 150 = .ok (.newarray .int, 2) := by decide +kernel
theorem dX7_init_152 : decode cX7_init 152 = .ok (.putfield 67, 3) := by decide +kernel
theorem dX7_init_155 : decode cX7_init 155 = .ok (.aload_n 0, 1) := by decide +kernel
theorem dX7_init_156 : decode cX7_init 156 = .ok (.iconst (-1), 1) := by decide +kernel
theorem dX7_init_157 : decode cX7_init 157 = .ok (.putfield 70, 3) := by decide +kernel
theorem dX7_init_160 : decode cX7_init 160 = .ok (.return_, 1) := by decide +kernel
theorem dX7_in_0 : decode cX7_in 0 = .ok (.lload_n 0, 1) := by decide +kernel
theorem dX7_in_1 : decode cX7_in 1 = .ok (.lload_n 2, 1) := by decide +kernel
theorem dX7_in_2 : decode cX7_in 2 = .ok (.lcmp, 1) := by decide +kernel
theorem dX7_in_3 : decode cX7_in 3 = .ok (.ifCond .lt 14, 3) := by decide +kernel
theorem dX7_in_6 : decode cX7_in 6 = .ok (.lload_n 0, 1) := by decide +kernel
theorem dX7_in_7 : decode cX7_in 7 = .ok (.lload 4, 2) := by decide +kernel
theorem dX7_in_9 : decode cX7_in 9 = .ok (.lcmp, 1) := by decide +kernel
theorem dX7_in_10 : decode cX7_in 10 = .ok (.ifCond .gt 7, 3) := by decide +kernel
theorem dX7_in_13 : decode cX7_in 13 = .ok (.iconst 1, 1) := by decide +kernel
theorem dX7_in_14 : decode cX7_in 14 = .ok (.goto 4, 3) := by decide +kernel
theorem dX7_in_17 : decode cX7_in 17 = .ok (.iconst 0, 1) := by decide +kernel
theorem dX7_in_18 : decode cX7_in 18 = .ok (.ireturn, 1) := by decide +kernel
theorem dX7_copy_0 : decode cX7_copy 0 = .ok (.iconst 0, 1) := by decide +kernel
theorem dX7_copy_1 : decode cX7_copy 1 = .ok (.istore_n 2, 1) := by decide +kernel
theorem dX7_copy_2 : decode cX7_copy 2 = .ok (.iload_n 2, 1) := by decide +kernel
theorem dX7_copy_3 : decode cX7_copy 3 = .ok (.aload_n 0, 1) := by decide +kernel
theorem dX7_copy_4 : decode cX7_copy 4 = .ok (.arraylength, 1) := by decide +kernel
theorem dX7_copy_5 : decode cX7_copy 5 = .ok (.if_icmp .ge 15, 3) := by decide +kernel
theorem dX7_copy_8 : decode cX7_copy 8 = .ok (.aload_n 1, 1) := by decide +kernel
theorem dX7_copy_9 : decode cX7_copy 9 = .ok (.iload_n 2, 1) := by decide +kernel
theorem dX7_copy_10 : decode cX7_copy 10 = .ok (.aload_n 0, 1) := by decide +kernel
theorem dX7_copy_11 : decode cX7_copy 11 = .ok (.iload_n 2, 1) := by decide +kernel
theorem dX7_copy_12 : decode cX7_copy 12 = .ok (.iaload, 1) := by decide +kernel
theorem dX7_copy_13 : decode cX7_copy 13 = .ok (.iastore, 1) := by decide +kernel
theorem dX7_copy_14 : decode cX7_copy 14 = .ok (.iinc 2 1, 3) := by decide +kernel
theorem dX7_copy_17 : decode cX7_copy 17 = .ok (.goto (-15), 3) := by decide +kernel
theorem dX7_copy_20 : decode cX7_copy 20 = .ok (.return_, 1) := by decide +kernel
theorem dX7_ones_0 : decode cX7_ones 0 = .ok (.iconst 0, 1) := by decide +kernel
theorem dX7_ones_1 : decode cX7_ones 1 = .ok (.istore_n 1, 1) := by decide +kernel
theorem dX7_ones_2 : decode cX7_ones 2 = .ok (.iconst 0, 1) := by decide +kernel
theorem dX7_ones_3 : decode cX7_ones 3 = .ok (.istore_n 2, 1) := by decide +kernel
theorem dX7_ones_4 : decode cX7_ones 4 = .ok (.iload_n 2, 1) := by decide +kernel
theorem dX7_ones_5 : decode cX7_ones 5 = .ok (.bipush 12, 2) := by decide +kernel
theorem dX7_ones_7 : decode cX7_ones 7 = .ok (.if_icmp .ge 17, 3) := by decide +kernel
theorem dX7_ones_10 : decode cX7_ones 10 = .ok (.iload_n 1, 1) := by decide +kernel
theorem dX7_ones_11 : decode cX7_ones 11 = .ok (.iload_n 0, 1) := by decide +kernel
theorem dX7_ones_12 : decode cX7_ones 12 = .ok (.iload_n 2, 1) := by decide +kernel
theorem dX7_ones_13 : decode cX7_ones 13 = .ok (.ishr, 1) := by decide +kernel
theorem dX7_ones_14 : decode cX7_ones 14 = .ok (.iconst 1, 1) := by decide +kernel
theorem dX7_ones_15 : decode cX7_ones 15 = .ok (.iand, 1) := by decide +kernel
theorem dX7_ones_16 : decode cX7_ones 16 = .ok (.iadd, 1) := by decide +kernel
theorem dX7_ones_17 : decode cX7_ones 17 = .ok (.istore_n 1, 1) := by decide +kernel
theorem dX7_ones_18 : decode cX7_ones 18 = .ok (.iinc 2 1, 3) := by decide +kernel
theorem dX7_ones_21 : decode cX7_ones 21 = .ok (.goto (-17), 3) := by decide +kernel
theorem dX7_ones_24 : decode cX7_ones 24 = .ok (.iload_n 1, 1) := by decide +kernel
theorem dX7_ones_25 : decode cX7_ones 25 = .ok (.ireturn, 1) := by decide +kernel
theorem dX7_common_0 : decode cX7_common 0 = .ok (.iload_n 0, 1) := by decide +kernel
theorem dX7_common_1 : decode cX7_common 1 = .ok (.istore_n 2, 1) := by decide +kernel
theorem dX7_common_2 : decode cX7_common 2 = .ok (.iload_n 1, 1) := by decide +kernel
theorem dX7_common_3 : decode cX7_common 3 = .ok (.istore_n 3, 1) := by decide +kernel
theorem dX7_common_4 : decode cX7_common 4 = .ok (.iload_n 3, 1) := by decide +kernel
theorem dX7_common_5 : decode cX7_common 5 = .ok (.ifCond .le 16, 3) := by decide +kernel
theorem dX7_common_8 : decode cX7_common 8 = .ok (.iload_n 2, 1) := by decide +kernel
theorem dX7_common_9 : decode cX7_common 9 = .ok (.iload_n 3, 1) := by decide +kernel
theorem dX7_common_10 : decode cX7_common 10 = .ok (.irem, 1) := by decide +kernel
theorem dX7_common_11 : decode cX7_common 11 = .ok (.istore 4, 2) := by decide +kernel
theorem dX7_common_13 : decode cX7_common 13 = .ok (.iload_n 3, 1) := by decide +kernel
theorem dX7_common_14 : decode cX7_common 14 = .ok (.istore_n 2, 1) := by decide +kernel
theorem dX7_common_15 : decode cX7_common 15 = .ok (.iload 4, 2) := by decide +kernel
theorem dX7_common_17 : decode cX7_common 17 = .ok (.istore_n 3, 1) := by decide +kernel
theorem dX7_common_18 : decode cX7_common 18 = .ok (.goto (-14), 3) := by decide +kernel
theorem dX7_common_21 : decode cX7_common 21 = .ok (.iload_n 2, 1) := by decide +kernel
theorem dX7_common_22 : decode cX7_common 22 = .ok (.ireturn, 1) := by decide +kernel
theorem dX7_apart_0 : decode cX7_apart 0 = .ok (.iload_n 0, 1) := by decide +kernel
theorem dX7_apart_1 : decode cX7_apart 1 = .ok (.iload_n 1, 1) := by decide +kernel
theorem dX7_apart_2 : decode cX7_apart 2 = .ok (.if_icmp .ge 9, 3) := by decide +kernel
theorem dX7_apart_5 : decode cX7_apart 5 = .ok (.iload_n 1, 1) := by decide +kernel
theorem dX7_apart_6 : decode cX7_apart 6 = .ok (.iload_n 0, 1) := by decide +kernel
theorem dX7_apart_7 : decode cX7_apart 7 = .ok (.isub, 1) := by decide +kernel
theorem dX7_apart_8 : decode cX7_apart 8 = .ok (.goto 6, 3) := by decide +kernel
theorem dX7_apart_11 : decode cX7_apart 11 = .ok (.iload_n 0, 1) := by decide +kernel
theorem dX7_apart_12 : decode cX7_apart 12 = .ok (.iload_n 1, 1) := by decide +kernel
theorem dX7_apart_13 : decode cX7_apart 13 = .ok (.isub, 1) := by decide +kernel
theorem dX7_apart_14 : decode cX7_apart 14 = .ok (.ireturn, 1) := by decide +kernel
theorem dX7_letter_0 : decode cX7_letter 0 = .ok (.iload_n 1, 1) := by decide +kernel
theorem dX7_letter_1 : decode cX7_letter 1 = .ok (.i2l, 1) := by decide +kernel
theorem dX7_letter_2 : decode cX7_letter 2 = .ok (.lconst 1, 1) := by decide +kernel
theorem dX7_letter_3 : decode cX7_letter 3 = .ok (.ldc2_w 74, 3) := by decide +kernel
theorem dX7_letter_6 : decode cX7_letter 6 = .ok (.invokestatic 76, 3) := by decide +kernel
theorem dX7_letter_9 : decode cX7_letter 9 = .ok (.ifCond .ne 6, 3) := by decide +kernel
theorem dX7_letter_12 : decode cX7_letter 12 = .ok (.bipush (-102), 2) := by decide +kernel
theorem dX7_letter_14 : decode cX7_letter 14 = .ok (.ireturn, 1) := by decide +kernel
theorem dX7_letter_15 : decode cX7_letter 15 = .ok (.aload_n 0, 1) := by decide +kernel
theorem dX7_letter_16 : decode cX7_letter 16 = .ok (.getfield 80, 3) := by decide +kernel
theorem dX7_letter_19 : decode cX7_letter 19 = .ok (.bipush 24, 2) := by decide +kernel
theorem dX7_letter_21 : decode cX7_letter 21 = .ok (.if_icmp .ne 6, 3) := by decide +kernel
theorem dX7_letter_24 : decode cX7_letter 24 = .ok (.bipush (-104), 2) := by decide +kernel
theorem dX7_letter_26 : decode cX7_letter 26 = .ok (.ireturn, 1) := by decide +kernel
theorem dX7_letter_27 : decode cX7_letter 27 = .ok (.aload_n 0, 1) := by decide +kernel
theorem dX7_letter_28 : decode cX7_letter 28 = .ok (.getfield 7, 3) := by decide +kernel
theorem dX7_letter_31 : decode cX7_letter 31 = .ok (.aload_n 0, 1) := by decide +kernel
theorem dX7_letter_32 : decode cX7_letter 32 = .ok (.getfield 80, 3) := by decide +kernel
theorem dX7_letter_35 : decode cX7_letter 35 = .ok (.iload_n 1, 1) := by decide +kernel
theorem dX7_letter_36 : decode cX7_letter 36 = .ok (.iastore, 1) := by decide +kernel
theorem dX7_letter_37 : decode cX7_letter 37 = .ok (.aload_n 0, 1) := by decide +kernel
theorem dX7_letter_38 : decode cX7_letter 38 = .ok (.dup, 1) := by decide +kernel
theorem dX7_letter_39 : decode cX7_letter 39 = .ok (.getfield 80, 3) := by decide +kernel
theorem dX7_letter_42 : decode cX7_letter 42 = .ok (.iconst 1, 1) := by decide +kernel
theorem dX7_letter_43 : decode cX7_letter 43 = .ok (.iadd, 1) := by decide +kernel
theorem dX7_letter_44 : decode cX7_letter 44 = .ok (.putfield 80, 3) := by decide +kernel
theorem dX7_letter_47 : decode cX7_letter 47 = .ok (.aload_n 0, 1) := by decide +kernel
theorem dX7_letter_48 : decode cX7_letter 48 = .ok (.getfield 80, 3) := by decide +kernel
theorem dX7_letter_51 : decode cX7_letter 51 = .ok (.ireturn, 1) := by decide +kernel
theorem dX7_blank_0 : decode cX7_blank 0 = .ok (.aload_n 0, 1) := by decide +kernel
theorem dX7_blank_1 : decode cX7_blank 1 = .ok (.getfield 80, 3) := by decide +kernel
theorem dX7_blank_4 : decode cX7_blank 4 = .ok (.istore_n 1, 1) := by decide +kernel
theorem dX7_blank_5 : decode cX7_blank 5 = .ok (.aload_n 0, 1) := by decide +kernel
theorem dX7_blank_6 : decode cX7_blank 6 = .ok (.iconst 0, 1) := by decide +kernel
theorem dX7_blank_7 : decode cX7_blank 7 = .ok (.putfield 80, 3) := by decide +kernel
theorem dX7_blank_10 : decode cX7_blank 10 = .ok (.iload_n 1, 1) := by decide +kernel
theorem dX7_blank_11 : decode cX7_blank 11 = .ok (.ireturn, 1) := by decide +kernel
theorem dX7_kindBy_0 : decode cX7_kindBy 0 = .ok (.iload_n 0, 1) := by decide +kernel
theorem dX7_kindBy_1 : decode cX7_kindBy 1 = .ok (.lookupswitch 61 #[(98, 55), (109, 59), (112, 51), (115, 53), (116, 57)], 51) := by decide +kernel
theorem dX7_kindBy_52 : decode cX7_kindBy 52 = .ok (.iconst 0, 1) := by decide +kernel
theorem dX7_kindBy_53 : decode cX7_kindBy 53 = .ok (.ireturn, 1) := by decide +kernel
theorem dX7_kindBy_54 : decode cX7_kindBy 54 = .ok (.iconst 1, 1) := by decide +kernel
theorem dX7_kindBy_55 : decode cX7_kindBy 55 = .ok (.ireturn, 1) := by decide +kernel
theorem dX7_kindBy_56 : decode cX7_kindBy 56 = .ok (.iconst 2, 1) := by decide +kernel
theorem dX7_kindBy_57 : decode cX7_kindBy 57 = .ok (.ireturn, 1) := by decide +kernel
theorem dX7_kindBy_58 : decode cX7_kindBy 58 = .ok (.iconst 3, 1) := by decide +kernel
theorem dX7_kindBy_59 : decode cX7_kindBy 59 = .ok (.ireturn, 1) := by decide +kernel
theorem dX7_kindBy_60 : decode cX7_kindBy 60 = .ok (.iconst 4, 1) := by decide +kernel
theorem dX7_kindBy_61 : decode cX7_kindBy 61 = .ok (.ireturn, 1) := by decide +kernel
theorem dX7_kindBy_62 : decode cX7_kindBy 62 = .ok (.iconst (-1), 1) := by decide +kernel
theorem dX7_kindBy_63 : decode cX7_kindBy 63 = .ok (.ireturn, 1) := by decide +kernel
theorem dX7_isPersonLetter_0 : decode cX7_isPersonLetter 0 = .ok (.aload_n 0, 1) := by decide +kernel
theorem dX7_isPersonLetter_1 : decode cX7_isPersonLetter 1 = .ok (.getfield 7, 3) := by decide +kernel
theorem dX7_isPersonLetter_4 : decode cX7_isPersonLetter 4 = .ok (.iload_n 1, 1) := by decide +kernel
theorem dX7_isPersonLetter_5 : decode cX7_isPersonLetter 5 = .ok (.iaload, 1) := by decide +kernel
theorem dX7_isPersonLetter_6 : decode cX7_isPersonLetter 6 = .ok (.istore_n 2, 1) := by decide +kernel
theorem dX7_isPersonLetter_7 : decode cX7_isPersonLetter 7 = .ok (.iload_n 1, 1) := by decide +kernel
theorem dX7_isPersonLetter_8 : decode cX7_isPersonLetter 8 = .ok (.iconst 4, 1) := by decide +kernel
theorem dX7_isPersonLetter_9 : decode cX7_isPersonLetter 9 = .ok (.irem, 1) := by decide +kernel
theorem dX7_isPersonLetter_10 : decode cX7_isPersonLetter 10 = .ok (.tableswitch 64 0 2 #[26, 40, 52], 26) := by decide +kernel
theorem dX7_isPersonLetter_36 : decode cX7_isPersonLetter 36 = .ok (.iload_n 2, 1) := by decide +kernel
theorem dX7_isPersonLetter_37 : decode cX7_isPersonLetter 37 = .ok (.invokestatic 83, 3) := by decide +kernel
theorem dX7_isPersonLetter_40 : decode cX7_isPersonLetter 40 = .ok (.iconst (-1), 1) := by decide +kernel
theorem dX7_isPersonLetter_41 : decode cX7_isPersonLetter 41 = .ok (.if_icmp .eq 7, 3) := by decide +kernel
theorem dX7_isPersonLetter_44 : decode cX7_isPersonLetter 44 = .ok (.iconst 1, 1) := by decide +kernel
theorem dX7_isPersonLetter_45 : decode cX7_isPersonLetter 45 = .ok (.goto 4, 3) := by decide +kernel
theorem dX7_isPersonLetter_48 : decode cX7_isPersonLetter 48 = .ok (.iconst 0, 1) := by decide +kernel
theorem dX7_isPersonLetter_49 : decode cX7_isPersonLetter 49 = .ok (.ireturn, 1) := by decide +kernel
theorem dX7_isPersonLetter_50 : decode cX7_isPersonLetter 50 = .ok (.iload_n 2, 1) := by decide +kernel
theorem dX7_isPersonLetter_51 : decode cX7_isPersonLetter 51 = .ok (.i2l, 1) := by decide +kernel
theorem dX7_isPersonLetter_52 : decode cX7_isPersonLetter 52 = .ok (.ldc2_w 87, 3) := by decide +kernel
theorem dX7_isPersonLetter_55 : decode cX7_isPersonLetter 55 = .ok (.ldc2_w 89, 3) := by decide +kernel
theorem dX7_isPersonLetter_58 : decode cX7_isPersonLetter 58 = .ok (.invokestatic 76, 3) := by decide +kernel
theorem dX7_isPersonLetter_61 : decode cX7_isPersonLetter 61 = .ok (.ireturn, 1) := by decide +kernel
theorem dX7_isPersonLetter_62 : decode cX7_isPersonLetter 62 = .ok (.iload_n 2, 1) := by decide +kernel
theorem dX7_isPersonLetter_63 : decode cX7_isPersonLetter 63 = .ok (.i2l, 1) := by decide +kernel
theorem dX7_isPersonLetter_64 : decode cX7_isPersonLetter 64 = .ok (.ldc2_w 91, 3) := by decide +kernel
theorem dX7_isPersonLetter_67 : decode cX7_isPersonLetter 67 = .ok (.ldc2_w 93, 3) := by decide +kernel
theorem dX7_isPersonLetter_70 : decode cX7_isPersonLetter 70 = .ok (.invokestatic 76, 3) := by decide +kernel
theorem dX7_isPersonLetter_73 : decode cX7_isPersonLetter 73 = .ok (.ireturn, 1) := by decide +kernel
theorem dX7_isPersonLetter_74 : decode cX7_isPersonLetter 74 = .ok (.iload_n 2, 1) := by decide +kernel
theorem dX7_isPersonLetter_75 : decode cX7_isPersonLetter 75 = .ok (.bipush 44, 2) := by decide +kernel
theorem dX7_isPersonLetter_77 : decode cX7_isPersonLetter 77 = .ok (.if_icmp .ne 9, 3) := by decide +kernel
theorem dX7_isPersonLetter_80 : decode cX7_isPersonLetter 80 = .ok (.iload_n 1, 1) := by decide +kernel
theorem dX7_isPersonLetter_81 : decode cX7_isPersonLetter 81 = .ok (.bipush 15, 2) := by decide +kernel
theorem dX7_isPersonLetter_83 : decode cX7_isPersonLetter 83 = .ok (.if_icmp .lt 14, 3) := by decide +kernel
theorem dX7_isPersonLetter_86 : decode cX7_isPersonLetter 86 = .ok (.iload_n 2, 1) := by decide +kernel
theorem dX7_isPersonLetter_87 : decode cX7_isPersonLetter 87 = .ok (.bipush 59, 2) := by decide +kernel
theorem dX7_isPersonLetter_89 : decode cX7_isPersonLetter 89 = .ok (.if_icmp .ne 12, 3) := by decide +kernel
theorem dX7_isPersonLetter_92 : decode cX7_isPersonLetter 92 = .ok (.iload_n 1, 1) := by decide +kernel
theorem dX7_isPersonLetter_93 : decode cX7_isPersonLetter 93 = .ok (.iconst 3, 1) := by decide +kernel
theorem dX7_isPersonLetter_94 : decode cX7_isPersonLetter 94 = .ok (.if_icmp .le 7, 3) := by decide +kernel
theorem dX7_isPersonLetter_97 : decode cX7_isPersonLetter 97 = .ok (.iconst 1, 1) := by decide +kernel
theorem dX7_isPersonLetter_98 : decode cX7_isPersonLetter 98 = .ok (.goto 4, 3) := by decide +kernel
theorem dX7_isPersonLetter_101 : decode cX7_isPersonLetter 101 = .ok (.iconst 0, 1) := by decide +kernel
theorem dX7_isPersonLetter_102 : decode cX7_isPersonLetter 102 = .ok (.ireturn, 1) := by decide +kernel
theorem dX7_isGood_0 : decode cX7_isGood 0 = .ok (.aload_n 0, 1) := by decide +kernel
theorem dX7_isGood_1 : decode cX7_isGood 1 = .ok (.getfield 95, 3) := by decide +kernel
theorem dX7_isGood_4 : decode cX7_isGood 4 = .ok (.iconst (-1), 1) := by decide +kernel
theorem dX7_isGood_5 : decode cX7_isGood 5 = .ok (.if_icmp .eq 39, 3) := by decide +kernel
theorem dX7_isGood_8 : decode cX7_isGood 8 = .ok (.iload_n 1, 1) := by decide +kernel
theorem dX7_isGood_9 : decode cX7_isGood 9 = .ok (.aload_n 0, 1) := by decide +kernel
theorem dX7_isGood_10 : decode cX7_isGood 10 = .ok (.getfield 95, 3) := by decide +kernel
theorem dX7_isGood_13 : decode cX7_isGood 13 = .ok (.isub, 1) := by decide +kernel
theorem dX7_isGood_14 : decode cX7_isGood 14 = .ok (.bipush 7, 2) := by decide +kernel
theorem dX7_isGood_16 : decode cX7_isGood 16 = .ok (.if_icmp .ge 26, 3) := by decide +kernel
theorem dX7_isGood_19 : decode cX7_isGood 19 = .ok (.aload_n 0, 1) := by decide +kernel
theorem dX7_isGood_20 : decode cX7_isGood 20 = .ok (.getfield 7, 3) := by decide +kernel
theorem dX7_isGood_23 : decode cX7_isGood 23 = .ok (.iload_n 1, 1) := by decide +kernel
theorem dX7_isGood_24 : decode cX7_isGood 24 = .ok (.iaload, 1) := by decide +kernel
theorem dX7_isGood_25 : decode cX7_isGood 25 = .ok (.i2l, 1) := by decide +kernel
theorem dX7_isGood_26 : decode cX7_isGood 26 = .ok (.ldc2_w 87, 3) := by decide +kernel
theorem dX7_isGood_29 : decode cX7_isGood 29 = .ok (.ldc2_w 89, 3) := by decide +kernel
theorem dX7_isGood_32 : decode cX7_isGood 32 = .ok (.invokestatic 76, 3) := by decide +kernel
theorem dX7_isGood_35 : decode cX7_isGood 35 = .ok (.ifCond .eq 7, 3) := by decide +kernel
theorem dX7_isGood_38 : decode cX7_isGood 38 = .ok (.iconst 1, 1) := by decide +kernel
theorem dX7_isGood_39 : decode cX7_isGood 39 = .ok (.goto 4, 3) := by decide +kernel
theorem dX7_isGood_42 : decode cX7_isGood 42 = .ok (.iconst 0, 1) := by decide +kernel
theorem dX7_isGood_43 : decode cX7_isGood 43 = .ok (.ireturn, 1) := by decide +kernel
theorem dX7_isGood_44 : decode cX7_isGood 44 = .ok (.aload_n 0, 1) := by decide +kernel
theorem dX7_isGood_45 : decode cX7_isGood 45 = .ok (.iload_n 1, 1) := by decide +kernel
theorem dX7_isGood_46 : decode cX7_isGood 46 = .ok (.invokevirtual 98, 3) := by decide +kernel
theorem dX7_isGood_49 : decode cX7_isGood 49 = .ok (.istore_n 2, 1) := by decide +kernel
theorem dX7_isGood_50 : decode cX7_isGood 50 = .ok (.aload_n 0, 1) := by decide +kernel
theorem dX7_isGood_51 : decode cX7_isGood 51 = .ok (.iload_n 2, 1) := by decide +kernel
theorem dX7_isGood_52 : decode cX7_isGood 52 = .ok (.ifCond .eq 18, 3) := by decide +kernel
theorem dX7_isGood_55 : decode cX7_isGood 55 = .ok (.aload_n 0, 1) := by decide +kernel
theorem dX7_isGood_56 : decode cX7_isGood 56 = .ok (.getfield 7, 3) := by decide +kernel
theorem dX7_isGood_59 : decode cX7_isGood 59 = .ok (.iload_n 1, 1) := by decide +kernel
theorem dX7_isGood_60 : decode cX7_isGood 60 = .ok (.iaload, 1) := by decide +kernel
theorem dX7_isGood_61 : decode cX7_isGood 61 = .ok (.bipush 59, 2) := by decide +kernel
theorem dX7_isGood_63 : decode cX7_isGood 63 = .ok (.if_icmp .ne 7, 3) := by decide +kernel
theorem dX7_isGood_66 : decode cX7_isGood 66 = .ok (.iload_n 1, 1) := by decide +kernel
theorem dX7_isGood_67 : decode cX7_isGood 67 = .ok (.goto 4, 3) := by decide +kernel
theorem dX7_isGood_70 : decode cX7_isGood 70 = .ok (.iconst (-1), 1) := by decide +kernel
theorem dX7_isGood_71 : decode cX7_isGood 71 = .ok (.putfield 95, 3) := by decide +kernel
theorem dX7_isGood_74 : decode cX7_isGood 74 = .ok (.iload_n 2, 1) := by decide +kernel
theorem dX7_isGood_75 : decode cX7_isGood 75 = .ok (.ireturn, 1) := by decide +kernel
theorem dX7_faultOf_0 : decode cX7_faultOf 0 = .ok (.aload_n 0, 1) := by decide +kernel
theorem dX7_faultOf_1 : decode cX7_faultOf 1 = .ok (.iconst (-1), 1) := by decide +kernel
theorem dX7_faultOf_2 : decode cX7_faultOf 2 = .ok (.putfield 95, 3) := by decide +kernel
theorem dX7_faultOf_5 : decode cX7_faultOf 5 = .ok (.iconst 0, 1) := by decide +kernel
theorem dX7_faultOf_6 : decode cX7_faultOf 6 = .ok (.istore_n 1, 1) := by decide +kernel
theorem dX7_faultOf_7 : decode cX7_faultOf 7 = .ok (.iload_n 1, 1) := by decide +kernel
theorem dX7_faultOf_8 : decode cX7_faultOf 8 = .ok (.aload_n 0, 1) := by decide +kernel
theorem dX7_faultOf_9 : decode cX7_faultOf 9 = .ok (.getfield 80, 3) := by decide +kernel
theorem dX7_faultOf_12 : decode cX7_faultOf 12 = .ok (.if_icmp .ge 17, 3) := by decide +kernel
theorem dX7_faultOf_15 : decode cX7_faultOf 15 = .ok (.aload_n 0, 1) := by decide +kernel
theorem dX7_faultOf_16 : decode cX7_faultOf 16 = .ok (.iload_n 1, 1) := by decide +kernel
theorem dX7_faultOf_17 : decode cX7_faultOf 17 = .ok (.invokevirtual 102, 3) := by decide +kernel
theorem dX7_faultOf_20 : decode cX7_faultOf 20 = .ok (.ifCond .eq 9, 3) := by decide +kernel
theorem dX7_faultOf_23 : decode cX7_faultOf 23 = .ok (.iinc 1 1, 3) := by decide +kernel
theorem dX7_faultOf_26 : decode cX7_faultOf 26 = .ok (.goto (-19), 3) := by decide +kernel
theorem dX7_faultOf_29 : decode cX7_faultOf 29 = .ok (.iload_n 1, 1) := by decide +kernel
theorem dX7_faultOf_30 : decode cX7_faultOf 30 = .ok (.ireturn, 1) := by decide +kernel
theorem dX7_fault_0 : decode cX7_fault 0 = .ok (.aload_n 0, 1) := by decide +kernel
theorem dX7_fault_1 : decode cX7_fault 1 = .ok (.invokevirtual 105, 3) := by decide +kernel
theorem dX7_fault_4 : decode cX7_fault 4 = .ok (.ireturn, 1) := by decide +kernel
theorem dX7_valley_0 : decode cX7_valley 0 = .ok (.aload_n 0, 1) := by decide +kernel
theorem dX7_valley_1 : decode cX7_valley 1 = .ok (.invokevirtual 105, 3) := by decide +kernel
theorem dX7_valley_4 : decode cX7_valley 4 = .ok (.aload_n 0, 1) := by decide +kernel
theorem dX7_valley_5 : decode cX7_valley 5 = .ok (.getfield 80, 3) := by decide +kernel
theorem dX7_valley_8 : decode cX7_valley 8 = .ok (.if_icmp .lt 24, 3) := by decide +kernel
theorem dX7_valley_11 : decode cX7_valley 11 = .ok (.aload_n 0, 1) := by decide +kernel
theorem dX7_valley_12 : decode cX7_valley 12 = .ok (.getfield 95, 3) := by decide +kernel
theorem dX7_valley_15 : decode cX7_valley 15 = .ok (.iconst (-1), 1) := by decide +kernel
theorem dX7_valley_16 : decode cX7_valley 16 = .ok (.if_icmp .eq 16, 3) := by decide +kernel
theorem dX7_valley_19 : decode cX7_valley 19 = .ok (.aload_n 0, 1) := by decide +kernel
theorem dX7_valley_20 : decode cX7_valley 20 = .ok (.getfield 80, 3) := by decide +kernel
theorem dX7_valley_23 : decode cX7_valley 23 = .ok (.aload_n 0, 1) := by decide +kernel
theorem dX7_valley_24 : decode cX7_valley 24 = .ok (.getfield 95, 3) := by decide +kernel
theorem dX7_valley_27 : decode cX7_valley 27 = .ok (.isub, 1) := by decide +kernel
theorem dX7_valley_28 : decode cX7_valley 28 = .ok (.iconst 3, 1) := by decide +kernel
theorem dX7_valley_29 : decode cX7_valley 29 = .ok (.if_icmp .ge 6, 3) := by decide +kernel
theorem dX7_valley_32 : decode cX7_valley 32 = .ok (.bipush (-103), 2) := by decide +kernel
theorem dX7_valley_34 : decode cX7_valley 34 = .ok (.ireturn, 1) := by decide +kernel
theorem dX7_valley_35 : decode cX7_valley 35 = .ok (.aload_n 0, 1) := by decide +kernel
theorem dX7_valley_36 : decode cX7_valley 36 = .ok (.aload_n 0, 1) := by decide +kernel
theorem dX7_valley_37 : decode cX7_valley 37 = .ok (.getfield 95, 3) := by decide +kernel
theorem dX7_valley_40 : decode cX7_valley 40 = .ok (.iconst 1, 1) := by decide +kernel
theorem dX7_valley_41 : decode cX7_valley 41 = .ok (.iadd, 1) := by decide +kernel
theorem dX7_valley_42 : decode cX7_valley 42 = .ok (.iconst 4, 1) := by decide +kernel
theorem dX7_valley_43 : decode cX7_valley 43 = .ok (.idiv, 1) := by decide +kernel
theorem dX7_valley_44 : decode cX7_valley 44 = .ok (.putfield 109, 3) := by decide +kernel
theorem dX7_valley_47 : decode cX7_valley 47 = .ok (.aload_n 0, 1) := by decide +kernel
theorem dX7_valley_48 : decode cX7_valley 48 = .ok (.aload_n 0, 1) := by decide +kernel
theorem dX7_valley_49 : decode cX7_valley 49 = .ok (.getfield 80, 3) := by decide +kernel
theorem dX7_valley_52 : decode cX7_valley 52 = .ok (.aload_n 0, 1) := by decide +kernel
theorem dX7_valley_53 : decode cX7_valley 53 = .ok (.getfield 95, 3) := by decide +kernel
theorem dX7_valley_56 : decode cX7_valley 56 = .ok (.isub, 1) := by decide +kernel
theorem dX7_valley_57 : decode cX7_valley 57 = .ok (.iconst 1, 1) := by decide +kernel
theorem dX7_valley_58 : decode cX7_valley 58 = .ok (.isub, 1) := by decide +kernel
theorem dX7_valley_59 : decode cX7_valley 59 = .ok (.putfield 112, 3) := by decide +kernel
theorem dX7_valley_62 : decode cX7_valley 62 = .ok (.iconst 0, 1) := by decide +kernel
theorem dX7_valley_63 : decode cX7_valley 63 = .ok (.istore_n 1, 1) := by decide +kernel
theorem dX7_valley_64 : decode cX7_valley 64 = .ok (.iload_n 1, 1) := by decide +kernel
theorem dX7_valley_65 : decode cX7_valley 65 = .ok (.aload_n 0, 1) := by decide +kernel
theorem dX7_valley_66 : decode cX7_valley 66 = .ok (.getfield 109, 3) := by decide +kernel
theorem dX7_valley_69 : decode cX7_valley 69 = .ok (.if_icmp .ge 88, 3) := by decide +kernel
theorem dX7_valley_72 : decode cX7_valley 72 = .ok (.aload_n 0, 1) := by decide +kernel
theorem dX7_valley_73 : decode cX7_valley 73 = .ok (.getfield 13, 3) := by decide +kernel
theorem dX7_valley_76 : decode cX7_valley 76 = .ok (.iconst 3, 1) := by decide +kernel
theorem dX7_valley_77 : decode cX7_valley 77 = .ok (.iload_n 1, 1) := by decide +kernel
theorem dX7_valley_78 : decode cX7_valley 78 = .ok (.imul, 1) := by decide +kernel
theorem dX7_valley_79 : decode cX7_valley 79 = .ok (.aload_n 0, 1) := by decide +kernel
theorem dX7_valley_80 : decode cX7_valley 80 = .ok (.getfield 7, 3) := by decide +kernel
theorem dX7_valley_83 : decode cX7_valley 83 = .ok (.iconst 4, 1) := by decide +kernel
theorem dX7_valley_84 : decode cX7_valley 84 = .ok (.iload_n 1, 1) := by decide +kernel
theorem dX7_valley_85 : decode cX7_valley 85 = .ok (.imul, 1) := by decide +kernel
theorem dX7_valley_86 : decode cX7_valley 86 = .ok (.iaload, 1) := by decide +kernel
theorem dX7_valley_87 : decode cX7_valley 87 = .ok (.invokestatic 83, 3) := by decide +kernel
theorem dX7_valley_90 : decode cX7_valley 90 = .ok (.iastore, 1) := by decide +kernel
theorem dX7_valley_91 : decode cX7_valley 91 = .ok (.aload_n 0, 1) := by decide +kernel
theorem dX7_valley_92 : decode cX7_valley 92 = .ok (.getfield 13, 3) := by decide +kernel
theorem dX7_valley_95 : decode cX7_valley 95 = .ok (.iconst 3, 1) := by decide +kernel
theorem dX7_valley_96 : decode cX7_valley 96 = .ok (.iload_n 1, 1) := by decide +kernel
theorem dX7_valley_97 : decode cX7_valley 97 = .ok (.imul, 1) := by decide +kernel
theorem dX7_valley_98 : decode cX7_valley 98 = .ok (.iconst 1, 1) := by decide +kernel
theorem dX7_valley_99 : decode cX7_valley 99 = .ok (.iadd, 1) := by decide +kernel
theorem dX7_valley_100 : decode cX7_valley 100 = .ok (.aload_n 0, 1) := by decide +kernel
theorem dX7_valley_101 : decode cX7_valley 101 = .ok (.getfield 7, 3) := by decide +kernel
theorem dX7_valley_104 : decode cX7_valley 104 = .ok (.iconst 4, 1) := by decide +kernel
theorem dX7_valley_105 : decode cX7_valley 105 = .ok (.iload_n 1, 1) := by decide +kernel
theorem dX7_valley_106 : decode cX7_valley 106 = .ok (.imul, 1) := by decide +kernel
theorem dX7_valley_107 : decode cX7_valley 107 = .ok (.iconst 1, 1) := by decide +kernel
theorem dX7_valley_108 : decode cX7_valley 108 = .ok (.iadd, 1) := by decide +kernel
theorem dX7_valley_109 : decode cX7_valley 109 = .ok (.iaload, 1) := by decide +kernel
theorem dX7_valley_110 : decode cX7_valley 110 = .ok (.bipush 48, 2) := by decide +kernel
theorem dX7_valley_112 : decode cX7_valley 112 = .ok (.isub, 1) := by decide +kernel
theorem dX7_valley_113 : decode cX7_valley 113 = .ok (.iastore, 1) := by decide +kernel
theorem dX7_valley_114 : decode cX7_valley 114 = .ok (.aload_n 0, 1) := by decide +kernel
theorem dX7_valley_115 : decode cX7_valley 115 = .ok (.getfield 13, 3) := by decide +kernel
theorem dX7_valley_118 : decode cX7_valley 118 = .ok (.iconst 3, 1) := by decide +kernel
theorem dX7_valley_119 : decode cX7_valley 119 = .ok (.iload_n 1, 1) := by decide +kernel
theorem dX7_valley_120 : decode cX7_valley 120 = .ok (.imul, 1) := by decide +kernel
theorem dX7_valley_121 : decode cX7_valley 121 = .ok (.iconst 2, 1) := by decide +kernel
theorem dX7_valley_122 : decode cX7_valley 122 = .ok (.iadd, 1) := by decide +kernel
theorem dX7_valley_123 : decode cX7_valley 123 = .ok (.iconst 0, 1) := by decide +kernel
theorem dX7_valley_124 : decode cX7_valley 124 = .ok (.iastore, 1) := by decide +kernel
theorem dX7_valley_125 : decode cX7_valley 125 = .ok (.aload_n 0, 1) := by decide +kernel
theorem dX7_valley_126 : decode cX7_valley 126 = .ok (.getfield 16, 3) := by decide +kernel
theorem dX7_valley_129 : decode cX7_valley 129 = .ok (.iload_n 1, 1) := by decide +kernel
theorem dX7_valley_130 : decode cX7_valley 130 = .ok (.aload_n 0, 1) := by decide +kernel
theorem dX7_valley_131 : decode cX7_valley 131 = .ok (.getfield 7, 3) := by decide +kernel
theorem dX7_valley_134 : decode cX7_valley 134 = .ok (.iconst 4, 1) := by decide +kernel
theorem dX7_valley_135 : decode cX7_valley 135 = .ok (.iload_n 1, 1) := by decide +kernel
theorem dX7_valley_136 : decode cX7_valley 136 = .ok (.imul, 1) := by decide +kernel
theorem dX7_valley_137 : decode cX7_valley 137 = .ok (.iconst 2, 1) := by decide +kernel
theorem dX7_valley_138 : decode cX7_valley 138 = .ok (.iadd, 1) := by decide +kernel
theorem dX7_valley_139 : decode cX7_valley 139 = .ok (.iaload, 1) := by decide +kernel
theorem dX7_valley_140 : decode cX7_valley 140 = .ok (.bipush 48, 2) := by decide +kernel
theorem dX7_valley_142 : decode cX7_valley 142 = .ok (.isub, 1) := by decide +kernel
theorem dX7_valley_143 : decode cX7_valley 143 = .ok (.iastore, 1) := by decide +kernel
theorem dX7_valley_144 : decode cX7_valley 144 = .ok (.aload_n 0, 1) := by decide +kernel
theorem dX7_valley_145 : decode cX7_valley 145 = .ok (.getfield 19, 3) := by decide +kernel
theorem dX7_valley_148 : decode cX7_valley 148 = .ok (.iload_n 1, 1) := by decide +kernel
theorem dX7_valley_149 : decode cX7_valley 149 = .ok (.iconst 0, 1) := by decide +kernel
theorem dX7_valley_150 : decode cX7_valley 150 = .ok (.iastore, 1) := by decide +kernel
theorem dX7_valley_151 : decode cX7_valley 151 = .ok (.iinc 1 1, 3) := by decide +kernel
theorem dX7_valley_154 : decode cX7_valley 154 = .ok (.goto (-90), 3) := by decide +kernel
theorem dX7_valley_157 : decode cX7_valley 157 = .ok (.iconst 0, 1) := by decide +kernel
theorem dX7_valley_158 : decode cX7_valley 158 = .ok (.istore_n 1, 1) := by decide +kernel
theorem dX7_valley_159 : decode cX7_valley 159 = .ok (.iload_n 1, 1) := by decide +kernel
theorem dX7_valley_160 : decode cX7_valley 160 = .ok (.aload_n 0, 1) := by decide +kernel
theorem dX7_valley_161 : decode cX7_valley 161 = .ok (.getfield 112, 3) := by decide +kernel
theorem dX7_valley_164 : decode cX7_valley 164 = .ok (.if_icmp .ge 38, 3) := by decide +kernel
theorem dX7_valley_167 : decode cX7_valley 167 = .ok (.aload_n 0, 1) := by decide +kernel
theorem dX7_valley_168 : decode cX7_valley 168 = .ok (.getfield 22, 3) := by decide +kernel
theorem dX7_valley_171 : decode cX7_valley 171 = .ok (.iload_n 1, 1) := by decide +kernel
theorem dX7_valley_172 : decode cX7_valley 172 = .ok (.aload_n 0, 1) := by decide +kernel
theorem dX7_valley_173 : decode cX7_valley 173 = .ok (.getfield 7, 3) := by decide +kernel
theorem dX7_valley_176 : decode cX7_valley 176 = .ok (.aload_n 0, 1) := by decide +kernel
theorem dX7_valley_177 : decode cX7_valley 177 = .ok (.getfield 95, 3) := by decide +kernel
theorem dX7_valley_180 : decode cX7_valley 180 = .ok (.iconst 1, 1) := by decide +kernel
theorem dX7_valley_181 : decode cX7_valley 181 = .ok (.iadd, 1) := by decide +kernel
theorem dX7_valley_182 : decode cX7_valley 182 = .ok (.iload_n 1, 1) := by decide +kernel
theorem dX7_valley_183 : decode cX7_valley 183 = .ok (.iadd, 1) := by decide +kernel
theorem dX7_valley_184 : decode cX7_valley 184 = .ok (.iaload, 1) := by decide +kernel
theorem dX7_valley_185 : decode cX7_valley 185 = .ok (.bipush 48, 2) := by decide +kernel
theorem dX7_valley_187 : decode cX7_valley 187 = .ok (.isub, 1) := by decide +kernel
theorem dX7_valley_188 : decode cX7_valley 188 = .ok (.iastore, 1) := by decide +kernel
theorem dX7_valley_189 : decode cX7_valley 189 = .ok (.aload_n 0, 1) := by decide +kernel
theorem dX7_valley_190 : decode cX7_valley 190 = .ok (.getfield 25, 3) := by decide +kernel
theorem dX7_valley_193 : decode cX7_valley 193 = .ok (.iload_n 1, 1) := by decide +kernel
theorem dX7_valley_194 : decode cX7_valley 194 = .ok (.iconst 0, 1) := by decide +kernel
theorem dX7_valley_195 : decode cX7_valley 195 = .ok (.iastore, 1) := by decide +kernel
theorem dX7_valley_196 : decode cX7_valley 196 = .ok (.iinc 1 1, 3) := by decide +kernel
theorem dX7_valley_199 : decode cX7_valley 199 = .ok (.goto (-40), 3) := by decide +kernel
theorem dX7_valley_202 : decode cX7_valley 202 = .ok (.iconst 0, 1) := by decide +kernel
theorem dX7_valley_203 : decode cX7_valley 203 = .ok (.istore_n 1, 1) := by decide +kernel
theorem dX7_valley_204 : decode cX7_valley 204 = .ok (.iload_n 1, 1) := by decide +kernel
theorem dX7_valley_205 : decode cX7_valley 205 = .ok (.iconst 4, 1) := by decide +kernel
theorem dX7_valley_206 : decode cX7_valley 206 = .ok (.if_icmp .ge 16, 3) := by decide +kernel
theorem dX7_valley_209 : decode cX7_valley 209 = .ok (.aload_n 0, 1) := by decide +kernel
theorem dX7_valley_210 : decode cX7_valley 210 = .ok (.getfield 28, 3) := by decide +kernel
theorem dX7_valley_213 : decode cX7_valley 213 = .ok (.iload_n 1, 1) := by decide +kernel
theorem dX7_valley_214 : decode cX7_valley 214 = .ok (.iconst 0, 1) := by decide +kernel
theorem dX7_valley_215 : decode cX7_valley 215 = .ok (.iastore, 1) := by decide +kernel
theorem dX7_valley_216 : decode cX7_valley 216 = .ok (.iinc 1 1, 3) := by decide +kernel
theorem dX7_valley_219 : decode cX7_valley 219 = .ok (.goto (-15), 3) := by decide +kernel
theorem dX7_valley_222 : decode cX7_valley 222 = .ok (.aload_n 0, 1) := by decide +kernel
theorem dX7_valley_223 : decode cX7_valley 223 = .ok (.iconst 0, 1) := by decide +kernel
theorem dX7_valley_224 : decode cX7_valley 224 = .ok (.putfield 115, 3) := by decide +kernel
theorem dX7_valley_227 : decode cX7_valley 227 = .ok (.aload_n 0, 1) := by decide +kernel
theorem dX7_valley_228 : decode cX7_valley 228 = .ok (.iconst 0, 1) := by decide +kernel
theorem dX7_valley_229 : decode cX7_valley 229 = .ok (.putfield 118, 3) := by decide +kernel
theorem dX7_valley_232 : decode cX7_valley 232 = .ok (.aload_n 0, 1) := by decide +kernel
theorem dX7_valley_233 : decode cX7_valley 233 = .ok (.iconst 0, 1) := by decide +kernel
theorem dX7_valley_234 : decode cX7_valley 234 = .ok (.putfield 121, 3) := by decide +kernel
theorem dX7_valley_237 : decode cX7_valley 237 = .ok (.aload_n 0, 1) := by decide +kernel
theorem dX7_valley_238 : decode cX7_valley 238 = .ok (.iconst 0, 1) := by decide +kernel
theorem dX7_valley_239 : decode cX7_valley 239 = .ok (.putfield 124, 3) := by decide +kernel
theorem dX7_valley_242 : decode cX7_valley 242 = .ok (.aload_n 0, 1) := by decide +kernel
theorem dX7_valley_243 : decode cX7_valley 243 = .ok (.iconst 0, 1) := by decide +kernel
theorem dX7_valley_244 : decode cX7_valley 244 = .ok (.putfield 127, 3) := by decide +kernel
theorem dX7_valley_247 : decode cX7_valley 247 = .ok (.aload_n 0, 1) := by decide +kernel
theorem dX7_valley_248 : decode cX7_valley 248 = .ok (.dup, 1) := by decide +kernel
theorem dX7_valley_249 : decode cX7_valley 249 = .ok (.getfield 130, 3) := by decide +kernel
theorem dX7_valley_252 : decode cX7_valley 252 = .ok (.iconst 1, 1) := by decide +kernel
theorem dX7_valley_253 : decode cX7_valley 253 = .ok (.iadd, 1) := by decide +kernel
theorem dX7_valley_254 : decode cX7_valley 254 = .ok (.putfield 130, 3) := by decide +kernel
theorem dX7_valley_257 : decode cX7_valley 257 = .ok (.aload_n 0, 1) := by decide +kernel
theorem dX7_valley_258 : decode cX7_valley 258 = .ok (.iconst 0, 1) := by decide +kernel
theorem dX7_valley_259 : decode cX7_valley 259 = .ok (.putfield 80, 3) := by decide +kernel
theorem dX7_valley_262 : decode cX7_valley 262 = .ok (.aload_n 0, 1) := by decide +kernel
theorem dX7_valley_263 : decode cX7_valley 263 = .ok (.getfield 112, 3) := by decide +kernel
theorem dX7_valley_266 : decode cX7_valley 266 = .ok (.ireturn, 1) := by decide +kernel
theorem dX7_lacks_0 : decode cX7_lacks 0 = .ok (.aload_n 0, 1) := by decide +kernel
theorem dX7_lacks_1 : decode cX7_lacks 1 = .ok (.getfield 109, 3) := by decide +kernel
theorem dX7_lacks_4 : decode cX7_lacks 4 = .ok (.ifCond .ne 7, 3) := by decide +kernel
theorem dX7_lacks_7 : decode cX7_lacks 7 = .ok (.iconst 1, 1) := by decide +kernel
theorem dX7_lacks_8 : decode cX7_lacks 8 = .ok (.goto 4, 3) := by decide +kernel
theorem dX7_lacks_11 : decode cX7_lacks 11 = .ok (.iconst 0, 1) := by decide +kernel
theorem dX7_lacks_12 : decode cX7_lacks 12 = .ok (.ireturn, 1) := by decide +kernel
theorem dX7_isPerson_0 : decode cX7_isPerson 0 = .ok (.iload_n 1, 1) := by decide +kernel
theorem dX7_isPerson_1 : decode cX7_isPerson 1 = .ok (.i2l, 1) := by decide +kernel
theorem dX7_isPerson_2 : decode cX7_isPerson 2 = .ok (.lconst 0, 1) := by decide +kernel
theorem dX7_isPerson_3 : decode cX7_isPerson 3 = .ok (.aload_n 0, 1) := by decide +kernel
theorem dX7_isPerson_4 : decode cX7_isPerson 4 = .ok (.getfield 109, 3) := by decide +kernel
theorem dX7_isPerson_7 : decode cX7_isPerson 7 = .ok (.iconst 1, 1) := by decide +kernel
theorem dX7_isPerson_8 : decode cX7_isPerson 8 = .ok (.isub, 1) := by decide +kernel
theorem dX7_isPerson_9 : decode cX7_isPerson 9 = .ok (.i2l, 1) := by decide +kernel
theorem dX7_isPerson_10 : decode cX7_isPerson 10 = .ok (.invokestatic 76, 3) := by decide +kernel
theorem dX7_isPerson_13 : decode cX7_isPerson 13 = .ok (.ireturn, 1) := by decide +kernel
theorem dX7_isPail_0 : decode cX7_isPail 0 = .ok (.iload_n 1, 1) := by decide +kernel
theorem dX7_isPail_1 : decode cX7_isPail 1 = .ok (.i2l, 1) := by decide +kernel
theorem dX7_isPail_2 : decode cX7_isPail 2 = .ok (.lconst 0, 1) := by decide +kernel
theorem dX7_isPail_3 : decode cX7_isPail 3 = .ok (.aload_n 0, 1) := by decide +kernel
theorem dX7_isPail_4 : decode cX7_isPail 4 = .ok (.getfield 112, 3) := by decide +kernel
theorem dX7_isPail_7 : decode cX7_isPail 7 = .ok (.iconst 1, 1) := by decide +kernel
theorem dX7_isPail_8 : decode cX7_isPail 8 = .ok (.isub, 1) := by decide +kernel
theorem dX7_isPail_9 : decode cX7_isPail 9 = .ok (.i2l, 1) := by decide +kernel
theorem dX7_isPail_10 : decode cX7_isPail 10 = .ok (.invokestatic 76, 3) := by decide +kernel
theorem dX7_isPail_13 : decode cX7_isPail 13 = .ok (.ireturn, 1) := by decide +kernel
theorem dX7_isPlace_0 : decode cX7_isPlace 0 = .ok (.aload_n 0, 1) := by decide +kernel
theorem dX7_isPlace_1 : decode cX7_isPlace 1 = .ok (.invokevirtual 133, 3) := by decide +kernel
theorem dX7_isPlace_4 : decode cX7_isPlace 4 = .ok (.ifCond .ne 19, 3) := by decide +kernel
theorem dX7_isPlace_7 : decode cX7_isPlace 7 = .ok (.iload_n 1, 1) := by decide +kernel
theorem dX7_isPlace_8 : decode cX7_isPlace 8 = .ok (.i2l, 1) := by decide +kernel
theorem dX7_isPlace_9 : decode cX7_isPlace 9 = .ok (.lconst 0, 1) := by decide +kernel
theorem dX7_isPlace_10 : decode cX7_isPlace 10 = .ok (.ldc2_w 137, 3) := by decide +kernel
theorem dX7_isPlace_13 : decode cX7_isPlace 13 = .ok (.invokestatic 76, 3) := by decide +kernel
theorem dX7_isPlace_16 : decode cX7_isPlace 16 = .ok (.ifCond .eq 7, 3) := by decide +kernel
theorem dX7_isPlace_19 : decode cX7_isPlace 19 = .ok (.iconst 1, 1) := by decide +kernel
theorem dX7_isPlace_20 : decode cX7_isPlace 20 = .ok (.goto 4, 3) := by decide +kernel
theorem dX7_isPlace_23 : decode cX7_isPlace 23 = .ok (.iconst 0, 1) := by decide +kernel
theorem dX7_isPlace_24 : decode cX7_isPlace 24 = .ok (.ireturn, 1) := by decide +kernel
theorem dX7_isBottle_0 : decode cX7_isBottle 0 = .ok (.aload_n 0, 1) := by decide +kernel
theorem dX7_isBottle_1 : decode cX7_isBottle 1 = .ok (.invokevirtual 133, 3) := by decide +kernel
theorem dX7_isBottle_4 : decode cX7_isBottle 4 = .ok (.ifCond .ne 19, 3) := by decide +kernel
theorem dX7_isBottle_7 : decode cX7_isBottle 7 = .ok (.iload_n 1, 1) := by decide +kernel
theorem dX7_isBottle_8 : decode cX7_isBottle 8 = .ok (.i2l, 1) := by decide +kernel
theorem dX7_isBottle_9 : decode cX7_isBottle 9 = .ok (.lconst 0, 1) := by decide +kernel
theorem dX7_isBottle_10 : decode cX7_isBottle 10 = .ok (.ldc2_w 139, 3) := by decide +kernel
theorem dX7_isBottle_13 : decode cX7_isBottle 13 = .ok (.invokestatic 76, 3) := by decide +kernel
theorem dX7_isBottle_16 : decode cX7_isBottle 16 = .ok (.ifCond .eq 7, 3) := by decide +kernel
theorem dX7_isBottle_19 : decode cX7_isBottle 19 = .ok (.iconst 1, 1) := by decide +kernel
theorem dX7_isBottle_20 : decode cX7_isBottle 20 = .ok (.goto 4, 3) := by decide +kernel
theorem dX7_isBottle_23 : decode cX7_isBottle 23 = .ok (.iconst 0, 1) := by decide +kernel
theorem dX7_isBottle_24 : decode cX7_isBottle 24 = .ok (.ireturn, 1) := by decide +kernel
theorem dX7_grievedBy_0 : decode cX7_grievedBy 0 = .ok (.iload_n 2, 1) := by decide +kernel
theorem dX7_grievedBy_1 : decode cX7_grievedBy 1 = .ok (.ifCond .ne 7, 3) := by decide +kernel
theorem dX7_grievedBy_4 : decode cX7_grievedBy 4 = .ok (.iconst 4, 1) := by decide +kernel
theorem dX7_grievedBy_5 : decode cX7_grievedBy 5 = .ok (.goto 24, 3) := by decide +kernel
theorem dX7_grievedBy_8 : decode cX7_grievedBy 8 = .ok (.iload_n 2, 1) := by decide +kernel
theorem dX7_grievedBy_9 : decode cX7_grievedBy 9 = .ok (.iconst 2, 1) := by decide +kernel
theorem dX7_grievedBy_10 : decode cX7_grievedBy 10 = .ok (.if_icmp .ne 7, 3) := by decide +kernel
theorem dX7_grievedBy_13 : decode cX7_grievedBy 13 = .ok (.iconst 2, 1) := by decide +kernel
theorem dX7_grievedBy_14 : decode cX7_grievedBy 14 = .ok (.goto 15, 3) := by decide +kernel
theorem dX7_grievedBy_17 : decode cX7_grievedBy 17 = .ok (.iload_n 0, 1) := by decide +kernel
theorem dX7_grievedBy_18 : decode cX7_grievedBy 18 = .ok (.iconst 3, 1) := by decide +kernel
theorem dX7_grievedBy_19 : decode cX7_grievedBy 19 = .ok (.if_icmp .ne 8, 3) := by decide +kernel
theorem dX7_grievedBy_22 : decode cX7_grievedBy 22 = .ok (.bipush 12, 2) := by decide +kernel
theorem dX7_grievedBy_24 : decode cX7_grievedBy 24 = .ok (.goto 5, 3) := by decide +kernel
theorem dX7_grievedBy_27 : decode cX7_grievedBy 27 = .ok (.bipush 6, 2) := by decide +kernel
theorem dX7_grievedBy_29 : decode cX7_grievedBy 29 = .ok (.istore_n 3, 1) := by decide +kernel
theorem dX7_grievedBy_30 : decode cX7_grievedBy 30 = .ok (.iload_n 3, 1) := by decide +kernel
theorem dX7_grievedBy_31 : decode cX7_grievedBy 31 = .ok (.iload_n 1, 1) := by decide +kernel
theorem dX7_grievedBy_32 : decode cX7_grievedBy 32 = .ok (.imul, 1) := by decide +kernel
theorem dX7_grievedBy_33 : decode cX7_grievedBy 33 = .ok (.iconst 5, 1) := by decide +kernel
theorem dX7_grievedBy_34 : decode cX7_grievedBy 34 = .ok (.idiv, 1) := by decide +kernel
theorem dX7_grievedBy_35 : decode cX7_grievedBy 35 = .ok (.istore 4, 2) := by decide +kernel
theorem dX7_grievedBy_37 : decode cX7_grievedBy 37 = .ok (.iload_n 0, 1) := by decide +kernel
theorem dX7_grievedBy_38 : decode cX7_grievedBy 38 = .ok (.iconst 1, 1) := by decide +kernel
theorem dX7_grievedBy_39 : decode cX7_grievedBy 39 = .ok (.if_icmp .eq 8, 3) := by decide +kernel
theorem dX7_grievedBy_42 : decode cX7_grievedBy 42 = .ok (.iload_n 0, 1) := by decide +kernel
theorem dX7_grievedBy_43 : decode cX7_grievedBy 43 = .ok (.iconst 4, 1) := by decide +kernel
theorem dX7_grievedBy_44 : decode cX7_grievedBy 44 = .ok (.if_icmp .ne 10, 3) := by decide +kernel
theorem dX7_grievedBy_47 : decode cX7_grievedBy 47 = .ok (.iload 4, 2) := by decide +kernel
theorem dX7_grievedBy_49 : decode cX7_grievedBy 49 = .ok (.iconst 2, 1) := by decide +kernel
theorem dX7_grievedBy_50 : decode cX7_grievedBy 50 = .ok (.idiv, 1) := by decide +kernel
theorem dX7_grievedBy_51 : decode cX7_grievedBy 51 = .ok (.goto 5, 3) := by decide +kernel
theorem dX7_grievedBy_54 : decode cX7_grievedBy 54 = .ok (.iload 4, 2) := by decide +kernel
theorem dX7_grievedBy_56 : decode cX7_grievedBy 56 = .ok (.ireturn, 1) := by decide +kernel
theorem dX7_topped_0 : decode cX7_topped 0 = .ok (.iload_n 0, 1) := by decide +kernel
theorem dX7_topped_1 : decode cX7_topped 1 = .ok (.bipush 99, 2) := by decide +kernel
theorem dX7_topped_3 : decode cX7_topped 3 = .ok (.if_icmp .le 8, 3) := by decide +kernel
theorem dX7_topped_6 : decode cX7_topped 6 = .ok (.bipush 99, 2) := by decide +kernel
theorem dX7_topped_8 : decode cX7_topped 8 = .ok (.goto 4, 3) := by decide +kernel
theorem dX7_topped_11 : decode cX7_topped 11 = .ok (.iload_n 0, 1) := by decide +kernel
theorem dX7_topped_12 : decode cX7_topped 12 = .ok (.ireturn, 1) := by decide +kernel
theorem dX7_slightOn_0 : decode cX7_slightOn 0 = .ok (.iload_n 2, 1) := by decide +kernel
theorem dX7_slightOn_1 : decode cX7_slightOn 1 = .ok (.iconst (-1), 1) := by decide +kernel
theorem dX7_slightOn_2 : decode cX7_slightOn 2 = .ok (.if_icmp .eq 41, 3) := by decide +kernel
theorem dX7_slightOn_5 : decode cX7_slightOn 5 = .ok (.iload_n 2, 1) := by decide +kernel
theorem dX7_slightOn_6 : decode cX7_slightOn 6 = .ok (.iconst 3, 1) := by decide +kernel
theorem dX7_slightOn_7 : decode cX7_slightOn 7 = .ok (.idiv, 1) := by decide +kernel
theorem dX7_slightOn_8 : decode cX7_slightOn 8 = .ok (.istore_n 3, 1) := by decide +kernel
theorem dX7_slightOn_9 : decode cX7_slightOn 9 = .ok (.aload_n 1, 1) := by decide +kernel
theorem dX7_slightOn_10 : decode cX7_slightOn 10 = .ok (.iload_n 3, 1) := by decide +kernel
theorem dX7_slightOn_11 : decode cX7_slightOn 11 = .ok (.aload_n 1, 1) := by decide +kernel
theorem dX7_slightOn_12 : decode cX7_slightOn 12 = .ok (.iload_n 3, 1) := by decide +kernel
theorem dX7_slightOn_13 : decode cX7_slightOn 13 = .ok (.iaload, 1) := by decide +kernel
theorem dX7_slightOn_14 : decode cX7_slightOn 14 = .ok (.aload_n 0, 1) := by decide +kernel
theorem dX7_slightOn_15 : decode cX7_slightOn 15 = .ok (.getfield 13, 3) := by decide +kernel
theorem dX7_slightOn_18 : decode cX7_slightOn 18 = .ok (.iconst 3, 1) := by decide +kernel
theorem dX7_slightOn_19 : decode cX7_slightOn 19 = .ok (.iload_n 3, 1) := by decide +kernel
theorem dX7_slightOn_20 : decode cX7_slightOn 20 = .ok (.imul, 1) := by decide +kernel
theorem dX7_slightOn_21 : decode cX7_slightOn 21 = .ok (.iaload, 1) := by decide +kernel
theorem dX7_slightOn_22 : decode cX7_slightOn 22 = .ok (.aload_n 0, 1) := by decide +kernel
theorem dX7_slightOn_23 : decode cX7_slightOn 23 = .ok (.getfield 13, 3) := by decide +kernel
theorem dX7_slightOn_26 : decode cX7_slightOn 26 = .ok (.iconst 3, 1) := by decide +kernel
theorem dX7_slightOn_27 : decode cX7_slightOn 27 = .ok (.iload_n 3, 1) := by decide +kernel
theorem dX7_slightOn_28 : decode cX7_slightOn 28 = .ok (.imul, 1) := by decide +kernel
theorem dX7_slightOn_29 : decode cX7_slightOn 29 = .ok (.iconst 1, 1) := by decide +kernel
theorem dX7_slightOn_30 : decode cX7_slightOn 30 = .ok (.iadd, 1) := by decide +kernel
theorem dX7_slightOn_31 : decode cX7_slightOn 31 = .ok (.iaload, 1) := by decide +kernel
theorem dX7_slightOn_32 : decode cX7_slightOn 32 = .ok (.iload_n 2, 1) := by decide +kernel
theorem dX7_slightOn_33 : decode cX7_slightOn 33 = .ok (.iconst 3, 1) := by decide +kernel
theorem dX7_slightOn_34 : decode cX7_slightOn 34 = .ok (.irem, 1) := by decide +kernel
theorem dX7_slightOn_35 : decode cX7_slightOn 35 = .ok (.invokestatic 141, 3) := by decide +kernel
theorem dX7_slightOn_38 : decode cX7_slightOn 38 = .ok (.iadd, 1) := by decide +kernel
theorem dX7_slightOn_39 : decode cX7_slightOn 39 = .ok (.invokestatic 145, 3) := by decide +kernel
theorem dX7_slightOn_42 : decode cX7_slightOn 42 = .ok (.iastore, 1) := by decide +kernel
theorem dX7_slightOn_43 : decode cX7_slightOn 43 = .ok (.return_, 1) := by decide +kernel
theorem dX7_nightOn_0 : decode cX7_nightOn 0 = .ok (.iconst 0, 1) := by decide +kernel
theorem dX7_nightOn_1 : decode cX7_nightOn 1 = .ok (.istore_n 2, 1) := by decide +kernel
theorem dX7_nightOn_2 : decode cX7_nightOn 2 = .ok (.iload_n 2, 1) := by decide +kernel
theorem dX7_nightOn_3 : decode cX7_nightOn 3 = .ok (.aload_n 0, 1) := by decide +kernel
theorem dX7_nightOn_4 : decode cX7_nightOn 4 = .ok (.getfield 109, 3) := by decide +kernel
theorem dX7_nightOn_7 : decode cX7_nightOn 7 = .ok (.if_icmp .ge 63, 3) := by decide +kernel
theorem dX7_nightOn_10 : decode cX7_nightOn 10 = .ok (.aload_n 0, 1) := by decide +kernel
theorem dX7_nightOn_11 : decode cX7_nightOn 11 = .ok (.getfield 13, 3) := by decide +kernel
theorem dX7_nightOn_14 : decode cX7_nightOn 14 = .ok (.iconst 3, 1) := by decide +kernel
theorem dX7_nightOn_15 : decode cX7_nightOn 15 = .ok (.iload_n 2, 1) := by decide +kernel
theorem dX7_nightOn_16 : decode cX7_nightOn 16 = .ok (.imul, 1) := by decide +kernel
theorem dX7_nightOn_17 : decode cX7_nightOn 17 = .ok (.iaload, 1) := by decide +kernel
theorem dX7_nightOn_18 : decode cX7_nightOn 18 = .ok (.istore_n 3, 1) := by decide +kernel
theorem dX7_nightOn_19 : decode cX7_nightOn 19 = .ok (.aload_n 1, 1) := by decide +kernel
theorem dX7_nightOn_20 : decode cX7_nightOn 20 = .ok (.iload_n 2, 1) := by decide +kernel
theorem dX7_nightOn_21 : decode cX7_nightOn 21 = .ok (.iaload, 1) := by decide +kernel
theorem dX7_nightOn_22 : decode cX7_nightOn 22 = .ok (.iconst 2, 1) := by decide +kernel
theorem dX7_nightOn_23 : decode cX7_nightOn 23 = .ok (.idiv, 1) := by decide +kernel
theorem dX7_nightOn_24 : decode cX7_nightOn 24 = .ok (.istore 4, 2) := by decide +kernel
theorem dX7_nightOn_26 : decode cX7_nightOn 26 = .ok (.iload_n 3, 1) := by decide +kernel
theorem dX7_nightOn_27 : decode cX7_nightOn 27 = .ok (.iconst 4, 1) := by decide +kernel
theorem dX7_nightOn_28 : decode cX7_nightOn 28 = .ok (.if_icmp .ne 16, 3) := by decide +kernel
theorem dX7_nightOn_31 : decode cX7_nightOn 31 = .ok (.aload_n 1, 1) := by decide +kernel
theorem dX7_nightOn_32 : decode cX7_nightOn 32 = .ok (.iload_n 2, 1) := by decide +kernel
theorem dX7_nightOn_33 : decode cX7_nightOn 33 = .ok (.iaload, 1) := by decide +kernel
theorem dX7_nightOn_34 : decode cX7_nightOn 34 = .ok (.ifCond .le 10, 3) := by decide +kernel
theorem dX7_nightOn_37 : decode cX7_nightOn 37 = .ok (.iload 4, 2) := by decide +kernel
theorem dX7_nightOn_39 : decode cX7_nightOn 39 = .ok (.iconst 1, 1) := by decide +kernel
theorem dX7_nightOn_40 : decode cX7_nightOn 40 = .ok (.iadd, 1) := by decide +kernel
theorem dX7_nightOn_41 : decode cX7_nightOn 41 = .ok (.goto 5, 3) := by decide +kernel
theorem dX7_nightOn_44 : decode cX7_nightOn 44 = .ok (.iload 4, 2) := by decide +kernel
theorem dX7_nightOn_46 : decode cX7_nightOn 46 = .ok (.istore 4, 2) := by decide +kernel
theorem dX7_nightOn_48 : decode cX7_nightOn 48 = .ok (.aload_n 1, 1) := by decide +kernel
theorem dX7_nightOn_49 : decode cX7_nightOn 49 = .ok (.iload_n 2, 1) := by decide +kernel
theorem dX7_nightOn_50 : decode cX7_nightOn 50 = .ok (.iload_n 3, 1) := by decide +kernel
theorem dX7_nightOn_51 : decode cX7_nightOn 51 = .ok (.iconst 2, 1) := by decide +kernel
theorem dX7_nightOn_52 : decode cX7_nightOn 52 = .ok (.if_icmp .ne 9, 3) := by decide +kernel
theorem dX7_nightOn_55 : decode cX7_nightOn 55 = .ok (.aload_n 1, 1) := by decide +kernel
theorem dX7_nightOn_56 : decode cX7_nightOn 56 = .ok (.iload_n 2, 1) := by decide +kernel
theorem dX7_nightOn_57 : decode cX7_nightOn 57 = .ok (.iaload, 1) := by decide +kernel
theorem dX7_nightOn_58 : decode cX7_nightOn 58 = .ok (.goto 5, 3) := by decide +kernel
theorem dX7_nightOn_61 : decode cX7_nightOn 61 = .ok (.iload 4, 2) := by decide +kernel
theorem dX7_nightOn_63 : decode cX7_nightOn 63 = .ok (.iastore, 1) := by decide +kernel
theorem dX7_nightOn_64 : decode cX7_nightOn 64 = .ok (.iinc 2 1, 3) := by decide +kernel
theorem dX7_nightOn_67 : decode cX7_nightOn 67 = .ok (.goto (-65), 3) := by decide +kernel
theorem dX7_nightOn_70 : decode cX7_nightOn 70 = .ok (.return_, 1) := by decide +kernel
theorem dX7_forceBy_0 : decode cX7_forceBy 0 = .ok (.iload_n 0, 1) := by decide +kernel
theorem dX7_forceBy_1 : decode cX7_forceBy 1 = .ok (.iconst 2, 1) := by decide +kernel
theorem dX7_forceBy_2 : decode cX7_forceBy 2 = .ok (.iload_n 1, 1) := by decide +kernel
theorem dX7_forceBy_3 : decode cX7_forceBy 3 = .ok (.imul, 1) := by decide +kernel
theorem dX7_forceBy_4 : decode cX7_forceBy 4 = .ok (.if_icmp .le 11, 3) := by decide +kernel
theorem dX7_forceBy_7 : decode cX7_forceBy 7 = .ok (.iload_n 0, 1) := by decide +kernel
theorem dX7_forceBy_8 : decode cX7_forceBy 8 = .ok (.iconst 2, 1) := by decide +kernel
theorem dX7_forceBy_9 : decode cX7_forceBy 9 = .ok (.iload_n 1, 1) := by decide +kernel
theorem dX7_forceBy_10 : decode cX7_forceBy 10 = .ok (.imul, 1) := by decide +kernel
theorem dX7_forceBy_11 : decode cX7_forceBy 11 = .ok (.isub, 1) := by decide +kernel
theorem dX7_forceBy_12 : decode cX7_forceBy 12 = .ok (.goto 4, 3) := by decide +kernel
theorem dX7_forceBy_15 : decode cX7_forceBy 15 = .ok (.iconst 0, 1) := by decide +kernel
theorem dX7_forceBy_16 : decode cX7_forceBy 16 = .ok (.ireturn, 1) := by decide +kernel
theorem dX7_dropsAt_0 : decode cX7_dropsAt 0 = .ok (.iconst 0, 1) := by decide +kernel
theorem dX7_dropsAt_1 : decode cX7_dropsAt 1 = .ok (.istore_n 2, 1) := by decide +kernel
theorem dX7_dropsAt_2 : decode cX7_dropsAt 2 = .ok (.iconst 0, 1) := by decide +kernel
theorem dX7_dropsAt_3 : decode cX7_dropsAt 3 = .ok (.istore_n 3, 1) := by decide +kernel
theorem dX7_dropsAt_4 : decode cX7_dropsAt 4 = .ok (.iload_n 3, 1) := by decide +kernel
theorem dX7_dropsAt_5 : decode cX7_dropsAt 5 = .ok (.aload_n 0, 1) := by decide +kernel
theorem dX7_dropsAt_6 : decode cX7_dropsAt 6 = .ok (.getfield 124, 3) := by decide +kernel
theorem dX7_dropsAt_9 : decode cX7_dropsAt 9 = .ok (.if_icmp .ge 37, 3) := by decide +kernel
theorem dX7_dropsAt_12 : decode cX7_dropsAt 12 = .ok (.iload_n 2, 1) := by decide +kernel
theorem dX7_dropsAt_13 : decode cX7_dropsAt 13 = .ok (.aload_n 0, 1) := by decide +kernel
theorem dX7_dropsAt_14 : decode cX7_dropsAt 14 = .ok (.getfield 31, 3) := by decide +kernel
theorem dX7_dropsAt_17 : decode cX7_dropsAt 17 = .ok (.iconst 2, 1) := by decide +kernel
theorem dX7_dropsAt_18 : decode cX7_dropsAt 18 = .ok (.iload_n 3, 1) := by decide +kernel
theorem dX7_dropsAt_19 : decode cX7_dropsAt 19 = .ok (.imul, 1) := by decide +kernel
theorem dX7_dropsAt_20 : decode cX7_dropsAt 20 = .ok (.iaload, 1) := by decide +kernel
theorem dX7_dropsAt_21 : decode cX7_dropsAt 21 = .ok (.aload_n 0, 1) := by decide +kernel
theorem dX7_dropsAt_22 : decode cX7_dropsAt 22 = .ok (.getfield 31, 3) := by decide +kernel
theorem dX7_dropsAt_25 : decode cX7_dropsAt 25 = .ok (.iconst 2, 1) := by decide +kernel
theorem dX7_dropsAt_26 : decode cX7_dropsAt 26 = .ok (.iload_n 3, 1) := by decide +kernel
theorem dX7_dropsAt_27 : decode cX7_dropsAt 27 = .ok (.imul, 1) := by decide +kernel
theorem dX7_dropsAt_28 : decode cX7_dropsAt 28 = .ok (.iconst 1, 1) := by decide +kernel
theorem dX7_dropsAt_29 : decode cX7_dropsAt 29 = .ok (.iadd, 1) := by decide +kernel
theorem dX7_dropsAt_30 : decode cX7_dropsAt 30 = .ok (.iaload, 1) := by decide +kernel
theorem dX7_dropsAt_31 : decode cX7_dropsAt 31 = .ok (.iload_n 1, 1) := by decide +kernel
theorem dX7_dropsAt_32 : decode cX7_dropsAt 32 = .ok (.invokestatic 148, 3) := by decide +kernel
theorem dX7_dropsAt_35 : decode cX7_dropsAt 35 = .ok (.invokestatic 152, 3) := by decide +kernel
end
section
theorem dX7_dropsAt_38 : decode cX7_dropsAt 38 = .ok (.iadd, 1) := by decide +kernel
theorem dX7_dropsAt_39 : decode cX7_dropsAt 39 = .ok (.istore_n 2, 1) := by decide +kernel
theorem dX7_dropsAt_40 : decode cX7_dropsAt 40 = .ok (.iinc 3 1, 3) := by decide +kernel
theorem dX7_dropsAt_43 : decode cX7_dropsAt 43 = .ok (.goto (-39), 3) := by decide +kernel
theorem dX7_dropsAt_46 : decode cX7_dropsAt 46 = .ok (.iload_n 2, 1) := by decide +kernel
theorem dX7_dropsAt_47 : decode cX7_dropsAt 47 = .ok (.ireturn, 1) := by decide +kernel
theorem dX7_forceOn_0 : decode cX7_forceOn 0 = .ok (.iconst 0, 1) := by decide +kernel
theorem dX7_forceOn_1 : decode cX7_forceOn 1 = .ok (.istore_n 3, 1) := by decide +kernel
theorem dX7_forceOn_2 : decode cX7_forceOn 2 = .ok (.iconst 0, 1) := by decide +kernel
theorem dX7_forceOn_3 : decode cX7_forceOn 3 = .ok (.istore 4, 2) := by decide +kernel
theorem dX7_forceOn_5 : decode cX7_forceOn 5 = .ok (.iload 4, 2) := by decide +kernel
theorem dX7_forceOn_7 : decode cX7_forceOn 7 = .ok (.aload_n 0, 1) := by decide +kernel
theorem dX7_forceOn_8 : decode cX7_forceOn 8 = .ok (.getfield 109, 3) := by decide +kernel
theorem dX7_forceOn_11 : decode cX7_forceOn 11 = .ok (.if_icmp .ge 30, 3) := by decide +kernel
theorem dX7_forceOn_14 : decode cX7_forceOn 14 = .ok (.iload_n 3, 1) := by decide +kernel
theorem dX7_forceOn_15 : decode cX7_forceOn 15 = .ok (.aload_n 1, 1) := by decide +kernel
theorem dX7_forceOn_16 : decode cX7_forceOn 16 = .ok (.iload 4, 2) := by decide +kernel
theorem dX7_forceOn_18 : decode cX7_forceOn 18 = .ok (.iaload, 1) := by decide +kernel
theorem dX7_forceOn_19 : decode cX7_forceOn 19 = .ok (.aload_n 0, 1) := by decide +kernel
theorem dX7_forceOn_20 : decode cX7_forceOn 20 = .ok (.getfield 16, 3) := by decide +kernel
theorem dX7_forceOn_23 : decode cX7_forceOn 23 = .ok (.iload 4, 2) := by decide +kernel
theorem dX7_forceOn_25 : decode cX7_forceOn 25 = .ok (.iaload, 1) := by decide +kernel
theorem dX7_forceOn_26 : decode cX7_forceOn 26 = .ok (.iload_n 2, 1) := by decide +kernel
theorem dX7_forceOn_27 : decode cX7_forceOn 27 = .ok (.invokestatic 148, 3) := by decide +kernel
theorem dX7_forceOn_30 : decode cX7_forceOn 30 = .ok (.invokestatic 152, 3) := by decide +kernel
theorem dX7_forceOn_33 : decode cX7_forceOn 33 = .ok (.iadd, 1) := by decide +kernel
theorem dX7_forceOn_34 : decode cX7_forceOn 34 = .ok (.istore_n 3, 1) := by decide +kernel
theorem dX7_forceOn_35 : decode cX7_forceOn 35 = .ok (.iinc 4 1, 3) := by decide +kernel
theorem dX7_forceOn_38 : decode cX7_forceOn 38 = .ok (.goto (-33), 3) := by decide +kernel
theorem dX7_forceOn_41 : decode cX7_forceOn 41 = .ok (.iload_n 3, 1) := by decide +kernel
theorem dX7_forceOn_42 : decode cX7_forceOn 42 = .ok (.ireturn, 1) := by decide +kernel
theorem dX7_forceAt_0 : decode cX7_forceAt 0 = .ok (.aload_n 0, 1) := by decide +kernel
theorem dX7_forceAt_1 : decode cX7_forceAt 1 = .ok (.aload_n 0, 1) := by decide +kernel
theorem dX7_forceAt_2 : decode cX7_forceAt 2 = .ok (.getfield 19, 3) := by decide +kernel
theorem dX7_forceAt_5 : decode cX7_forceAt 5 = .ok (.iload_n 1, 1) := by decide +kernel
theorem dX7_forceAt_6 : decode cX7_forceAt 6 = .ok (.invokevirtual 155, 3) := by decide +kernel
theorem dX7_forceAt_9 : decode cX7_forceAt 9 = .ok (.aload_n 0, 1) := by decide +kernel
theorem dX7_forceAt_10 : decode cX7_forceAt 10 = .ok (.iload_n 1, 1) := by decide +kernel
theorem dX7_forceAt_11 : decode cX7_forceAt 11 = .ok (.invokevirtual 159, 3) := by decide +kernel
theorem dX7_forceAt_14 : decode cX7_forceAt 14 = .ok (.iadd, 1) := by decide +kernel
theorem dX7_forceAt_15 : decode cX7_forceAt 15 = .ok (.ireturn, 1) := by decide +kernel
theorem dX7_wouldOn_0 : decode cX7_wouldOn 0 = .ok (.iconst 0, 1) := by decide +kernel
theorem dX7_wouldOn_1 : decode cX7_wouldOn 1 = .ok (.istore_n 3, 1) := by decide +kernel
theorem dX7_wouldOn_2 : decode cX7_wouldOn 2 = .ok (.iconst 0, 1) := by decide +kernel
theorem dX7_wouldOn_3 : decode cX7_wouldOn 3 = .ok (.istore 4, 2) := by decide +kernel
theorem dX7_wouldOn_5 : decode cX7_wouldOn 5 = .ok (.iload 4, 2) := by decide +kernel
theorem dX7_wouldOn_7 : decode cX7_wouldOn 7 = .ok (.aload_n 0, 1) := by decide +kernel
theorem dX7_wouldOn_8 : decode cX7_wouldOn 8 = .ok (.getfield 112, 3) := by decide +kernel
theorem dX7_wouldOn_11 : decode cX7_wouldOn 11 = .ok (.if_icmp .ge 56, 3) := by decide +kernel
theorem dX7_wouldOn_14 : decode cX7_wouldOn 14 = .ok (.aload_n 0, 1) := by decide +kernel
theorem dX7_wouldOn_15 : decode cX7_wouldOn 15 = .ok (.aload_n 1, 1) := by decide +kernel
theorem dX7_wouldOn_16 : decode cX7_wouldOn 16 = .ok (.iload 4, 2) := by decide +kernel
theorem dX7_wouldOn_18 : decode cX7_wouldOn 18 = .ok (.invokevirtual 155, 3) := by decide +kernel
theorem dX7_wouldOn_21 : decode cX7_wouldOn 21 = .ok (.iload_n 2, 1) := by decide +kernel
theorem dX7_wouldOn_22 : decode cX7_wouldOn 22 = .ok (.ifCond .eq 12, 3) := by decide +kernel
theorem dX7_wouldOn_25 : decode cX7_wouldOn 25 = .ok (.aload_n 0, 1) := by decide +kernel
theorem dX7_wouldOn_26 : decode cX7_wouldOn 26 = .ok (.iload 4, 2) := by decide +kernel
theorem dX7_wouldOn_28 : decode cX7_wouldOn 28 = .ok (.invokevirtual 159, 3) := by decide +kernel
theorem dX7_wouldOn_31 : decode cX7_wouldOn 31 = .ok (.goto 4, 3) := by decide +kernel
theorem dX7_wouldOn_34 : decode cX7_wouldOn 34 = .ok (.iconst 0, 1) := by decide +kernel
theorem dX7_wouldOn_35 : decode cX7_wouldOn 35 = .ok (.iadd, 1) := by decide +kernel
theorem dX7_wouldOn_36 : decode cX7_wouldOn 36 = .ok (.istore 5, 2) := by decide +kernel
theorem dX7_wouldOn_38 : decode cX7_wouldOn 38 = .ok (.iload_n 3, 1) := by decide +kernel
theorem dX7_wouldOn_39 : decode cX7_wouldOn 39 = .ok (.iload 5, 2) := by decide +kernel
theorem dX7_wouldOn_41 : decode cX7_wouldOn 41 = .ok (.aload_n 0, 1) := by decide +kernel
theorem dX7_wouldOn_42 : decode cX7_wouldOn 42 = .ok (.getfield 22, 3) := by decide +kernel
theorem dX7_wouldOn_45 : decode cX7_wouldOn 45 = .ok (.iload 4, 2) := by decide +kernel
theorem dX7_wouldOn_47 : decode cX7_wouldOn 47 = .ok (.iaload, 1) := by decide +kernel
theorem dX7_wouldOn_48 : decode cX7_wouldOn 48 = .ok (.if_icmp .lt 10, 3) := by decide +kernel
theorem dX7_wouldOn_51 : decode cX7_wouldOn 51 = .ok (.iconst 1, 1) := by decide +kernel
theorem dX7_wouldOn_52 : decode cX7_wouldOn 52 = .ok (.iload 4, 2) := by decide +kernel
theorem dX7_wouldOn_54 : decode cX7_wouldOn 54 = .ok (.ishl, 1) := by decide +kernel
theorem dX7_wouldOn_55 : decode cX7_wouldOn 55 = .ok (.goto 4, 3) := by decide +kernel
theorem dX7_wouldOn_58 : decode cX7_wouldOn 58 = .ok (.iconst 0, 1) := by decide +kernel
theorem dX7_wouldOn_59 : decode cX7_wouldOn 59 = .ok (.ior, 1) := by decide +kernel
theorem dX7_wouldOn_60 : decode cX7_wouldOn 60 = .ok (.istore_n 3, 1) := by decide +kernel
theorem dX7_wouldOn_61 : decode cX7_wouldOn 61 = .ok (.iinc 4 1, 3) := by decide +kernel
theorem dX7_wouldOn_64 : decode cX7_wouldOn 64 = .ok (.goto (-59), 3) := by decide +kernel
theorem dX7_wouldOn_67 : decode cX7_wouldOn 67 = .ok (.iload_n 3, 1) := by decide +kernel
theorem dX7_wouldOn_68 : decode cX7_wouldOn 68 = .ok (.ireturn, 1) := by decide +kernel
theorem dX7_wouldNow_0 : decode cX7_wouldNow 0 = .ok (.aload_n 0, 1) := by decide +kernel
theorem dX7_wouldNow_1 : decode cX7_wouldNow 1 = .ok (.aload_n 0, 1) := by decide +kernel
theorem dX7_wouldNow_2 : decode cX7_wouldNow 2 = .ok (.getfield 19, 3) := by decide +kernel
theorem dX7_wouldNow_5 : decode cX7_wouldNow 5 = .ok (.iconst 1, 1) := by decide +kernel
theorem dX7_wouldNow_6 : decode cX7_wouldNow 6 = .ok (.invokevirtual 162, 3) := by decide +kernel
theorem dX7_wouldNow_9 : decode cX7_wouldNow 9 = .ok (.ireturn, 1) := by decide +kernel
theorem dX7_seatOf_0 : decode cX7_seatOf 0 = .ok (.aload_n 0, 1) := by decide +kernel
theorem dX7_seatOf_1 : decode cX7_seatOf 1 = .ok (.getfield 16, 3) := by decide +kernel
theorem dX7_seatOf_4 : decode cX7_seatOf 4 = .ok (.iload_n 1, 1) := by decide +kernel
theorem dX7_seatOf_5 : decode cX7_seatOf 5 = .ok (.iaload, 1) := by decide +kernel
theorem dX7_seatOf_6 : decode cX7_seatOf 6 = .ok (.istore_n 3, 1) := by decide +kernel
theorem dX7_seatOf_7 : decode cX7_seatOf 7 = .ok (.iconst (-1), 1) := by decide +kernel
theorem dX7_seatOf_8 : decode cX7_seatOf 8 = .ok (.istore 4, 2) := by decide +kernel
theorem dX7_seatOf_10 : decode cX7_seatOf 10 = .ok (.iconst (-1), 1) := by decide +kernel
theorem dX7_seatOf_11 : decode cX7_seatOf 11 = .ok (.istore 5, 2) := by decide +kernel
theorem dX7_seatOf_13 : decode cX7_seatOf 13 = .ok (.iconst 0, 1) := by decide +kernel
theorem dX7_seatOf_14 : decode cX7_seatOf 14 = .ok (.istore 6, 2) := by decide +kernel
theorem dX7_seatOf_16 : decode cX7_seatOf 16 = .ok (.iload 6, 2) := by decide +kernel
theorem dX7_seatOf_18 : decode cX7_seatOf 18 = .ok (.bipush 6, 2) := by decide +kernel
theorem dX7_seatOf_20 : decode cX7_seatOf 20 = .ok (.if_icmp .ge 58, 3) := by decide +kernel
theorem dX7_seatOf_23 : decode cX7_seatOf 23 = .ok (.aload_n 0, 1) := by decide +kernel
theorem dX7_seatOf_24 : decode cX7_seatOf 24 = .ok (.getfield 16, 3) := by decide +kernel
theorem dX7_seatOf_27 : decode cX7_seatOf 27 = .ok (.iload_n 1, 1) := by decide +kernel
theorem dX7_seatOf_28 : decode cX7_seatOf 28 = .ok (.iload 6, 2) := by decide +kernel
theorem dX7_seatOf_30 : decode cX7_seatOf 30 = .ok (.iastore, 1) := by decide +kernel
theorem dX7_seatOf_31 : decode cX7_seatOf 31 = .ok (.aload_n 0, 1) := by decide +kernel
theorem dX7_seatOf_32 : decode cX7_seatOf 32 = .ok (.invokevirtual 166, 3) := by decide +kernel
theorem dX7_seatOf_35 : decode cX7_seatOf 35 = .ok (.invokestatic 169, 3) := by decide +kernel
theorem dX7_seatOf_38 : decode cX7_seatOf 38 = .ok (.istore 7, 2) := by decide +kernel
theorem dX7_seatOf_40 : decode cX7_seatOf 40 = .ok (.iload 7, 2) := by decide +kernel
theorem dX7_seatOf_42 : decode cX7_seatOf 42 = .ok (.iload 5, 2) := by decide +kernel
theorem dX7_seatOf_44 : decode cX7_seatOf 44 = .ok (.if_icmp .le 8, 3) := by decide +kernel
theorem dX7_seatOf_47 : decode cX7_seatOf 47 = .ok (.iload 6, 2) := by decide +kernel
theorem dX7_seatOf_49 : decode cX7_seatOf 49 = .ok (.goto 5, 3) := by decide +kernel
theorem dX7_seatOf_52 : decode cX7_seatOf 52 = .ok (.iload 4, 2) := by decide +kernel
theorem dX7_seatOf_54 : decode cX7_seatOf 54 = .ok (.istore 4, 2) := by decide +kernel
theorem dX7_seatOf_56 : decode cX7_seatOf 56 = .ok (.iload 7, 2) := by decide +kernel
theorem dX7_seatOf_58 : decode cX7_seatOf 58 = .ok (.iload 5, 2) := by decide +kernel
theorem dX7_seatOf_60 : decode cX7_seatOf 60 = .ok (.if_icmp .le 8, 3) := by decide +kernel
theorem dX7_seatOf_63 : decode cX7_seatOf 63 = .ok (.iload 7, 2) := by decide +kernel
theorem dX7_seatOf_65 : decode cX7_seatOf 65 = .ok (.goto 5, 3) := by decide +kernel
theorem dX7_seatOf_68 : decode cX7_seatOf 68 = .ok (.iload 5, 2) := by decide +kernel
theorem dX7_seatOf_70 : decode cX7_seatOf 70 = .ok (.istore 5, 2) := by decide +kernel
theorem dX7_seatOf_72 : decode cX7_seatOf 72 = .ok (.iinc 6 1, 3) := by decide +kernel
theorem dX7_seatOf_75 : decode cX7_seatOf 75 = .ok (.goto (-59), 3) := by decide +kernel
theorem dX7_seatOf_78 : decode cX7_seatOf 78 = .ok (.aload_n 0, 1) := by decide +kernel
theorem dX7_seatOf_79 : decode cX7_seatOf 79 = .ok (.getfield 16, 3) := by decide +kernel
theorem dX7_seatOf_82 : decode cX7_seatOf 82 = .ok (.iload_n 1, 1) := by decide +kernel
theorem dX7_seatOf_83 : decode cX7_seatOf 83 = .ok (.iload_n 3, 1) := by decide +kernel
theorem dX7_seatOf_84 : decode cX7_seatOf 84 = .ok (.iastore, 1) := by decide +kernel
theorem dX7_seatOf_85 : decode cX7_seatOf 85 = .ok (.iload_n 2, 1) := by decide +kernel
theorem dX7_seatOf_86 : decode cX7_seatOf 86 = .ok (.iconst 5, 1) := by decide +kernel
theorem dX7_seatOf_87 : decode cX7_seatOf 87 = .ok (.if_icmp .ne 8, 3) := by decide +kernel
theorem dX7_seatOf_90 : decode cX7_seatOf 90 = .ok (.iload 4, 2) := by decide +kernel
theorem dX7_seatOf_92 : decode cX7_seatOf 92 = .ok (.goto 5, 3) := by decide +kernel
theorem dX7_seatOf_95 : decode cX7_seatOf 95 = .ok (.iload 5, 2) := by decide +kernel
theorem dX7_seatOf_97 : decode cX7_seatOf 97 = .ok (.ireturn, 1) := by decide +kernel
theorem dX7_growsOf_0 : decode cX7_growsOf 0 = .ok (.aload_n 0, 1) := by decide +kernel
theorem dX7_growsOf_1 : decode cX7_growsOf 1 = .ok (.getfield 13, 3) := by decide +kernel
theorem dX7_growsOf_4 : decode cX7_growsOf 4 = .ok (.iconst 3, 1) := by decide +kernel
theorem dX7_growsOf_5 : decode cX7_growsOf 5 = .ok (.iload_n 1, 1) := by decide +kernel
theorem dX7_growsOf_6 : decode cX7_growsOf 6 = .ok (.imul, 1) := by decide +kernel
theorem dX7_growsOf_7 : decode cX7_growsOf 7 = .ok (.iaload, 1) := by decide +kernel
theorem dX7_growsOf_8 : decode cX7_growsOf 8 = .ok (.aload_n 0, 1) := by decide +kernel
theorem dX7_growsOf_9 : decode cX7_growsOf 9 = .ok (.getfield 13, 3) := by decide +kernel
theorem dX7_growsOf_12 : decode cX7_growsOf 12 = .ok (.iconst 3, 1) := by decide +kernel
theorem dX7_growsOf_13 : decode cX7_growsOf 13 = .ok (.iload_n 1, 1) := by decide +kernel
theorem dX7_growsOf_14 : decode cX7_growsOf 14 = .ok (.imul, 1) := by decide +kernel
theorem dX7_growsOf_15 : decode cX7_growsOf 15 = .ok (.iconst 1, 1) := by decide +kernel
theorem dX7_growsOf_16 : decode cX7_growsOf 16 = .ok (.iadd, 1) := by decide +kernel
theorem dX7_growsOf_17 : decode cX7_growsOf 17 = .ok (.iaload, 1) := by decide +kernel
theorem dX7_growsOf_18 : decode cX7_growsOf 18 = .ok (.iload_n 2, 1) := by decide +kernel
theorem dX7_growsOf_19 : decode cX7_growsOf 19 = .ok (.invokestatic 141, 3) := by decide +kernel
theorem dX7_growsOf_22 : decode cX7_growsOf 22 = .ok (.istore_n 3, 1) := by decide +kernel
theorem dX7_growsOf_23 : decode cX7_growsOf 23 = .ok (.aload_n 0, 1) := by decide +kernel
theorem dX7_growsOf_24 : decode cX7_growsOf 24 = .ok (.getfield 19, 3) := by decide +kernel
theorem dX7_growsOf_27 : decode cX7_growsOf 27 = .ok (.iload_n 1, 1) := by decide +kernel
theorem dX7_growsOf_28 : decode cX7_growsOf 28 = .ok (.iaload, 1) := by decide +kernel
theorem dX7_growsOf_29 : decode cX7_growsOf 29 = .ok (.iload_n 3, 1) := by decide +kernel
theorem dX7_growsOf_30 : decode cX7_growsOf 30 = .ok (.iadd, 1) := by decide +kernel
theorem dX7_growsOf_31 : decode cX7_growsOf 31 = .ok (.invokestatic 145, 3) := by decide +kernel
theorem dX7_growsOf_34 : decode cX7_growsOf 34 = .ok (.aload_n 0, 1) := by decide +kernel
theorem dX7_growsOf_35 : decode cX7_growsOf 35 = .ok (.getfield 19, 3) := by decide +kernel
theorem dX7_growsOf_38 : decode cX7_growsOf 38 = .ok (.iload_n 1, 1) := by decide +kernel
theorem dX7_growsOf_39 : decode cX7_growsOf 39 = .ok (.iaload, 1) := by decide +kernel
theorem dX7_growsOf_40 : decode cX7_growsOf 40 = .ok (.isub, 1) := by decide +kernel
theorem dX7_growsOf_41 : decode cX7_growsOf 41 = .ok (.ireturn, 1) := by decide +kernel
theorem dX7_tellPerson_0 : decode cX7_tellPerson 0 = .ok (.iload_n 2, 1) := by decide +kernel
theorem dX7_tellPerson_1 : decode cX7_tellPerson 1 = .ok (.i2l, 1) := by decide +kernel
theorem dX7_tellPerson_2 : decode cX7_tellPerson 2 = .ok (.ldc2_w 172, 3) := by decide +kernel
theorem dX7_tellPerson_5 : decode cX7_tellPerson 5 = .ok (.ldc2_w 174, 3) := by decide +kernel
theorem dX7_tellPerson_8 : decode cX7_tellPerson 8 = .ok (.invokestatic 76, 3) := by decide +kernel
theorem dX7_tellPerson_11 : decode cX7_tellPerson 11 = .ok (.ifCond .eq 13, 3) := by decide +kernel
theorem dX7_tellPerson_14 : decode cX7_tellPerson 14 = .ok (.aload_n 0, 1) := by decide +kernel
theorem dX7_tellPerson_15 : decode cX7_tellPerson 15 = .ok (.iload_n 1, 1) := by decide +kernel
theorem dX7_tellPerson_16 : decode cX7_tellPerson 16 = .ok (.iload_n 2, 1) := by decide +kernel
theorem dX7_tellPerson_17 : decode cX7_tellPerson 17 = .ok (.bipush 10, 2) := by decide +kernel
theorem dX7_tellPerson_19 : decode cX7_tellPerson 19 = .ok (.isub, 1) := by decide +kernel
theorem dX7_tellPerson_20 : decode cX7_tellPerson 20 = .ok (.invokevirtual 176, 3) := by decide +kernel
theorem dX7_tellPerson_23 : decode cX7_tellPerson 23 = .ok (.ireturn, 1) := by decide +kernel
theorem dX7_tellPerson_24 : decode cX7_tellPerson 24 = .ok (.iload_n 2, 1) := by decide +kernel
theorem dX7_tellPerson_25 : decode cX7_tellPerson 25 = .ok (.tableswitch 106 0 8 #[51, 51, 62, 69, 76, 87, 87, 94, 100], 51) := by decide +kernel
theorem dX7_tellPerson_76 : decode cX7_tellPerson 76 = .ok (.aload_n 0, 1) := by decide +kernel
theorem dX7_tellPerson_77 : decode cX7_tellPerson 77 = .ok (.getfield 13, 3) := by decide +kernel
theorem dX7_tellPerson_80 : decode cX7_tellPerson 80 = .ok (.iconst 3, 1) := by decide +kernel
theorem dX7_tellPerson_81 : decode cX7_tellPerson 81 = .ok (.iload_n 1, 1) := by decide +kernel
theorem dX7_tellPerson_82 : decode cX7_tellPerson 82 = .ok (.imul, 1) := by decide +kernel
theorem dX7_tellPerson_83 : decode cX7_tellPerson 83 = .ok (.iload_n 2, 1) := by decide +kernel
theorem dX7_tellPerson_84 : decode cX7_tellPerson 84 = .ok (.iadd, 1) := by decide +kernel
theorem dX7_tellPerson_85 : decode cX7_tellPerson 85 = .ok (.iaload, 1) := by decide +kernel
theorem dX7_tellPerson_86 : decode cX7_tellPerson 86 = .ok (.ireturn, 1) := by decide +kernel
theorem dX7_tellPerson_87 : decode cX7_tellPerson 87 = .ok (.aload_n 0, 1) := by decide +kernel
theorem dX7_tellPerson_88 : decode cX7_tellPerson 88 = .ok (.getfield 16, 3) := by decide +kernel
theorem dX7_tellPerson_91 : decode cX7_tellPerson 91 = .ok (.iload_n 1, 1) := by decide +kernel
theorem dX7_tellPerson_92 : decode cX7_tellPerson 92 = .ok (.iaload, 1) := by decide +kernel
theorem dX7_tellPerson_93 : decode cX7_tellPerson 93 = .ok (.ireturn, 1) := by decide +kernel
theorem dX7_tellPerson_94 : decode cX7_tellPerson 94 = .ok (.aload_n 0, 1) := by decide +kernel
theorem dX7_tellPerson_95 : decode cX7_tellPerson 95 = .ok (.getfield 19, 3) := by decide +kernel
theorem dX7_tellPerson_98 : decode cX7_tellPerson 98 = .ok (.iload_n 1, 1) := by decide +kernel
theorem dX7_tellPerson_99 : decode cX7_tellPerson 99 = .ok (.iaload, 1) := by decide +kernel
theorem dX7_tellPerson_100 : decode cX7_tellPerson 100 = .ok (.ireturn, 1) := by decide +kernel
theorem dX7_tellPerson_101 : decode cX7_tellPerson 101 = .ok (.aload_n 0, 1) := by decide +kernel
theorem dX7_tellPerson_102 : decode cX7_tellPerson 102 = .ok (.getfield 13, 3) := by decide +kernel
theorem dX7_tellPerson_105 : decode cX7_tellPerson 105 = .ok (.iconst 3, 1) := by decide +kernel
theorem dX7_tellPerson_106 : decode cX7_tellPerson 106 = .ok (.iload_n 1, 1) := by decide +kernel
theorem dX7_tellPerson_107 : decode cX7_tellPerson 107 = .ok (.imul, 1) := by decide +kernel
theorem dX7_tellPerson_108 : decode cX7_tellPerson 108 = .ok (.iconst 2, 1) := by decide +kernel
theorem dX7_tellPerson_109 : decode cX7_tellPerson 109 = .ok (.iadd, 1) := by decide +kernel
theorem dX7_tellPerson_110 : decode cX7_tellPerson 110 = .ok (.iaload, 1) := by decide +kernel
theorem dX7_tellPerson_111 : decode cX7_tellPerson 111 = .ok (.ireturn, 1) := by decide +kernel
theorem dX7_tellPerson_112 : decode cX7_tellPerson 112 = .ok (.aload_n 0, 1) := by decide +kernel
theorem dX7_tellPerson_113 : decode cX7_tellPerson 113 = .ok (.iload_n 1, 1) := by decide +kernel
theorem dX7_tellPerson_114 : decode cX7_tellPerson 114 = .ok (.iload_n 2, 1) := by decide +kernel
theorem dX7_tellPerson_115 : decode cX7_tellPerson 115 = .ok (.invokevirtual 179, 3) := by decide +kernel
theorem dX7_tellPerson_118 : decode cX7_tellPerson 118 = .ok (.ireturn, 1) := by decide +kernel
theorem dX7_tellPerson_119 : decode cX7_tellPerson 119 = .ok (.aload_n 0, 1) := by decide +kernel
theorem dX7_tellPerson_120 : decode cX7_tellPerson 120 = .ok (.iload_n 1, 1) := by decide +kernel
theorem dX7_tellPerson_121 : decode cX7_tellPerson 121 = .ok (.invokevirtual 182, 3) := by decide +kernel
theorem dX7_tellPerson_124 : decode cX7_tellPerson 124 = .ok (.ireturn, 1) := by decide +kernel
theorem dX7_tellPerson_125 : decode cX7_tellPerson 125 = .ok (.aload_n 0, 1) := by decide +kernel
theorem dX7_tellPerson_126 : decode cX7_tellPerson 126 = .ok (.iload_n 1, 1) := by decide +kernel
theorem dX7_tellPerson_127 : decode cX7_tellPerson 127 = .ok (.invokevirtual 185, 3) := by decide +kernel
theorem dX7_tellPerson_130 : decode cX7_tellPerson 130 = .ok (.ireturn, 1) := by decide +kernel
theorem dX7_tellPerson_131 : decode cX7_tellPerson 131 = .ok (.bipush (-102), 2) := by decide +kernel
theorem dX7_tellPerson_133 : decode cX7_tellPerson 133 = .ok (.ireturn, 1) := by decide +kernel
theorem dX7_person_0 : decode cX7_person 0 = .ok (.aload_n 0, 1) := by decide +kernel
theorem dX7_person_1 : decode cX7_person 1 = .ok (.iload_n 1, 1) := by decide +kernel
theorem dX7_person_2 : decode cX7_person 2 = .ok (.invokevirtual 188, 3) := by decide +kernel
theorem dX7_person_5 : decode cX7_person 5 = .ok (.ifCond .eq 12, 3) := by decide +kernel
theorem dX7_person_8 : decode cX7_person 8 = .ok (.aload_n 0, 1) := by decide +kernel
theorem dX7_person_9 : decode cX7_person 9 = .ok (.iload_n 1, 1) := by decide +kernel
theorem dX7_person_10 : decode cX7_person 10 = .ok (.iload_n 2, 1) := by decide +kernel
theorem dX7_person_11 : decode cX7_person 11 = .ok (.invokevirtual 191, 3) := by decide +kernel
theorem dX7_person_14 : decode cX7_person 14 = .ok (.goto 5, 3) := by decide +kernel
theorem dX7_person_17 : decode cX7_person 17 = .ok (.bipush (-101), 2) := by decide +kernel
theorem dX7_person_19 : decode cX7_person 19 = .ok (.ireturn, 1) := by decide +kernel
theorem dX7_as_0 : decode cX7_as 0 = .ok (.aload_n 0, 1) := by decide +kernel
theorem dX7_as_1 : decode cX7_as 1 = .ok (.iload_n 1, 1) := by decide +kernel
theorem dX7_as_2 : decode cX7_as 2 = .ok (.invokevirtual 188, 3) := by decide +kernel
theorem dX7_as_5 : decode cX7_as 5 = .ok (.ifCond .ne 6, 3) := by decide +kernel
theorem dX7_as_8 : decode cX7_as 8 = .ok (.bipush (-101), 2) := by decide +kernel
theorem dX7_as_10 : decode cX7_as 10 = .ok (.ireturn, 1) := by decide +kernel
theorem dX7_as_11 : decode cX7_as 11 = .ok (.iload_n 2, 1) := by decide +kernel
theorem dX7_as_12 : decode cX7_as 12 = .ok (.i2l, 1) := by decide +kernel
theorem dX7_as_13 : decode cX7_as 13 = .ok (.lconst 0, 1) := by decide +kernel
theorem dX7_as_14 : decode cX7_as 14 = .ok (.ldc2_w 194, 3) := by decide +kernel
theorem dX7_as_17 : decode cX7_as 17 = .ok (.invokestatic 76, 3) := by decide +kernel
theorem dX7_as_20 : decode cX7_as 20 = .ok (.ifCond .ne 6, 3) := by decide +kernel
theorem dX7_as_23 : decode cX7_as 23 = .ok (.bipush (-102), 2) := by decide +kernel
theorem dX7_as_25 : decode cX7_as 25 = .ok (.ireturn, 1) := by decide +kernel
theorem dX7_as_26 : decode cX7_as 26 = .ok (.aload_n 0, 1) := by decide +kernel
theorem dX7_as_27 : decode cX7_as 27 = .ok (.getfield 13, 3) := by decide +kernel
theorem dX7_as_30 : decode cX7_as 30 = .ok (.iconst 3, 1) := by decide +kernel
theorem dX7_as_31 : decode cX7_as 31 = .ok (.iload_n 1, 1) := by decide +kernel
theorem dX7_as_32 : decode cX7_as 32 = .ok (.imul, 1) := by decide +kernel
theorem dX7_as_33 : decode cX7_as 33 = .ok (.iaload, 1) := by decide +kernel
theorem dX7_as_34 : decode cX7_as 34 = .ok (.istore_n 3, 1) := by decide +kernel
theorem dX7_as_35 : decode cX7_as 35 = .ok (.iload_n 2, 1) := by decide +kernel
theorem dX7_as_36 : decode cX7_as 36 = .ok (.ifCond .eq 18, 3) := by decide +kernel
theorem dX7_as_39 : decode cX7_as 39 = .ok (.iload_n 2, 1) := by decide +kernel
theorem dX7_as_40 : decode cX7_as 40 = .ok (.iload_n 3, 1) := by decide +kernel
theorem dX7_as_41 : decode cX7_as 41 = .ok (.if_icmp .eq 13, 3) := by decide +kernel
theorem dX7_as_44 : decode cX7_as 44 = .ok (.iload_n 2, 1) := by decide +kernel
theorem dX7_as_45 : decode cX7_as 45 = .ok (.iconst 1, 1) := by decide +kernel
theorem dX7_as_46 : decode cX7_as 46 = .ok (.if_icmp .ne 12, 3) := by decide +kernel
theorem dX7_as_49 : decode cX7_as 49 = .ok (.iload_n 3, 1) := by decide +kernel
theorem dX7_as_50 : decode cX7_as 50 = .ok (.iconst 4, 1) := by decide +kernel
theorem dX7_as_51 : decode cX7_as 51 = .ok (.if_icmp .ne 7, 3) := by decide +kernel
theorem dX7_as_54 : decode cX7_as 54 = .ok (.iconst 1, 1) := by decide +kernel
theorem dX7_as_55 : decode cX7_as 55 = .ok (.goto 4, 3) := by decide +kernel
theorem dX7_as_58 : decode cX7_as 58 = .ok (.iconst 0, 1) := by decide +kernel
theorem dX7_as_59 : decode cX7_as 59 = .ok (.istore 4, 2) := by decide +kernel
theorem dX7_as_61 : decode cX7_as 61 = .ok (.iload 4, 2) := by decide +kernel
theorem dX7_as_63 : decode cX7_as 63 = .ok (.ifCond .eq 7, 3) := by decide +kernel
theorem dX7_as_66 : decode cX7_as 66 = .ok (.iload_n 1, 1) := by decide +kernel
theorem dX7_as_67 : decode cX7_as 67 = .ok (.goto 4, 3) := by decide +kernel
theorem dX7_as_70 : decode cX7_as 70 = .ok (.iconst (-1), 1) := by decide +kernel
theorem dX7_as_71 : decode cX7_as 71 = .ok (.ireturn, 1) := by decide +kernel
theorem dX7_inBottles_0 : decode cX7_inBottles 0 = .ok (.iconst 0, 1) := by decide +kernel
theorem dX7_inBottles_1 : decode cX7_inBottles 1 = .ok (.istore_n 2, 1) := by decide +kernel
theorem dX7_inBottles_2 : decode cX7_inBottles 2 = .ok (.iconst 0, 1) := by decide +kernel
theorem dX7_inBottles_3 : decode cX7_inBottles 3 = .ok (.istore_n 3, 1) := by decide +kernel
theorem dX7_inBottles_4 : decode cX7_inBottles 4 = .ok (.iload_n 3, 1) := by decide +kernel
theorem dX7_inBottles_5 : decode cX7_inBottles 5 = .ok (.iconst 4, 1) := by decide +kernel
theorem dX7_inBottles_6 : decode cX7_inBottles 6 = .ok (.if_icmp .ge 24, 3) := by decide +kernel
theorem dX7_inBottles_9 : decode cX7_inBottles 9 = .ok (.iload_n 2, 1) := by decide +kernel
theorem dX7_inBottles_10 : decode cX7_inBottles 10 = .ok (.iload_n 1, 1) := by decide +kernel
theorem dX7_inBottles_11 : decode cX7_inBottles 11 = .ok (.iload_n 3, 1) := by decide +kernel
theorem dX7_inBottles_12 : decode cX7_inBottles 12 = .ok (.ishr, 1) := by decide +kernel
theorem dX7_inBottles_13 : decode cX7_inBottles 13 = .ok (.iconst 1, 1) := by decide +kernel
theorem dX7_inBottles_14 : decode cX7_inBottles 14 = .ok (.iand, 1) := by decide +kernel
theorem dX7_inBottles_15 : decode cX7_inBottles 15 = .ok (.aload_n 0, 1) := by decide +kernel
theorem dX7_inBottles_16 : decode cX7_inBottles 16 = .ok (.getfield 28, 3) := by decide +kernel
theorem dX7_inBottles_19 : decode cX7_inBottles 19 = .ok (.iload_n 3, 1) := by decide +kernel
theorem dX7_inBottles_20 : decode cX7_inBottles 20 = .ok (.iaload, 1) := by decide +kernel
theorem dX7_inBottles_21 : decode cX7_inBottles 21 = .ok (.imul, 1) := by decide +kernel
theorem dX7_inBottles_22 : decode cX7_inBottles 22 = .ok (.iadd, 1) := by decide +kernel
theorem dX7_inBottles_23 : decode cX7_inBottles 23 = .ok (.istore_n 2, 1) := by decide +kernel
theorem dX7_inBottles_24 : decode cX7_inBottles 24 = .ok (.iinc 3 1, 3) := by decide +kernel
theorem dX7_inBottles_27 : decode cX7_inBottles 27 = .ok (.goto (-23), 3) := by decide +kernel
theorem dX7_inBottles_30 : decode cX7_inBottles 30 = .ok (.iload_n 2, 1) := by decide +kernel
theorem dX7_inBottles_31 : decode cX7_inBottles 31 = .ok (.ireturn, 1) := by decide +kernel
theorem dX7_isOfFull_0 : decode cX7_isOfFull 0 = .ok (.iconst 1, 1) := by decide +kernel
theorem dX7_isOfFull_1 : decode cX7_isOfFull 1 = .ok (.istore_n 2, 1) := by decide +kernel
theorem dX7_isOfFull_2 : decode cX7_isOfFull 2 = .ok (.iconst 0, 1) := by decide +kernel
theorem dX7_isOfFull_3 : decode cX7_isOfFull 3 = .ok (.istore_n 3, 1) := by decide +kernel
theorem dX7_isOfFull_4 : decode cX7_isOfFull 4 = .ok (.iload_n 3, 1) := by decide +kernel
theorem dX7_isOfFull_5 : decode cX7_isOfFull 5 = .ok (.iconst 4, 1) := by decide +kernel
theorem dX7_isOfFull_6 : decode cX7_isOfFull 6 = .ok (.if_icmp .ge 36, 3) := by decide +kernel
theorem dX7_isOfFull_9 : decode cX7_isOfFull 9 = .ok (.iload_n 2, 1) := by decide +kernel
theorem dX7_isOfFull_10 : decode cX7_isOfFull 10 = .ok (.ifCond .eq 24, 3) := by decide +kernel
theorem dX7_isOfFull_13 : decode cX7_isOfFull 13 = .ok (.iload_n 1, 1) := by decide +kernel
theorem dX7_isOfFull_14 : decode cX7_isOfFull 14 = .ok (.iload_n 3, 1) := by decide +kernel
theorem dX7_isOfFull_15 : decode cX7_isOfFull 15 = .ok (.ishr, 1) := by decide +kernel
theorem dX7_isOfFull_16 : decode cX7_isOfFull 16 = .ok (.iconst 1, 1) := by decide +kernel
theorem dX7_isOfFull_17 : decode cX7_isOfFull 17 = .ok (.iand, 1) := by decide +kernel
theorem dX7_isOfFull_18 : decode cX7_isOfFull 18 = .ok (.ifCond .eq 12, 3) := by decide +kernel
theorem dX7_isOfFull_21 : decode cX7_isOfFull 21 = .ok (.aload_n 0, 1) := by decide +kernel
theorem dX7_isOfFull_22 : decode cX7_isOfFull 22 = .ok (.getfield 28, 3) := by decide +kernel
theorem dX7_isOfFull_25 : decode cX7_isOfFull 25 = .ok (.iload_n 3, 1) := by decide +kernel
theorem dX7_isOfFull_26 : decode cX7_isOfFull 26 = .ok (.iaload, 1) := by decide +kernel
theorem dX7_isOfFull_27 : decode cX7_isOfFull 27 = .ok (.ifCond .le 7, 3) := by decide +kernel
theorem dX7_isOfFull_30 : decode cX7_isOfFull 30 = .ok (.iconst 1, 1) := by decide +kernel
theorem dX7_isOfFull_31 : decode cX7_isOfFull 31 = .ok (.goto 4, 3) := by decide +kernel
theorem dX7_isOfFull_34 : decode cX7_isOfFull 34 = .ok (.iconst 0, 1) := by decide +kernel
theorem dX7_isOfFull_35 : decode cX7_isOfFull 35 = .ok (.istore_n 2, 1) := by decide +kernel
theorem dX7_isOfFull_36 : decode cX7_isOfFull 36 = .ok (.iinc 3 1, 3) := by decide +kernel
theorem dX7_isOfFull_39 : decode cX7_isOfFull 39 = .ok (.goto (-35), 3) := by decide +kernel
theorem dX7_isOfFull_42 : decode cX7_isOfFull 42 = .ok (.iload_n 2, 1) := by decide +kernel
theorem dX7_isOfFull_43 : decode cX7_isOfFull 43 = .ok (.ireturn, 1) := by decide +kernel
theorem dX7_pourOf_0 : decode cX7_pourOf 0 = .ok (.iconst (-1), 1) := by decide +kernel
theorem dX7_pourOf_1 : decode cX7_pourOf 1 = .ok (.istore_n 2, 1) := by decide +kernel
theorem dX7_pourOf_2 : decode cX7_pourOf 2 = .ok (.aload_n 0, 1) := by decide +kernel
theorem dX7_pourOf_3 : decode cX7_pourOf 3 = .ok (.getfield 22, 3) := by decide +kernel
theorem dX7_pourOf_6 : decode cX7_pourOf 6 = .ok (.iload_n 1, 1) := by decide +kernel
theorem dX7_pourOf_7 : decode cX7_pourOf 7 = .ok (.iaload, 1) := by decide +kernel
theorem dX7_pourOf_8 : decode cX7_pourOf 8 = .ok (.aload_n 0, 1) := by decide +kernel
theorem dX7_pourOf_9 : decode cX7_pourOf 9 = .ok (.iload_n 1, 1) := by decide +kernel
theorem dX7_pourOf_10 : decode cX7_pourOf 10 = .ok (.invokevirtual 196, 3) := by decide +kernel
theorem dX7_pourOf_13 : decode cX7_pourOf 13 = .ok (.isub, 1) := by decide +kernel
theorem dX7_pourOf_14 : decode cX7_pourOf 14 = .ok (.istore_n 3, 1) := by decide +kernel
theorem dX7_pourOf_15 : decode cX7_pourOf 15 = .ok (.iconst 0, 1) := by decide +kernel
theorem dX7_pourOf_16 : decode cX7_pourOf 16 = .ok (.istore 4, 2) := by decide +kernel
theorem dX7_pourOf_18 : decode cX7_pourOf 18 = .ok (.iload 4, 2) := by decide +kernel
theorem dX7_pourOf_20 : decode cX7_pourOf 20 = .ok (.bipush 16, 2) := by decide +kernel
theorem dX7_pourOf_22 : decode cX7_pourOf 22 = .ok (.if_icmp .ge 124, 3) := by decide +kernel
theorem dX7_pourOf_25 : decode cX7_pourOf 25 = .ok (.aload_n 0, 1) := by decide +kernel
theorem dX7_pourOf_26 : decode cX7_pourOf 26 = .ok (.iload 4, 2) := by decide +kernel
theorem dX7_pourOf_28 : decode cX7_pourOf 28 = .ok (.invokevirtual 199, 3) := by decide +kernel
theorem dX7_pourOf_31 : decode cX7_pourOf 31 = .ok (.ifCond .eq 17, 3) := by decide +kernel
theorem dX7_pourOf_34 : decode cX7_pourOf 34 = .ok (.aload_n 0, 1) := by decide +kernel
theorem dX7_pourOf_35 : decode cX7_pourOf 35 = .ok (.iload 4, 2) := by decide +kernel
theorem dX7_pourOf_37 : decode cX7_pourOf 37 = .ok (.invokevirtual 202, 3) := by decide +kernel
theorem dX7_pourOf_40 : decode cX7_pourOf 40 = .ok (.iload_n 3, 1) := by decide +kernel
theorem dX7_pourOf_41 : decode cX7_pourOf 41 = .ok (.if_icmp .lt 7, 3) := by decide +kernel
theorem dX7_pourOf_44 : decode cX7_pourOf 44 = .ok (.iconst 1, 1) := by decide +kernel
theorem dX7_pourOf_45 : decode cX7_pourOf 45 = .ok (.goto 4, 3) := by decide +kernel
theorem dX7_pourOf_48 : decode cX7_pourOf 48 = .ok (.iconst 0, 1) := by decide +kernel
theorem dX7_pourOf_49 : decode cX7_pourOf 49 = .ok (.istore 5, 2) := by decide +kernel
theorem dX7_pourOf_51 : decode cX7_pourOf 51 = .ok (.iload_n 2, 1) := by decide +kernel
theorem dX7_pourOf_52 : decode cX7_pourOf 52 = .ok (.iconst (-1), 1) := by decide +kernel
theorem dX7_pourOf_53 : decode cX7_pourOf 53 = .ok (.if_icmp .eq 19, 3) := by decide +kernel
theorem dX7_pourOf_56 : decode cX7_pourOf 56 = .ok (.iload 4, 2) := by decide +kernel
theorem dX7_pourOf_58 : decode cX7_pourOf 58 = .ok (.invokestatic 169, 3) := by decide +kernel
theorem dX7_pourOf_61 : decode cX7_pourOf 61 = .ok (.iload_n 2, 1) := by decide +kernel
theorem dX7_pourOf_62 : decode cX7_pourOf 62 = .ok (.invokestatic 169, 3) := by decide +kernel
theorem dX7_pourOf_65 : decode cX7_pourOf 65 = .ok (.if_icmp .ge 7, 3) := by decide +kernel
theorem dX7_pourOf_68 : decode cX7_pourOf 68 = .ok (.iconst 1, 1) := by decide +kernel
theorem dX7_pourOf_69 : decode cX7_pourOf 69 = .ok (.goto 4, 3) := by decide +kernel
theorem dX7_pourOf_72 : decode cX7_pourOf 72 = .ok (.iconst 0, 1) := by decide +kernel
theorem dX7_pourOf_73 : decode cX7_pourOf 73 = .ok (.istore 6, 2) := by decide +kernel
theorem dX7_pourOf_75 : decode cX7_pourOf 75 = .ok (.iload_n 2, 1) := by decide +kernel
theorem dX7_pourOf_76 : decode cX7_pourOf 76 = .ok (.iconst (-1), 1) := by decide +kernel
theorem dX7_pourOf_77 : decode cX7_pourOf 77 = .ok (.if_icmp .eq 33, 3) := by decide +kernel
theorem dX7_pourOf_80 : decode cX7_pourOf 80 = .ok (.iload 4, 2) := by decide +kernel
theorem dX7_pourOf_82 : decode cX7_pourOf 82 = .ok (.invokestatic 169, 3) := by decide +kernel
theorem dX7_pourOf_85 : decode cX7_pourOf 85 = .ok (.iload_n 2, 1) := by decide +kernel
theorem dX7_pourOf_86 : decode cX7_pourOf 86 = .ok (.invokestatic 169, 3) := by decide +kernel
theorem dX7_pourOf_89 : decode cX7_pourOf 89 = .ok (.if_icmp .ne 21, 3) := by decide +kernel
theorem dX7_pourOf_92 : decode cX7_pourOf 92 = .ok (.aload_n 0, 1) := by decide +kernel
theorem dX7_pourOf_93 : decode cX7_pourOf 93 = .ok (.iload 4, 2) := by decide +kernel
theorem dX7_pourOf_95 : decode cX7_pourOf 95 = .ok (.invokevirtual 202, 3) := by decide +kernel
theorem dX7_pourOf_98 : decode cX7_pourOf 98 = .ok (.aload_n 0, 1) := by decide +kernel
theorem dX7_pourOf_99 : decode cX7_pourOf 99 = .ok (.iload_n 2, 1) := by decide +kernel
theorem dX7_pourOf_100 : decode cX7_pourOf 100 = .ok (.invokevirtual 202, 3) := by decide +kernel
theorem dX7_pourOf_103 : decode cX7_pourOf 103 = .ok (.if_icmp .ge 7, 3) := by decide +kernel
theorem dX7_pourOf_106 : decode cX7_pourOf 106 = .ok (.iconst 1, 1) := by decide +kernel
theorem dX7_pourOf_107 : decode cX7_pourOf 107 = .ok (.goto 4, 3) := by decide +kernel
theorem dX7_pourOf_110 : decode cX7_pourOf 110 = .ok (.iconst 0, 1) := by decide +kernel
theorem dX7_pourOf_111 : decode cX7_pourOf 111 = .ok (.istore 7, 2) := by decide +kernel
theorem dX7_pourOf_113 : decode cX7_pourOf 113 = .ok (.iload 5, 2) := by decide +kernel
theorem dX7_pourOf_115 : decode cX7_pourOf 115 = .ok (.ifCond .eq 23, 3) := by decide +kernel
theorem dX7_pourOf_118 : decode cX7_pourOf 118 = .ok (.iload_n 2, 1) := by decide +kernel
theorem dX7_pourOf_119 : decode cX7_pourOf 119 = .ok (.iconst (-1), 1) := by decide +kernel
theorem dX7_pourOf_120 : decode cX7_pourOf 120 = .ok (.if_icmp .eq 13, 3) := by decide +kernel
theorem dX7_pourOf_123 : decode cX7_pourOf 123 = .ok (.iload 6, 2) := by decide +kernel
theorem dX7_pourOf_125 : decode cX7_pourOf 125 = .ok (.ifCond .ne 8, 3) := by decide +kernel
theorem dX7_pourOf_128 : decode cX7_pourOf 128 = .ok (.iload 7, 2) := by decide +kernel
theorem dX7_pourOf_130 : decode cX7_pourOf 130 = .ok (.ifCond .eq 8, 3) := by decide +kernel
theorem dX7_pourOf_133 : decode cX7_pourOf 133 = .ok (.iload 4, 2) := by decide +kernel
theorem dX7_pourOf_135 : decode cX7_pourOf 135 = .ok (.goto 4, 3) := by decide +kernel
theorem dX7_pourOf_138 : decode cX7_pourOf 138 = .ok (.iload_n 2, 1) := by decide +kernel
theorem dX7_pourOf_139 : decode cX7_pourOf 139 = .ok (.istore_n 2, 1) := by decide +kernel
theorem dX7_pourOf_140 : decode cX7_pourOf 140 = .ok (.iinc 4 1, 3) := by decide +kernel
theorem dX7_pourOf_143 : decode cX7_pourOf 143 = .ok (.goto (-125), 3) := by decide +kernel
theorem dX7_pourOf_146 : decode cX7_pourOf 146 = .ok (.iload_n 2, 1) := by decide +kernel
theorem dX7_pourOf_147 : decode cX7_pourOf 147 = .ok (.ireturn, 1) := by decide +kernel
theorem dX7_oddsUp_0 : decode cX7_oddsUp 0 = .ok (.iconst 0, 1) := by decide +kernel
theorem dX7_oddsUp_1 : decode cX7_oddsUp 1 = .ok (.istore_n 2, 1) := by decide +kernel
theorem dX7_oddsUp_2 : decode cX7_oddsUp 2 = .ok (.iconst 0, 1) := by decide +kernel
theorem dX7_oddsUp_3 : decode cX7_oddsUp 3 = .ok (.istore_n 3, 1) := by decide +kernel
theorem dX7_oddsUp_4 : decode cX7_oddsUp 4 = .ok (.iload_n 3, 1) := by decide +kernel
theorem dX7_oddsUp_5 : decode cX7_oddsUp 5 = .ok (.iconst 3, 1) := by decide +kernel
theorem dX7_oddsUp_6 : decode cX7_oddsUp 6 = .ok (.aload_n 0, 1) := by decide +kernel
theorem dX7_oddsUp_7 : decode cX7_oddsUp 7 = .ok (.getfield 109, 3) := by decide +kernel
theorem dX7_oddsUp_10 : decode cX7_oddsUp 10 = .ok (.imul, 1) := by decide +kernel
theorem dX7_oddsUp_11 : decode cX7_oddsUp 11 = .ok (.if_icmp .ge 45, 3) := by decide +kernel
theorem dX7_oddsUp_14 : decode cX7_oddsUp 14 = .ok (.aload_n 0, 1) := by decide +kernel
theorem dX7_oddsUp_15 : decode cX7_oddsUp 15 = .ok (.getfield 19, 3) := by decide +kernel
theorem dX7_oddsUp_18 : decode cX7_oddsUp 18 = .ok (.aload_n 0, 1) := by decide +kernel
theorem dX7_oddsUp_19 : decode cX7_oddsUp 19 = .ok (.getfield 34, 3) := by decide +kernel
theorem dX7_oddsUp_22 : decode cX7_oddsUp 22 = .ok (.invokestatic 205, 3) := by decide +kernel
theorem dX7_oddsUp_25 : decode cX7_oddsUp 25 = .ok (.aload_n 0, 1) := by decide +kernel
theorem dX7_oddsUp_26 : decode cX7_oddsUp 26 = .ok (.aload_n 0, 1) := by decide +kernel
theorem dX7_oddsUp_27 : decode cX7_oddsUp 27 = .ok (.getfield 34, 3) := by decide +kernel
theorem dX7_oddsUp_30 : decode cX7_oddsUp 30 = .ok (.iload_n 3, 1) := by decide +kernel
theorem dX7_oddsUp_31 : decode cX7_oddsUp 31 = .ok (.invokevirtual 209, 3) := by decide +kernel
theorem dX7_oddsUp_34 : decode cX7_oddsUp 34 = .ok (.iload_n 2, 1) := by decide +kernel
theorem dX7_oddsUp_35 : decode cX7_oddsUp 35 = .ok (.aload_n 0, 1) := by decide +kernel
theorem dX7_oddsUp_36 : decode cX7_oddsUp 36 = .ok (.aload_n 0, 1) := by decide +kernel
theorem dX7_oddsUp_37 : decode cX7_oddsUp 37 = .ok (.getfield 34, 3) := by decide +kernel
theorem dX7_oddsUp_40 : decode cX7_oddsUp 40 = .ok (.iconst 1, 1) := by decide +kernel
theorem dX7_oddsUp_41 : decode cX7_oddsUp 41 = .ok (.invokevirtual 162, 3) := by decide +kernel
theorem dX7_oddsUp_44 : decode cX7_oddsUp 44 = .ok (.iload_n 1, 1) := by decide +kernel
theorem dX7_oddsUp_45 : decode cX7_oddsUp 45 = .ok (.ishr, 1) := by decide +kernel
theorem dX7_oddsUp_46 : decode cX7_oddsUp 46 = .ok (.iconst 1, 1) := by decide +kernel
theorem dX7_oddsUp_47 : decode cX7_oddsUp 47 = .ok (.iand, 1) := by decide +kernel
theorem dX7_oddsUp_48 : decode cX7_oddsUp 48 = .ok (.iadd, 1) := by decide +kernel
theorem dX7_oddsUp_49 : decode cX7_oddsUp 49 = .ok (.istore_n 2, 1) := by decide +kernel
theorem dX7_oddsUp_50 : decode cX7_oddsUp 50 = .ok (.iinc 3 1, 3) := by decide +kernel
theorem dX7_oddsUp_53 : decode cX7_oddsUp 53 = .ok (.goto (-49), 3) := by decide +kernel
theorem dX7_oddsUp_56 : decode cX7_oddsUp 56 = .ok (.iload_n 2, 1) := by decide +kernel
theorem dX7_oddsUp_57 : decode cX7_oddsUp 57 = .ok (.ireturn, 1) := by decide +kernel
theorem dX7_oddsOf_0 : decode cX7_oddsOf 0 = .ok (.aload_n 0, 1) := by decide +kernel
theorem dX7_oddsOf_1 : decode cX7_oddsOf 1 = .ok (.iload_n 1, 1) := by decide +kernel
theorem dX7_oddsOf_2 : decode cX7_oddsOf 2 = .ok (.invokevirtual 213, 3) := by decide +kernel
theorem dX7_oddsOf_5 : decode cX7_oddsOf 5 = .ok (.istore_n 3, 1) := by decide +kernel
theorem dX7_oddsOf_6 : decode cX7_oddsOf 6 = .ok (.iconst 3, 1) := by decide +kernel
theorem dX7_oddsOf_7 : decode cX7_oddsOf 7 = .ok (.aload_n 0, 1) := by decide +kernel
theorem dX7_oddsOf_8 : decode cX7_oddsOf 8 = .ok (.getfield 109, 3) := by decide +kernel
theorem dX7_oddsOf_11 : decode cX7_oddsOf 11 = .ok (.imul, 1) := by decide +kernel
theorem dX7_oddsOf_12 : decode cX7_oddsOf 12 = .ok (.iload_n 3, 1) := by decide +kernel
theorem dX7_oddsOf_13 : decode cX7_oddsOf 13 = .ok (.invokestatic 216, 3) := by decide +kernel
theorem dX7_oddsOf_16 : decode cX7_oddsOf 16 = .ok (.istore 4, 2) := by decide +kernel
theorem dX7_oddsOf_18 : decode cX7_oddsOf 18 = .ok (.iload_n 2, 1) := by decide +kernel
theorem dX7_oddsOf_19 : decode cX7_oddsOf 19 = .ok (.iconst 5, 1) := by decide +kernel
theorem dX7_oddsOf_20 : decode cX7_oddsOf 20 = .ok (.if_icmp .ne 10, 3) := by decide +kernel
theorem dX7_oddsOf_23 : decode cX7_oddsOf 23 = .ok (.iload_n 3, 1) := by decide +kernel
theorem dX7_oddsOf_24 : decode cX7_oddsOf 24 = .ok (.iload 4, 2) := by decide +kernel
theorem dX7_oddsOf_26 : decode cX7_oddsOf 26 = .ok (.idiv, 1) := by decide +kernel
theorem dX7_oddsOf_27 : decode cX7_oddsOf 27 = .ok (.goto 12, 3) := by decide +kernel
theorem dX7_oddsOf_30 : decode cX7_oddsOf 30 = .ok (.iconst 3, 1) := by decide +kernel
theorem dX7_oddsOf_31 : decode cX7_oddsOf 31 = .ok (.aload_n 0, 1) := by decide +kernel
theorem dX7_oddsOf_32 : decode cX7_oddsOf 32 = .ok (.getfield 109, 3) := by decide +kernel
theorem dX7_oddsOf_35 : decode cX7_oddsOf 35 = .ok (.imul, 1) := by decide +kernel
theorem dX7_oddsOf_36 : decode cX7_oddsOf 36 = .ok (.iload 4, 2) := by decide +kernel
theorem dX7_oddsOf_38 : decode cX7_oddsOf 38 = .ok (.idiv, 1) := by decide +kernel
theorem dX7_oddsOf_39 : decode cX7_oddsOf 39 = .ok (.ireturn, 1) := by decide +kernel
theorem dX7_tellPail_0 : decode cX7_tellPail 0 = .ok (.iload_n 2, 1) := by decide +kernel
theorem dX7_tellPail_1 : decode cX7_tellPail 1 = .ok (.tableswitch 85 0 6 #[43, 50, 56, 63, 72, 78, 78], 43) := by decide +kernel
theorem dX7_tellPail_44 : decode cX7_tellPail 44 = .ok (.aload_n 0, 1) := by decide +kernel
theorem dX7_tellPail_45 : decode cX7_tellPail 45 = .ok (.getfield 22, 3) := by decide +kernel
theorem dX7_tellPail_48 : decode cX7_tellPail 48 = .ok (.iload_n 1, 1) := by decide +kernel
theorem dX7_tellPail_49 : decode cX7_tellPail 49 = .ok (.iaload, 1) := by decide +kernel
theorem dX7_tellPail_50 : decode cX7_tellPail 50 = .ok (.ireturn, 1) := by decide +kernel
theorem dX7_tellPail_51 : decode cX7_tellPail 51 = .ok (.aload_n 0, 1) := by decide +kernel
theorem dX7_tellPail_52 : decode cX7_tellPail 52 = .ok (.iload_n 1, 1) := by decide +kernel
theorem dX7_tellPail_53 : decode cX7_tellPail 53 = .ok (.invokevirtual 196, 3) := by decide +kernel
theorem dX7_tellPail_56 : decode cX7_tellPail 56 = .ok (.ireturn, 1) := by decide +kernel
theorem dX7_tellPail_57 : decode cX7_tellPail 57 = .ok (.aload_n 0, 1) := by decide +kernel
theorem dX7_tellPail_58 : decode cX7_tellPail 58 = .ok (.getfield 25, 3) := by decide +kernel
theorem dX7_tellPail_61 : decode cX7_tellPail 61 = .ok (.iload_n 1, 1) := by decide +kernel
theorem dX7_tellPail_62 : decode cX7_tellPail 62 = .ok (.iaload, 1) := by decide +kernel
theorem dX7_tellPail_63 : decode cX7_tellPail 63 = .ok (.ireturn, 1) := by decide +kernel
theorem dX7_tellPail_64 : decode cX7_tellPail 64 = .ok (.aload_n 0, 1) := by decide +kernel
theorem dX7_tellPail_65 : decode cX7_tellPail 65 = .ok (.invokevirtual 166, 3) := by decide +kernel
theorem dX7_tellPail_68 : decode cX7_tellPail 68 = .ok (.iload_n 1, 1) := by decide +kernel
theorem dX7_tellPail_69 : decode cX7_tellPail 69 = .ok (.ishr, 1) := by decide +kernel
theorem dX7_tellPail_70 : decode cX7_tellPail 70 = .ok (.iconst 1, 1) := by decide +kernel
theorem dX7_tellPail_71 : decode cX7_tellPail 71 = .ok (.iand, 1) := by decide +kernel
theorem dX7_tellPail_72 : decode cX7_tellPail 72 = .ok (.ireturn, 1) := by decide +kernel
theorem dX7_tellPail_73 : decode cX7_tellPail 73 = .ok (.aload_n 0, 1) := by decide +kernel
theorem dX7_tellPail_74 : decode cX7_tellPail 74 = .ok (.iload_n 1, 1) := by decide +kernel
theorem dX7_tellPail_75 : decode cX7_tellPail 75 = .ok (.invokevirtual 219, 3) := by decide +kernel
theorem dX7_tellPail_78 : decode cX7_tellPail 78 = .ok (.ireturn, 1) := by decide +kernel
theorem dX7_tellPail_79 : decode cX7_tellPail 79 = .ok (.aload_n 0, 1) := by decide +kernel
theorem dX7_tellPail_80 : decode cX7_tellPail 80 = .ok (.iload_n 1, 1) := by decide +kernel
theorem dX7_tellPail_81 : decode cX7_tellPail 81 = .ok (.iload_n 2, 1) := by decide +kernel
theorem dX7_tellPail_82 : decode cX7_tellPail 82 = .ok (.invokevirtual 222, 3) := by decide +kernel
theorem dX7_tellPail_85 : decode cX7_tellPail 85 = .ok (.ireturn, 1) := by decide +kernel
theorem dX7_tellPail_86 : decode cX7_tellPail 86 = .ok (.bipush (-102), 2) := by decide +kernel
theorem dX7_tellPail_88 : decode cX7_tellPail 88 = .ok (.ireturn, 1) := by decide +kernel
theorem dX7_pail_0 : decode cX7_pail 0 = .ok (.aload_n 0, 1) := by decide +kernel
theorem dX7_pail_1 : decode cX7_pail 1 = .ok (.iload_n 1, 1) := by decide +kernel
theorem dX7_pail_2 : decode cX7_pail 2 = .ok (.invokevirtual 225, 3) := by decide +kernel
theorem dX7_pail_5 : decode cX7_pail 5 = .ok (.ifCond .eq 12, 3) := by decide +kernel
theorem dX7_pail_8 : decode cX7_pail 8 = .ok (.aload_n 0, 1) := by decide +kernel
theorem dX7_pail_9 : decode cX7_pail 9 = .ok (.iload_n 1, 1) := by decide +kernel
theorem dX7_pail_10 : decode cX7_pail 10 = .ok (.iload_n 2, 1) := by decide +kernel
theorem dX7_pail_11 : decode cX7_pail 11 = .ok (.invokevirtual 228, 3) := by decide +kernel
theorem dX7_pail_14 : decode cX7_pail 14 = .ok (.goto 5, 3) := by decide +kernel
theorem dX7_pail_17 : decode cX7_pail 17 = .ok (.bipush (-101), 2) := by decide +kernel
theorem dX7_pail_19 : decode cX7_pail 19 = .ok (.ireturn, 1) := by decide +kernel
theorem dX7_slight_0 : decode cX7_slight 0 = .ok (.aload_n 0, 1) := by decide +kernel
theorem dX7_slight_1 : decode cX7_slight 1 = .ok (.iload_n 1, 1) := by decide +kernel
theorem dX7_slight_2 : decode cX7_slight 2 = .ok (.invokevirtual 188, 3) := by decide +kernel
theorem dX7_slight_5 : decode cX7_slight 5 = .ok (.ifCond .ne 6, 3) := by decide +kernel
theorem dX7_slight_8 : decode cX7_slight 8 = .ok (.bipush (-101), 2) := by decide +kernel
theorem dX7_slight_10 : decode cX7_slight 10 = .ok (.ireturn, 1) := by decide +kernel
theorem dX7_slight_11 : decode cX7_slight 11 = .ok (.iload_n 2, 1) := by decide +kernel
theorem dX7_slight_12 : decode cX7_slight 12 = .ok (.i2l, 1) := by decide +kernel
theorem dX7_slight_13 : decode cX7_slight 13 = .ok (.lconst 0, 1) := by decide +kernel
theorem dX7_slight_14 : decode cX7_slight 14 = .ok (.ldc2_w 231, 3) := by decide +kernel
theorem dX7_slight_17 : decode cX7_slight 17 = .ok (.invokestatic 76, 3) := by decide +kernel
theorem dX7_slight_20 : decode cX7_slight 20 = .ok (.ifCond .ne 6, 3) := by decide +kernel
theorem dX7_slight_23 : decode cX7_slight 23 = .ok (.bipush (-102), 2) := by decide +kernel
theorem dX7_slight_25 : decode cX7_slight 25 = .ok (.ireturn, 1) := by decide +kernel
theorem dX7_slight_26 : decode cX7_slight 26 = .ok (.aload_n 0, 1) := by decide +kernel
theorem dX7_slight_27 : decode cX7_slight 27 = .ok (.aload_n 0, 1) := by decide +kernel
theorem dX7_slight_28 : decode cX7_slight 28 = .ok (.getfield 19, 3) := by decide +kernel
theorem dX7_slight_31 : decode cX7_slight 31 = .ok (.iconst 3, 1) := by decide +kernel
theorem dX7_slight_32 : decode cX7_slight 32 = .ok (.iload_n 1, 1) := by decide +kernel
theorem dX7_slight_33 : decode cX7_slight 33 = .ok (.imul, 1) := by decide +kernel
theorem dX7_slight_34 : decode cX7_slight 34 = .ok (.iload_n 2, 1) := by decide +kernel
theorem dX7_slight_35 : decode cX7_slight 35 = .ok (.iadd, 1) := by decide +kernel
theorem dX7_slight_36 : decode cX7_slight 36 = .ok (.invokevirtual 209, 3) := by decide +kernel
theorem dX7_slight_39 : decode cX7_slight 39 = .ok (.aload_n 0, 1) := by decide +kernel
theorem dX7_slight_40 : decode cX7_slight 40 = .ok (.getfield 13, 3) := by decide +kernel
theorem dX7_slight_43 : decode cX7_slight 43 = .ok (.iconst 3, 1) := by decide +kernel
theorem dX7_slight_44 : decode cX7_slight 44 = .ok (.iload_n 1, 1) := by decide +kernel
theorem dX7_slight_45 : decode cX7_slight 45 = .ok (.imul, 1) := by decide +kernel
theorem dX7_slight_46 : decode cX7_slight 46 = .ok (.iconst 2, 1) := by decide +kernel
theorem dX7_slight_47 : decode cX7_slight 47 = .ok (.iadd, 1) := by decide +kernel
theorem dX7_slight_48 : decode cX7_slight 48 = .ok (.dup2, 1) := by decide +kernel
theorem dX7_slight_49 : decode cX7_slight 49 = .ok (.iaload, 1) := by decide +kernel
theorem dX7_slight_50 : decode cX7_slight 50 = .ok (.iconst 1, 1) := by decide +kernel
theorem dX7_slight_51 : decode cX7_slight 51 = .ok (.iadd, 1) := by decide +kernel
theorem dX7_slight_52 : decode cX7_slight 52 = .ok (.iastore, 1) := by decide +kernel
theorem dX7_slight_53 : decode cX7_slight 53 = .ok (.aload_n 0, 1) := by decide +kernel
theorem dX7_slight_54 : decode cX7_slight 54 = .ok (.dup, 1) := by decide +kernel
theorem dX7_slight_55 : decode cX7_slight 55 = .ok (.getfield 118, 3) := by decide +kernel
theorem dX7_slight_58 : decode cX7_slight 58 = .ok (.iconst 1, 1) := by decide +kernel
theorem dX7_slight_59 : decode cX7_slight 59 = .ok (.iadd, 1) := by decide +kernel
theorem dX7_slight_60 : decode cX7_slight 60 = .ok (.putfield 118, 3) := by decide +kernel
theorem dX7_slight_63 : decode cX7_slight 63 = .ok (.aload_n 0, 1) := by decide +kernel
theorem dX7_slight_64 : decode cX7_slight 64 = .ok (.getfield 19, 3) := by decide +kernel
theorem dX7_slight_67 : decode cX7_slight 67 = .ok (.iload_n 1, 1) := by decide +kernel
theorem dX7_slight_68 : decode cX7_slight 68 = .ok (.iaload, 1) := by decide +kernel
theorem dX7_slight_69 : decode cX7_slight 69 = .ok (.ireturn, 1) := by decide +kernel
theorem dX7_soothe_0 : decode cX7_soothe 0 = .ok (.aload_n 0, 1) := by decide +kernel
theorem dX7_soothe_1 : decode cX7_soothe 1 = .ok (.iload_n 1, 1) := by decide +kernel
theorem dX7_soothe_2 : decode cX7_soothe 2 = .ok (.invokevirtual 188, 3) := by decide +kernel
theorem dX7_soothe_5 : decode cX7_soothe 5 = .ok (.ifCond .ne 6, 3) := by decide +kernel
theorem dX7_soothe_8 : decode cX7_soothe 8 = .ok (.bipush (-101), 2) := by decide +kernel
theorem dX7_soothe_10 : decode cX7_soothe 10 = .ok (.ireturn, 1) := by decide +kernel
theorem dX7_soothe_11 : decode cX7_soothe 11 = .ok (.aload_n 0, 1) := by decide +kernel
theorem dX7_soothe_12 : decode cX7_soothe 12 = .ok (.getfield 19, 3) := by decide +kernel
theorem dX7_soothe_15 : decode cX7_soothe 15 = .ok (.iload_n 1, 1) := by decide +kernel
theorem dX7_soothe_16 : decode cX7_soothe 16 = .ok (.iaload, 1) := by decide +kernel
theorem dX7_soothe_17 : decode cX7_soothe 17 = .ok (.istore_n 2, 1) := by decide +kernel
theorem dX7_soothe_18 : decode cX7_soothe 18 = .ok (.aload_n 0, 1) := by decide +kernel
theorem dX7_soothe_19 : decode cX7_soothe 19 = .ok (.getfield 19, 3) := by decide +kernel
theorem dX7_soothe_22 : decode cX7_soothe 22 = .ok (.iload_n 1, 1) := by decide +kernel
theorem dX7_soothe_23 : decode cX7_soothe 23 = .ok (.iconst 0, 1) := by decide +kernel
theorem dX7_soothe_24 : decode cX7_soothe 24 = .ok (.iastore, 1) := by decide +kernel
theorem dX7_soothe_25 : decode cX7_soothe 25 = .ok (.iload_n 2, 1) := by decide +kernel
theorem dX7_soothe_26 : decode cX7_soothe 26 = .ok (.ireturn, 1) := by decide +kernel
theorem dX7_sit_0 : decode cX7_sit 0 = .ok (.aload_n 0, 1) := by decide +kernel
theorem dX7_sit_1 : decode cX7_sit 1 = .ok (.iload_n 1, 1) := by decide +kernel
theorem dX7_sit_2 : decode cX7_sit 2 = .ok (.invokevirtual 188, 3) := by decide +kernel
theorem dX7_sit_5 : decode cX7_sit 5 = .ok (.ifCond .eq 11, 3) := by decide +kernel
theorem dX7_sit_8 : decode cX7_sit 8 = .ok (.aload_n 0, 1) := by decide +kernel
theorem dX7_sit_9 : decode cX7_sit 9 = .ok (.iload_n 2, 1) := by decide +kernel
theorem dX7_sit_10 : decode cX7_sit 10 = .ok (.invokevirtual 233, 3) := by decide +kernel
theorem dX7_sit_13 : decode cX7_sit 13 = .ok (.ifCond .ne 6, 3) := by decide +kernel
theorem dX7_sit_16 : decode cX7_sit 16 = .ok (.bipush (-101), 2) := by decide +kernel
theorem dX7_sit_18 : decode cX7_sit 18 = .ok (.ireturn, 1) := by decide +kernel
theorem dX7_sit_19 : decode cX7_sit 19 = .ok (.aload_n 0, 1) := by decide +kernel
theorem dX7_sit_20 : decode cX7_sit 20 = .ok (.getfield 16, 3) := by decide +kernel
theorem dX7_sit_23 : decode cX7_sit 23 = .ok (.iload_n 1, 1) := by decide +kernel
theorem dX7_sit_24 : decode cX7_sit 24 = .ok (.iaload, 1) := by decide +kernel
theorem dX7_sit_25 : decode cX7_sit 25 = .ok (.istore_n 3, 1) := by decide +kernel
theorem dX7_sit_26 : decode cX7_sit 26 = .ok (.aload_n 0, 1) := by decide +kernel
theorem dX7_sit_27 : decode cX7_sit 27 = .ok (.getfield 16, 3) := by decide +kernel
theorem dX7_sit_30 : decode cX7_sit 30 = .ok (.iload_n 1, 1) := by decide +kernel
theorem dX7_sit_31 : decode cX7_sit 31 = .ok (.iload_n 2, 1) := by decide +kernel
theorem dX7_sit_32 : decode cX7_sit 32 = .ok (.iastore, 1) := by decide +kernel
theorem dX7_sit_33 : decode cX7_sit 33 = .ok (.iload_n 3, 1) := by decide +kernel
theorem dX7_sit_34 : decode cX7_sit 34 = .ok (.ireturn, 1) := by decide +kernel
theorem dX7_night_0 : decode cX7_night 0 = .ok (.aload_n 0, 1) := by decide +kernel
theorem dX7_night_1 : decode cX7_night 1 = .ok (.invokevirtual 133, 3) := by decide +kernel
theorem dX7_night_4 : decode cX7_night 4 = .ok (.ifCond .eq 6, 3) := by decide +kernel
theorem dX7_night_7 : decode cX7_night 7 = .ok (.bipush (-103), 2) := by decide +kernel
theorem dX7_night_9 : decode cX7_night 9 = .ok (.ireturn, 1) := by decide +kernel
theorem dX7_night_10 : decode cX7_night 10 = .ok (.aload_n 0, 1) := by decide +kernel
theorem dX7_night_11 : decode cX7_night 11 = .ok (.getfield 115, 3) := by decide +kernel
theorem dX7_night_14 : decode cX7_night 14 = .ok (.bipush 99, 2) := by decide +kernel
theorem dX7_night_16 : decode cX7_night 16 = .ok (.if_icmp .ne 6, 3) := by decide +kernel
theorem dX7_night_19 : decode cX7_night 19 = .ok (.bipush (-104), 2) := by decide +kernel
theorem dX7_night_21 : decode cX7_night 21 = .ok (.ireturn, 1) := by decide +kernel
theorem dX7_night_22 : decode cX7_night 22 = .ok (.aload_n 0, 1) := by decide +kernel
theorem dX7_night_23 : decode cX7_night 23 = .ok (.aload_n 0, 1) := by decide +kernel
theorem dX7_night_24 : decode cX7_night 24 = .ok (.getfield 19, 3) := by decide +kernel
theorem dX7_night_27 : decode cX7_night 27 = .ok (.invokevirtual 236, 3) := by decide +kernel
theorem dX7_night_30 : decode cX7_night 30 = .ok (.aload_n 0, 1) := by decide +kernel
theorem dX7_night_31 : decode cX7_night 31 = .ok (.dup, 1) := by decide +kernel
theorem dX7_night_32 : decode cX7_night 32 = .ok (.getfield 115, 3) := by decide +kernel
theorem dX7_night_35 : decode cX7_night 35 = .ok (.iconst 1, 1) := by decide +kernel
theorem dX7_night_36 : decode cX7_night 36 = .ok (.iadd, 1) := by decide +kernel
theorem dX7_night_37 : decode cX7_night 37 = .ok (.putfield 115, 3) := by decide +kernel
theorem dX7_night_40 : decode cX7_night 40 = .ok (.aload_n 0, 1) := by decide +kernel
theorem dX7_night_41 : decode cX7_night 41 = .ok (.getfield 115, 3) := by decide +kernel
theorem dX7_night_44 : decode cX7_night 44 = .ok (.ireturn, 1) := by decide +kernel
theorem dX7_curdle_0 : decode cX7_curdle 0 = .ok (.aload_n 0, 1) := by decide +kernel
theorem dX7_curdle_1 : decode cX7_curdle 1 = .ok (.invokevirtual 133, 3) := by decide +kernel
theorem dX7_curdle_4 : decode cX7_curdle 4 = .ok (.ifCond .eq 6, 3) := by decide +kernel
theorem dX7_curdle_7 : decode cX7_curdle 7 = .ok (.bipush (-103), 2) := by decide +kernel
theorem dX7_curdle_9 : decode cX7_curdle 9 = .ok (.ireturn, 1) := by decide +kernel
theorem dX7_curdle_10 : decode cX7_curdle 10 = .ok (.aload_n 0, 1) := by decide +kernel
theorem dX7_curdle_11 : decode cX7_curdle 11 = .ok (.invokevirtual 166, 3) := by decide +kernel
theorem dX7_curdle_14 : decode cX7_curdle 14 = .ok (.istore_n 1, 1) := by decide +kernel
theorem dX7_curdle_15 : decode cX7_curdle 15 = .ok (.iconst 0, 1) := by decide +kernel
theorem dX7_curdle_16 : decode cX7_curdle 16 = .ok (.istore_n 2, 1) := by decide +kernel
theorem dX7_curdle_17 : decode cX7_curdle 17 = .ok (.iconst 0, 1) := by decide +kernel
theorem dX7_curdle_18 : decode cX7_curdle 18 = .ok (.istore_n 3, 1) := by decide +kernel
theorem dX7_curdle_19 : decode cX7_curdle 19 = .ok (.iload_n 3, 1) := by decide +kernel
theorem dX7_curdle_20 : decode cX7_curdle 20 = .ok (.aload_n 0, 1) := by decide +kernel
theorem dX7_curdle_21 : decode cX7_curdle 21 = .ok (.getfield 112, 3) := by decide +kernel
theorem dX7_curdle_24 : decode cX7_curdle 24 = .ok (.if_icmp .ge 37, 3) := by decide +kernel
theorem dX7_curdle_27 : decode cX7_curdle 27 = .ok (.iload_n 1, 1) := by decide +kernel
theorem dX7_curdle_28 : decode cX7_curdle 28 = .ok (.iload_n 3, 1) := by decide +kernel
theorem dX7_curdle_29 : decode cX7_curdle 29 = .ok (.ishr, 1) := by decide +kernel
theorem dX7_curdle_30 : decode cX7_curdle 30 = .ok (.iconst 1, 1) := by decide +kernel
theorem dX7_curdle_31 : decode cX7_curdle 31 = .ok (.iand, 1) := by decide +kernel
theorem dX7_curdle_32 : decode cX7_curdle 32 = .ok (.iconst 1, 1) := by decide +kernel
theorem dX7_curdle_33 : decode cX7_curdle 33 = .ok (.if_icmp .ne 22, 3) := by decide +kernel
theorem dX7_curdle_36 : decode cX7_curdle 36 = .ok (.aload_n 0, 1) := by decide +kernel
theorem dX7_curdle_37 : decode cX7_curdle 37 = .ok (.getfield 25, 3) := by decide +kernel
theorem dX7_curdle_40 : decode cX7_curdle 40 = .ok (.iload_n 3, 1) := by decide +kernel
theorem dX7_curdle_41 : decode cX7_curdle 41 = .ok (.iaload, 1) := by decide +kernel
theorem dX7_curdle_42 : decode cX7_curdle 42 = .ok (.ifCond .ne 13, 3) := by decide +kernel
theorem dX7_curdle_45 : decode cX7_curdle 45 = .ok (.aload_n 0, 1) := by decide +kernel
theorem dX7_curdle_46 : decode cX7_curdle 46 = .ok (.getfield 25, 3) := by decide +kernel
theorem dX7_curdle_49 : decode cX7_curdle 49 = .ok (.iload_n 3, 1) := by decide +kernel
theorem dX7_curdle_50 : decode cX7_curdle 50 = .ok (.iconst 1, 1) := by decide +kernel
theorem dX7_curdle_51 : decode cX7_curdle 51 = .ok (.iastore, 1) := by decide +kernel
theorem dX7_curdle_52 : decode cX7_curdle 52 = .ok (.iinc 2 1, 3) := by decide +kernel
theorem dX7_curdle_55 : decode cX7_curdle 55 = .ok (.iinc 3 1, 3) := by decide +kernel
theorem dX7_curdle_58 : decode cX7_curdle 58 = .ok (.goto (-39), 3) := by decide +kernel
theorem dX7_curdle_61 : decode cX7_curdle 61 = .ok (.aload_n 0, 1) := by decide +kernel
theorem dX7_curdle_62 : decode cX7_curdle 62 = .ok (.iconst 0, 1) := by decide +kernel
theorem dX7_curdle_63 : decode cX7_curdle 63 = .ok (.putfield 124, 3) := by decide +kernel
theorem dX7_curdle_66 : decode cX7_curdle 66 = .ok (.aload_n 0, 1) := by decide +kernel
theorem dX7_curdle_67 : decode cX7_curdle 67 = .ok (.dup, 1) := by decide +kernel
theorem dX7_curdle_68 : decode cX7_curdle 68 = .ok (.getfield 121, 3) := by decide +kernel
theorem dX7_curdle_71 : decode cX7_curdle 71 = .ok (.iload_n 2, 1) := by decide +kernel
theorem dX7_curdle_72 : decode cX7_curdle 72 = .ok (.iadd, 1) := by decide +kernel
theorem dX7_curdle_73 : decode cX7_curdle 73 = .ok (.putfield 121, 3) := by decide +kernel
theorem dX7_curdle_76 : decode cX7_curdle 76 = .ok (.iload_n 2, 1) := by decide +kernel
theorem dX7_curdle_77 : decode cX7_curdle 77 = .ok (.ireturn, 1) := by decide +kernel
theorem dX7_fresh_0 : decode cX7_fresh 0 = .ok (.aload_n 0, 1) := by decide +kernel
theorem dX7_fresh_1 : decode cX7_fresh 1 = .ok (.iload_n 1, 1) := by decide +kernel
theorem dX7_fresh_2 : decode cX7_fresh 2 = .ok (.invokevirtual 225, 3) := by decide +kernel
theorem dX7_fresh_5 : decode cX7_fresh 5 = .ok (.ifCond .ne 6, 3) := by decide +kernel
theorem dX7_fresh_8 : decode cX7_fresh 8 = .ok (.bipush (-101), 2) := by decide +kernel
theorem dX7_fresh_10 : decode cX7_fresh 10 = .ok (.ireturn, 1) := by decide +kernel
theorem dX7_fresh_11 : decode cX7_fresh 11 = .ok (.aload_n 0, 1) := by decide +kernel
theorem dX7_fresh_12 : decode cX7_fresh 12 = .ok (.getfield 25, 3) := by decide +kernel
theorem dX7_fresh_15 : decode cX7_fresh 15 = .ok (.iload_n 1, 1) := by decide +kernel
theorem dX7_fresh_16 : decode cX7_fresh 16 = .ok (.iaload, 1) := by decide +kernel
theorem dX7_fresh_17 : decode cX7_fresh 17 = .ok (.istore_n 2, 1) := by decide +kernel
theorem dX7_fresh_18 : decode cX7_fresh 18 = .ok (.aload_n 0, 1) := by decide +kernel
theorem dX7_fresh_19 : decode cX7_fresh 19 = .ok (.getfield 25, 3) := by decide +kernel
theorem dX7_fresh_22 : decode cX7_fresh 22 = .ok (.iload_n 1, 1) := by decide +kernel
theorem dX7_fresh_23 : decode cX7_fresh 23 = .ok (.iconst 0, 1) := by decide +kernel
theorem dX7_fresh_24 : decode cX7_fresh 24 = .ok (.iastore, 1) := by decide +kernel
theorem dX7_fresh_25 : decode cX7_fresh 25 = .ok (.iload_n 2, 1) := by decide +kernel
theorem dX7_fresh_26 : decode cX7_fresh 26 = .ok (.ireturn, 1) := by decide +kernel
theorem dX7_force_0 : decode cX7_force 0 = .ok (.aload_n 0, 1) := by decide +kernel
theorem dX7_force_1 : decode cX7_force 1 = .ok (.iload_n 1, 1) := by decide +kernel
theorem dX7_force_2 : decode cX7_force 2 = .ok (.invokevirtual 233, 3) := by decide +kernel
theorem dX7_force_5 : decode cX7_force 5 = .ok (.ifCond .eq 11, 3) := by decide +kernel
theorem dX7_force_8 : decode cX7_force 8 = .ok (.aload_n 0, 1) := by decide +kernel
theorem dX7_force_9 : decode cX7_force 9 = .ok (.iload_n 1, 1) := by decide +kernel
theorem dX7_force_10 : decode cX7_force 10 = .ok (.invokevirtual 196, 3) := by decide +kernel
theorem dX7_force_13 : decode cX7_force 13 = .ok (.goto 5, 3) := by decide +kernel
theorem dX7_force_16 : decode cX7_force 16 = .ok (.bipush (-101), 2) := by decide +kernel
theorem dX7_force_18 : decode cX7_force 18 = .ok (.ireturn, 1) := by decide +kernel
theorem dX7_keep_0 : decode cX7_keep 0 = .ok (.aload_n 0, 1) := by decide +kernel
theorem dX7_keep_1 : decode cX7_keep 1 = .ok (.iload_n 1, 1) := by decide +kernel
end
section
theorem dX7_keep_2 : decode cX7_keep 2 = .ok (.invokevirtual 240, 3) := by decide +kernel
theorem dX7_keep_5 : decode cX7_keep 5 = .ok (.ifCond .eq 11, 3) := by decide +kernel
theorem dX7_keep_8 : decode cX7_keep 8 = .ok (.aload_n 0, 1) := by decide +kernel
theorem dX7_keep_9 : decode cX7_keep 9 = .ok (.iload_n 2, 1) := by decide +kernel
theorem dX7_keep_10 : decode cX7_keep 10 = .ok (.invokevirtual 188, 3) := by decide +kernel
theorem dX7_keep_13 : decode cX7_keep 13 = .ok (.ifCond .ne 6, 3) := by decide +kernel
theorem dX7_keep_16 : decode cX7_keep 16 = .ok (.bipush (-101), 2) := by decide +kernel
theorem dX7_keep_18 : decode cX7_keep 18 = .ok (.ireturn, 1) := by decide +kernel
theorem dX7_keep_19 : decode cX7_keep 19 = .ok (.aload_n 0, 1) := by decide +kernel
theorem dX7_keep_20 : decode cX7_keep 20 = .ok (.getfield 28, 3) := by decide +kernel
theorem dX7_keep_23 : decode cX7_keep 23 = .ok (.iload_n 1, 1) := by decide +kernel
theorem dX7_keep_24 : decode cX7_keep 24 = .ok (.iaload, 1) := by decide +kernel
theorem dX7_keep_25 : decode cX7_keep 25 = .ok (.ifCond .gt 12, 3) := by decide +kernel
theorem dX7_keep_28 : decode cX7_keep 28 = .ok (.aload_n 0, 1) := by decide +kernel
theorem dX7_keep_29 : decode cX7_keep 29 = .ok (.getfield 19, 3) := by decide +kernel
theorem dX7_keep_32 : decode cX7_keep 32 = .ok (.iload_n 2, 1) := by decide +kernel
theorem dX7_keep_33 : decode cX7_keep 33 = .ok (.iaload, 1) := by decide +kernel
theorem dX7_keep_34 : decode cX7_keep 34 = .ok (.ifCond .ne 6, 3) := by decide +kernel
theorem dX7_keep_37 : decode cX7_keep 37 = .ok (.bipush (-103), 2) := by decide +kernel
theorem dX7_keep_39 : decode cX7_keep 39 = .ok (.ireturn, 1) := by decide +kernel
theorem dX7_keep_40 : decode cX7_keep 40 = .ok (.aload_n 0, 1) := by decide +kernel
theorem dX7_keep_41 : decode cX7_keep 41 = .ok (.getfield 28, 3) := by decide +kernel
theorem dX7_keep_44 : decode cX7_keep 44 = .ok (.iload_n 1, 1) := by decide +kernel
theorem dX7_keep_45 : decode cX7_keep 45 = .ok (.aload_n 0, 1) := by decide +kernel
theorem dX7_keep_46 : decode cX7_keep 46 = .ok (.getfield 19, 3) := by decide +kernel
theorem dX7_keep_49 : decode cX7_keep 49 = .ok (.iload_n 2, 1) := by decide +kernel
theorem dX7_keep_50 : decode cX7_keep 50 = .ok (.iaload, 1) := by decide +kernel
theorem dX7_keep_51 : decode cX7_keep 51 = .ok (.iastore, 1) := by decide +kernel
theorem dX7_keep_52 : decode cX7_keep 52 = .ok (.aload_n 0, 1) := by decide +kernel
theorem dX7_keep_53 : decode cX7_keep 53 = .ok (.getfield 19, 3) := by decide +kernel
theorem dX7_keep_56 : decode cX7_keep 56 = .ok (.iload_n 2, 1) := by decide +kernel
theorem dX7_keep_57 : decode cX7_keep 57 = .ok (.iconst 0, 1) := by decide +kernel
theorem dX7_keep_58 : decode cX7_keep 58 = .ok (.iastore, 1) := by decide +kernel
theorem dX7_keep_59 : decode cX7_keep 59 = .ok (.aload_n 0, 1) := by decide +kernel
theorem dX7_keep_60 : decode cX7_keep 60 = .ok (.getfield 28, 3) := by decide +kernel
theorem dX7_keep_63 : decode cX7_keep 63 = .ok (.iload_n 1, 1) := by decide +kernel
theorem dX7_keep_64 : decode cX7_keep 64 = .ok (.iaload, 1) := by decide +kernel
theorem dX7_keep_65 : decode cX7_keep 65 = .ok (.ireturn, 1) := by decide +kernel
theorem dX7_pour_0 : decode cX7_pour 0 = .ok (.aload_n 0, 1) := by decide +kernel
theorem dX7_pour_1 : decode cX7_pour 1 = .ok (.iload_n 1, 1) := by decide +kernel
theorem dX7_pour_2 : decode cX7_pour 2 = .ok (.invokevirtual 240, 3) := by decide +kernel
theorem dX7_pour_5 : decode cX7_pour 5 = .ok (.ifCond .eq 11, 3) := by decide +kernel
theorem dX7_pour_8 : decode cX7_pour 8 = .ok (.aload_n 0, 1) := by decide +kernel
theorem dX7_pour_9 : decode cX7_pour 9 = .ok (.iload_n 2, 1) := by decide +kernel
theorem dX7_pour_10 : decode cX7_pour 10 = .ok (.invokevirtual 233, 3) := by decide +kernel
theorem dX7_pour_13 : decode cX7_pour 13 = .ok (.ifCond .ne 6, 3) := by decide +kernel
theorem dX7_pour_16 : decode cX7_pour 16 = .ok (.bipush (-101), 2) := by decide +kernel
theorem dX7_pour_18 : decode cX7_pour 18 = .ok (.ireturn, 1) := by decide +kernel
theorem dX7_pour_19 : decode cX7_pour 19 = .ok (.aload_n 0, 1) := by decide +kernel
theorem dX7_pour_20 : decode cX7_pour 20 = .ok (.getfield 28, 3) := by decide +kernel
theorem dX7_pour_23 : decode cX7_pour 23 = .ok (.iload_n 1, 1) := by decide +kernel
theorem dX7_pour_24 : decode cX7_pour 24 = .ok (.iaload, 1) := by decide +kernel
theorem dX7_pour_25 : decode cX7_pour 25 = .ok (.ifCond .ne 6, 3) := by decide +kernel
theorem dX7_pour_28 : decode cX7_pour 28 = .ok (.bipush (-103), 2) := by decide +kernel
theorem dX7_pour_30 : decode cX7_pour 30 = .ok (.ireturn, 1) := by decide +kernel
theorem dX7_pour_31 : decode cX7_pour 31 = .ok (.aload_n 0, 1) := by decide +kernel
theorem dX7_pour_32 : decode cX7_pour 32 = .ok (.getfield 124, 3) := by decide +kernel
theorem dX7_pour_35 : decode cX7_pour 35 = .ok (.iconst 4, 1) := by decide +kernel
theorem dX7_pour_36 : decode cX7_pour 36 = .ok (.if_icmp .ne 6, 3) := by decide +kernel
theorem dX7_pour_39 : decode cX7_pour 39 = .ok (.bipush (-104), 2) := by decide +kernel
theorem dX7_pour_41 : decode cX7_pour 41 = .ok (.ireturn, 1) := by decide +kernel
theorem dX7_pour_42 : decode cX7_pour 42 = .ok (.aload_n 0, 1) := by decide +kernel
theorem dX7_pour_43 : decode cX7_pour 43 = .ok (.getfield 28, 3) := by decide +kernel
theorem dX7_pour_46 : decode cX7_pour 46 = .ok (.iload_n 1, 1) := by decide +kernel
theorem dX7_pour_47 : decode cX7_pour 47 = .ok (.iaload, 1) := by decide +kernel
theorem dX7_pour_48 : decode cX7_pour 48 = .ok (.istore_n 3, 1) := by decide +kernel
theorem dX7_pour_49 : decode cX7_pour 49 = .ok (.aload_n 0, 1) := by decide +kernel
theorem dX7_pour_50 : decode cX7_pour 50 = .ok (.getfield 31, 3) := by decide +kernel
theorem dX7_pour_53 : decode cX7_pour 53 = .ok (.iconst 2, 1) := by decide +kernel
theorem dX7_pour_54 : decode cX7_pour 54 = .ok (.aload_n 0, 1) := by decide +kernel
theorem dX7_pour_55 : decode cX7_pour 55 = .ok (.getfield 124, 3) := by decide +kernel
theorem dX7_pour_58 : decode cX7_pour 58 = .ok (.imul, 1) := by decide +kernel
theorem dX7_pour_59 : decode cX7_pour 59 = .ok (.iload_n 3, 1) := by decide +kernel
theorem dX7_pour_60 : decode cX7_pour 60 = .ok (.iastore, 1) := by decide +kernel
theorem dX7_pour_61 : decode cX7_pour 61 = .ok (.aload_n 0, 1) := by decide +kernel
theorem dX7_pour_62 : decode cX7_pour 62 = .ok (.getfield 31, 3) := by decide +kernel
theorem dX7_pour_65 : decode cX7_pour 65 = .ok (.iconst 2, 1) := by decide +kernel
theorem dX7_pour_66 : decode cX7_pour 66 = .ok (.aload_n 0, 1) := by decide +kernel
theorem dX7_pour_67 : decode cX7_pour 67 = .ok (.getfield 124, 3) := by decide +kernel
theorem dX7_pour_70 : decode cX7_pour 70 = .ok (.imul, 1) := by decide +kernel
theorem dX7_pour_71 : decode cX7_pour 71 = .ok (.iconst 1, 1) := by decide +kernel
theorem dX7_pour_72 : decode cX7_pour 72 = .ok (.iadd, 1) := by decide +kernel
theorem dX7_pour_73 : decode cX7_pour 73 = .ok (.iload_n 2, 1) := by decide +kernel
theorem dX7_pour_74 : decode cX7_pour 74 = .ok (.iastore, 1) := by decide +kernel
theorem dX7_pour_75 : decode cX7_pour 75 = .ok (.aload_n 0, 1) := by decide +kernel
theorem dX7_pour_76 : decode cX7_pour 76 = .ok (.dup, 1) := by decide +kernel
theorem dX7_pour_77 : decode cX7_pour 77 = .ok (.getfield 124, 3) := by decide +kernel
theorem dX7_pour_80 : decode cX7_pour 80 = .ok (.iconst 1, 1) := by decide +kernel
theorem dX7_pour_81 : decode cX7_pour 81 = .ok (.iadd, 1) := by decide +kernel
theorem dX7_pour_82 : decode cX7_pour 82 = .ok (.putfield 124, 3) := by decide +kernel
theorem dX7_pour_85 : decode cX7_pour 85 = .ok (.aload_n 0, 1) := by decide +kernel
theorem dX7_pour_86 : decode cX7_pour 86 = .ok (.getfield 28, 3) := by decide +kernel
theorem dX7_pour_89 : decode cX7_pour 89 = .ok (.iload_n 1, 1) := by decide +kernel
theorem dX7_pour_90 : decode cX7_pour 90 = .ok (.iconst 0, 1) := by decide +kernel
theorem dX7_pour_91 : decode cX7_pour 91 = .ok (.iastore, 1) := by decide +kernel
theorem dX7_pour_92 : decode cX7_pour 92 = .ok (.iload_n 3, 1) := by decide +kernel
theorem dX7_pour_93 : decode cX7_pour 93 = .ok (.ireturn, 1) := by decide +kernel
theorem dX7_bottle_0 : decode cX7_bottle 0 = .ok (.aload_n 0, 1) := by decide +kernel
theorem dX7_bottle_1 : decode cX7_bottle 1 = .ok (.iload_n 1, 1) := by decide +kernel
theorem dX7_bottle_2 : decode cX7_bottle 2 = .ok (.invokevirtual 240, 3) := by decide +kernel
theorem dX7_bottle_5 : decode cX7_bottle 5 = .ok (.ifCond .eq 12, 3) := by decide +kernel
theorem dX7_bottle_8 : decode cX7_bottle 8 = .ok (.aload_n 0, 1) := by decide +kernel
theorem dX7_bottle_9 : decode cX7_bottle 9 = .ok (.getfield 28, 3) := by decide +kernel
theorem dX7_bottle_12 : decode cX7_bottle 12 = .ok (.iload_n 1, 1) := by decide +kernel
theorem dX7_bottle_13 : decode cX7_bottle 13 = .ok (.iaload, 1) := by decide +kernel
theorem dX7_bottle_14 : decode cX7_bottle 14 = .ok (.goto 5, 3) := by decide +kernel
theorem dX7_bottle_17 : decode cX7_bottle 17 = .ok (.bipush (-101), 2) := by decide +kernel
theorem dX7_bottle_19 : decode cX7_bottle 19 = .ok (.ireturn, 1) := by decide +kernel
theorem dX7_would_0 : decode cX7_would 0 = .ok (.aload_n 0, 1) := by decide +kernel
theorem dX7_would_1 : decode cX7_would 1 = .ok (.invokevirtual 133, 3) := by decide +kernel
theorem dX7_would_4 : decode cX7_would 4 = .ok (.ifCond .eq 8, 3) := by decide +kernel
theorem dX7_would_7 : decode cX7_would 7 = .ok (.bipush (-103), 2) := by decide +kernel
theorem dX7_would_9 : decode cX7_would 9 = .ok (.goto 7, 3) := by decide +kernel
theorem dX7_would_12 : decode cX7_would 12 = .ok (.aload_n 0, 1) := by decide +kernel
theorem dX7_would_13 : decode cX7_would 13 = .ok (.invokevirtual 166, 3) := by decide +kernel
theorem dX7_would_16 : decode cX7_would 16 = .ok (.ireturn, 1) := by decide +kernel
theorem dX7_isEnough_0 : decode cX7_isEnough 0 = .ok (.aload_n 0, 1) := by decide +kernel
theorem dX7_isEnough_1 : decode cX7_isEnough 1 = .ok (.getfield 19, 3) := by decide +kernel
theorem dX7_isEnough_4 : decode cX7_isEnough 4 = .ok (.aload_n 0, 1) := by decide +kernel
theorem dX7_isEnough_5 : decode cX7_isEnough 5 = .ok (.getfield 34, 3) := by decide +kernel
theorem dX7_isEnough_8 : decode cX7_isEnough 8 = .ok (.invokestatic 205, 3) := by decide +kernel
theorem dX7_isEnough_11 : decode cX7_isEnough 11 = .ok (.iconst 0, 1) := by decide +kernel
theorem dX7_isEnough_12 : decode cX7_isEnough 12 = .ok (.istore_n 3, 1) := by decide +kernel
theorem dX7_isEnough_13 : decode cX7_isEnough 13 = .ok (.iload_n 3, 1) := by decide +kernel
theorem dX7_isEnough_14 : decode cX7_isEnough 14 = .ok (.iload_n 2, 1) := by decide +kernel
theorem dX7_isEnough_15 : decode cX7_isEnough 15 = .ok (.if_icmp .ge 23, 3) := by decide +kernel
theorem dX7_isEnough_18 : decode cX7_isEnough 18 = .ok (.aload_n 0, 1) := by decide +kernel
theorem dX7_isEnough_19 : decode cX7_isEnough 19 = .ok (.aload_n 0, 1) := by decide +kernel
theorem dX7_isEnough_20 : decode cX7_isEnough 20 = .ok (.getfield 34, 3) := by decide +kernel
theorem dX7_isEnough_23 : decode cX7_isEnough 23 = .ok (.aload_n 0, 1) := by decide +kernel
theorem dX7_isEnough_24 : decode cX7_isEnough 24 = .ok (.getfield 37, 3) := by decide +kernel
theorem dX7_isEnough_27 : decode cX7_isEnough 27 = .ok (.iload_n 3, 1) := by decide +kernel
theorem dX7_isEnough_28 : decode cX7_isEnough 28 = .ok (.iaload, 1) := by decide +kernel
theorem dX7_isEnough_29 : decode cX7_isEnough 29 = .ok (.invokevirtual 209, 3) := by decide +kernel
theorem dX7_isEnough_32 : decode cX7_isEnough 32 = .ok (.iinc 3 1, 3) := by decide +kernel
theorem dX7_isEnough_35 : decode cX7_isEnough 35 = .ok (.goto (-22), 3) := by decide +kernel
theorem dX7_isEnough_38 : decode cX7_isEnough 38 = .ok (.iload_n 1, 1) := by decide +kernel
theorem dX7_isEnough_39 : decode cX7_isEnough 39 = .ok (.aload_n 0, 1) := by decide +kernel
theorem dX7_isEnough_40 : decode cX7_isEnough 40 = .ok (.aload_n 0, 1) := by decide +kernel
theorem dX7_isEnough_41 : decode cX7_isEnough 41 = .ok (.getfield 34, 3) := by decide +kernel
theorem dX7_isEnough_44 : decode cX7_isEnough 44 = .ok (.iconst 1, 1) := by decide +kernel
theorem dX7_isEnough_45 : decode cX7_isEnough 45 = .ok (.invokevirtual 162, 3) := by decide +kernel
theorem dX7_isEnough_48 : decode cX7_isEnough 48 = .ok (.iconst (-1), 1) := by decide +kernel
theorem dX7_isEnough_49 : decode cX7_isEnough 49 = .ok (.ixor, 1) := by decide +kernel
theorem dX7_isEnough_50 : decode cX7_isEnough 50 = .ok (.iand, 1) := by decide +kernel
theorem dX7_isEnough_51 : decode cX7_isEnough 51 = .ok (.ifCond .ne 7, 3) := by decide +kernel
theorem dX7_isEnough_54 : decode cX7_isEnough 54 = .ok (.iconst 1, 1) := by decide +kernel
theorem dX7_isEnough_55 : decode cX7_isEnough 55 = .ok (.goto 4, 3) := by decide +kernel
theorem dX7_isEnough_58 : decode cX7_isEnough 58 = .ok (.iconst 0, 1) := by decide +kernel
theorem dX7_isEnough_59 : decode cX7_isEnough 59 = .ok (.ireturn, 1) := by decide +kernel
theorem dX7_nextRow_0 : decode cX7_nextRow 0 = .ok (.iload_n 1, 1) := by decide +kernel
theorem dX7_nextRow_1 : decode cX7_nextRow 1 = .ok (.iconst 1, 1) := by decide +kernel
theorem dX7_nextRow_2 : decode cX7_nextRow 2 = .ok (.isub, 1) := by decide +kernel
theorem dX7_nextRow_3 : decode cX7_nextRow 3 = .ok (.istore_n 2, 1) := by decide +kernel
theorem dX7_nextRow_4 : decode cX7_nextRow 4 = .ok (.iload_n 2, 1) := by decide +kernel
theorem dX7_nextRow_5 : decode cX7_nextRow 5 = .ok (.ifCond .lt 26, 3) := by decide +kernel
theorem dX7_nextRow_8 : decode cX7_nextRow 8 = .ok (.aload_n 0, 1) := by decide +kernel
theorem dX7_nextRow_9 : decode cX7_nextRow 9 = .ok (.getfield 37, 3) := by decide +kernel
theorem dX7_nextRow_12 : decode cX7_nextRow 12 = .ok (.iload_n 2, 1) := by decide +kernel
theorem dX7_nextRow_13 : decode cX7_nextRow 13 = .ok (.iaload, 1) := by decide +kernel
theorem dX7_nextRow_14 : decode cX7_nextRow 14 = .ok (.iconst 3, 1) := by decide +kernel
theorem dX7_nextRow_15 : decode cX7_nextRow 15 = .ok (.aload_n 0, 1) := by decide +kernel
theorem dX7_nextRow_16 : decode cX7_nextRow 16 = .ok (.getfield 109, 3) := by decide +kernel
theorem dX7_nextRow_19 : decode cX7_nextRow 19 = .ok (.imul, 1) := by decide +kernel
theorem dX7_nextRow_20 : decode cX7_nextRow 20 = .ok (.iconst 1, 1) := by decide +kernel
theorem dX7_nextRow_21 : decode cX7_nextRow 21 = .ok (.isub, 1) := by decide +kernel
theorem dX7_nextRow_22 : decode cX7_nextRow 22 = .ok (.if_icmp .ne 9, 3) := by decide +kernel
theorem dX7_nextRow_25 : decode cX7_nextRow 25 = .ok (.iinc 2 (-1), 3) := by decide +kernel
theorem dX7_nextRow_28 : decode cX7_nextRow 28 = .ok (.goto (-24), 3) := by decide +kernel
theorem dX7_nextRow_31 : decode cX7_nextRow 31 = .ok (.iload_n 2, 1) := by decide +kernel
theorem dX7_nextRow_32 : decode cX7_nextRow 32 = .ok (.ifCond .ge 5, 3) := by decide +kernel
theorem dX7_nextRow_35 : decode cX7_nextRow 35 = .ok (.iconst 0, 1) := by decide +kernel
theorem dX7_nextRow_36 : decode cX7_nextRow 36 = .ok (.ireturn, 1) := by decide +kernel
theorem dX7_nextRow_37 : decode cX7_nextRow 37 = .ok (.aload_n 0, 1) := by decide +kernel
theorem dX7_nextRow_38 : decode cX7_nextRow 38 = .ok (.getfield 37, 3) := by decide +kernel
theorem dX7_nextRow_41 : decode cX7_nextRow 41 = .ok (.iload_n 2, 1) := by decide +kernel
theorem dX7_nextRow_42 : decode cX7_nextRow 42 = .ok (.dup2, 1) := by decide +kernel
theorem dX7_nextRow_43 : decode cX7_nextRow 43 = .ok (.iaload, 1) := by decide +kernel
theorem dX7_nextRow_44 : decode cX7_nextRow 44 = .ok (.iconst 1, 1) := by decide +kernel
theorem dX7_nextRow_45 : decode cX7_nextRow 45 = .ok (.iadd, 1) := by decide +kernel
theorem dX7_nextRow_46 : decode cX7_nextRow 46 = .ok (.iastore, 1) := by decide +kernel
theorem dX7_nextRow_47 : decode cX7_nextRow 47 = .ok (.iload_n 2, 1) := by decide +kernel
theorem dX7_nextRow_48 : decode cX7_nextRow 48 = .ok (.iconst 1, 1) := by decide +kernel
theorem dX7_nextRow_49 : decode cX7_nextRow 49 = .ok (.iadd, 1) := by decide +kernel
theorem dX7_nextRow_50 : decode cX7_nextRow 50 = .ok (.istore_n 3, 1) := by decide +kernel
theorem dX7_nextRow_51 : decode cX7_nextRow 51 = .ok (.iload_n 3, 1) := by decide +kernel
theorem dX7_nextRow_52 : decode cX7_nextRow 52 = .ok (.iload_n 1, 1) := by decide +kernel
theorem dX7_nextRow_53 : decode cX7_nextRow 53 = .ok (.if_icmp .ge 21, 3) := by decide +kernel
theorem dX7_nextRow_56 : decode cX7_nextRow 56 = .ok (.aload_n 0, 1) := by decide +kernel
theorem dX7_nextRow_57 : decode cX7_nextRow 57 = .ok (.getfield 37, 3) := by decide +kernel
theorem dX7_nextRow_60 : decode cX7_nextRow 60 = .ok (.iload_n 3, 1) := by decide +kernel
theorem dX7_nextRow_61 : decode cX7_nextRow 61 = .ok (.aload_n 0, 1) := by decide +kernel
theorem dX7_nextRow_62 : decode cX7_nextRow 62 = .ok (.getfield 37, 3) := by decide +kernel
theorem dX7_nextRow_65 : decode cX7_nextRow 65 = .ok (.iload_n 2, 1) := by decide +kernel
theorem dX7_nextRow_66 : decode cX7_nextRow 66 = .ok (.iaload, 1) := by decide +kernel
theorem dX7_nextRow_67 : decode cX7_nextRow 67 = .ok (.iastore, 1) := by decide +kernel
theorem dX7_nextRow_68 : decode cX7_nextRow 68 = .ok (.iinc 3 1, 3) := by decide +kernel
theorem dX7_nextRow_71 : decode cX7_nextRow 71 = .ok (.goto (-20), 3) := by decide +kernel
theorem dX7_nextRow_74 : decode cX7_nextRow 74 = .ok (.iconst 1, 1) := by decide +kernel
theorem dX7_nextRow_75 : decode cX7_nextRow 75 = .ok (.ireturn, 1) := by decide +kernel
theorem dX7_layFew_0 : decode cX7_layFew 0 = .ok (.iconst 0, 1) := by decide +kernel
theorem dX7_layFew_1 : decode cX7_layFew 1 = .ok (.istore_n 2, 1) := by decide +kernel
theorem dX7_layFew_2 : decode cX7_layFew 2 = .ok (.iload_n 2, 1) := by decide +kernel
theorem dX7_layFew_3 : decode cX7_layFew 3 = .ok (.iconst 4, 1) := by decide +kernel
theorem dX7_layFew_4 : decode cX7_layFew 4 = .ok (.if_icmp .ge 67, 3) := by decide +kernel
theorem dX7_layFew_7 : decode cX7_layFew 7 = .ok (.aload_n 0, 1) := by decide +kernel
theorem dX7_layFew_8 : decode cX7_layFew 8 = .ok (.getfield 37, 3) := by decide +kernel
theorem dX7_layFew_11 : decode cX7_layFew 11 = .ok (.iconst 0, 1) := by decide +kernel
theorem dX7_layFew_12 : decode cX7_layFew 12 = .ok (.iconst 0, 1) := by decide +kernel
theorem dX7_layFew_13 : decode cX7_layFew 13 = .ok (.iastore, 1) := by decide +kernel
theorem dX7_layFew_14 : decode cX7_layFew 14 = .ok (.aload_n 0, 1) := by decide +kernel
theorem dX7_layFew_15 : decode cX7_layFew 15 = .ok (.getfield 37, 3) := by decide +kernel
theorem dX7_layFew_18 : decode cX7_layFew 18 = .ok (.iconst 1, 1) := by decide +kernel
theorem dX7_layFew_19 : decode cX7_layFew 19 = .ok (.iconst 0, 1) := by decide +kernel
theorem dX7_layFew_20 : decode cX7_layFew 20 = .ok (.iastore, 1) := by decide +kernel
theorem dX7_layFew_21 : decode cX7_layFew 21 = .ok (.aload_n 0, 1) := by decide +kernel
theorem dX7_layFew_22 : decode cX7_layFew 22 = .ok (.getfield 37, 3) := by decide +kernel
theorem dX7_layFew_25 : decode cX7_layFew 25 = .ok (.iconst 2, 1) := by decide +kernel
theorem dX7_layFew_26 : decode cX7_layFew 26 = .ok (.iconst 0, 1) := by decide +kernel
theorem dX7_layFew_27 : decode cX7_layFew 27 = .ok (.iastore, 1) := by decide +kernel
theorem dX7_layFew_28 : decode cX7_layFew 28 = .ok (.iconst 1, 1) := by decide +kernel
theorem dX7_layFew_29 : decode cX7_layFew 29 = .ok (.istore_n 3, 1) := by decide +kernel
theorem dX7_layFew_30 : decode cX7_layFew 30 = .ok (.iload_n 3, 1) := by decide +kernel
theorem dX7_layFew_31 : decode cX7_layFew 31 = .ok (.ifCond .eq 34, 3) := by decide +kernel
theorem dX7_layFew_34 : decode cX7_layFew 34 = .ok (.aload_n 0, 1) := by decide +kernel
theorem dX7_layFew_35 : decode cX7_layFew 35 = .ok (.iload_n 1, 1) := by decide +kernel
theorem dX7_layFew_36 : decode cX7_layFew 36 = .ok (.iload_n 2, 1) := by decide +kernel
theorem dX7_layFew_37 : decode cX7_layFew 37 = .ok (.invokevirtual 243, 3) := by decide +kernel
theorem dX7_layFew_40 : decode cX7_layFew 40 = .ok (.ifCond .eq 16, 3) := by decide +kernel
theorem dX7_layFew_43 : decode cX7_layFew 43 = .ok (.aload_n 0, 1) := by decide +kernel
theorem dX7_layFew_44 : decode cX7_layFew 44 = .ok (.getfield 37, 3) := by decide +kernel
theorem dX7_layFew_47 : decode cX7_layFew 47 = .ok (.aload_n 0, 1) := by decide +kernel
theorem dX7_layFew_48 : decode cX7_layFew 48 = .ok (.getfield 40, 3) := by decide +kernel
theorem dX7_layFew_51 : decode cX7_layFew 51 = .ok (.invokestatic 205, 3) := by decide +kernel
theorem dX7_layFew_54 : decode cX7_layFew 54 = .ok (.iload_n 2, 1) := by decide +kernel
theorem dX7_layFew_55 : decode cX7_layFew 55 = .ok (.ireturn, 1) := by decide +kernel
theorem dX7_layFew_56 : decode cX7_layFew 56 = .ok (.aload_n 0, 1) := by decide +kernel
theorem dX7_layFew_57 : decode cX7_layFew 57 = .ok (.iload_n 2, 1) := by decide +kernel
theorem dX7_layFew_58 : decode cX7_layFew 58 = .ok (.invokevirtual 247, 3) := by decide +kernel
theorem dX7_layFew_61 : decode cX7_layFew 61 = .ok (.istore_n 3, 1) := by decide +kernel
theorem dX7_layFew_62 : decode cX7_layFew 62 = .ok (.goto (-32), 3) := by decide +kernel
theorem dX7_layFew_65 : decode cX7_layFew 65 = .ok (.iinc 2 1, 3) := by decide +kernel
theorem dX7_layFew_68 : decode cX7_layFew 68 = .ok (.goto (-66), 3) := by decide +kernel
theorem dX7_layFew_71 : decode cX7_layFew 71 = .ok (.iconst (-1), 1) := by decide +kernel
theorem dX7_layFew_72 : decode cX7_layFew 72 = .ok (.ireturn, 1) := by decide +kernel
theorem dX7_fewOf_0 : decode cX7_fewOf 0 = .ok (.aload_n 0, 1) := by decide +kernel
theorem dX7_fewOf_1 : decode cX7_fewOf 1 = .ok (.iload_n 1, 1) := by decide +kernel
theorem dX7_fewOf_2 : decode cX7_fewOf 2 = .ok (.invokevirtual 250, 3) := by decide +kernel
theorem dX7_fewOf_5 : decode cX7_fewOf 5 = .ok (.istore_n 3, 1) := by decide +kernel
theorem dX7_fewOf_6 : decode cX7_fewOf 6 = .ok (.iload_n 2, 1) := by decide +kernel
theorem dX7_fewOf_7 : decode cX7_fewOf 7 = .ok (.ifCond .ne 7, 3) := by decide +kernel
theorem dX7_fewOf_10 : decode cX7_fewOf 10 = .ok (.iload_n 3, 1) := by decide +kernel
theorem dX7_fewOf_11 : decode cX7_fewOf 11 = .ok (.goto 24, 3) := by decide +kernel
theorem dX7_fewOf_14 : decode cX7_fewOf 14 = .ok (.iload_n 2, 1) := by decide +kernel
theorem dX7_fewOf_15 : decode cX7_fewOf 15 = .ok (.bipush 10, 2) := by decide +kernel
theorem dX7_fewOf_17 : decode cX7_fewOf 17 = .ok (.isub, 1) := by decide +kernel
theorem dX7_fewOf_18 : decode cX7_fewOf 18 = .ok (.iload_n 3, 1) := by decide +kernel
theorem dX7_fewOf_19 : decode cX7_fewOf 19 = .ok (.if_icmp .ge 15, 3) := by decide +kernel
theorem dX7_fewOf_22 : decode cX7_fewOf 22 = .ok (.aload_n 0, 1) := by decide +kernel
theorem dX7_fewOf_23 : decode cX7_fewOf 23 = .ok (.getfield 40, 3) := by decide +kernel
theorem dX7_fewOf_26 : decode cX7_fewOf 26 = .ok (.iload_n 2, 1) := by decide +kernel
theorem dX7_fewOf_27 : decode cX7_fewOf 27 = .ok (.bipush 10, 2) := by decide +kernel
theorem dX7_fewOf_29 : decode cX7_fewOf 29 = .ok (.isub, 1) := by decide +kernel
theorem dX7_fewOf_30 : decode cX7_fewOf 30 = .ok (.iaload, 1) := by decide +kernel
theorem dX7_fewOf_31 : decode cX7_fewOf 31 = .ok (.goto 4, 3) := by decide +kernel
theorem dX7_fewOf_34 : decode cX7_fewOf 34 = .ok (.iconst (-1), 1) := by decide +kernel
theorem dX7_fewOf_35 : decode cX7_fewOf 35 = .ok (.ireturn, 1) := by decide +kernel
theorem dX7_few_0 : decode cX7_few 0 = .ok (.iload_n 1, 1) := by decide +kernel
theorem dX7_few_1 : decode cX7_few 1 = .ok (.i2l, 1) := by decide +kernel
theorem dX7_few_2 : decode cX7_few 2 = .ok (.lconst 1, 1) := by decide +kernel
theorem dX7_few_3 : decode cX7_few 3 = .ok (.iconst 1, 1) := by decide +kernel
theorem dX7_few_4 : decode cX7_few 4 = .ok (.aload_n 0, 1) := by decide +kernel
theorem dX7_few_5 : decode cX7_few 5 = .ok (.getfield 112, 3) := by decide +kernel
theorem dX7_few_8 : decode cX7_few 8 = .ok (.ishl, 1) := by decide +kernel
theorem dX7_few_9 : decode cX7_few 9 = .ok (.iconst 1, 1) := by decide +kernel
theorem dX7_few_10 : decode cX7_few 10 = .ok (.isub, 1) := by decide +kernel
theorem dX7_few_11 : decode cX7_few 11 = .ok (.i2l, 1) := by decide +kernel
theorem dX7_few_12 : decode cX7_few 12 = .ok (.invokestatic 76, 3) := by decide +kernel
theorem dX7_few_15 : decode cX7_few 15 = .ok (.ifCond .eq 21, 3) := by decide +kernel
theorem dX7_few_18 : decode cX7_few 18 = .ok (.iload_n 2, 1) := by decide +kernel
theorem dX7_few_19 : decode cX7_few 19 = .ok (.ifCond .eq 20, 3) := by decide +kernel
theorem dX7_few_22 : decode cX7_few 22 = .ok (.iload_n 2, 1) := by decide +kernel
theorem dX7_few_23 : decode cX7_few 23 = .ok (.i2l, 1) := by decide +kernel
theorem dX7_few_24 : decode cX7_few 24 = .ok (.ldc2_w 172, 3) := by decide +kernel
theorem dX7_few_27 : decode cX7_few 27 = .ok (.ldc2_w 174, 3) := by decide +kernel
theorem dX7_few_30 : decode cX7_few 30 = .ok (.invokestatic 76, 3) := by decide +kernel
theorem dX7_few_33 : decode cX7_few 33 = .ok (.ifCond .ne 6, 3) := by decide +kernel
theorem dX7_few_36 : decode cX7_few 36 = .ok (.bipush (-102), 2) := by decide +kernel
theorem dX7_few_38 : decode cX7_few 38 = .ok (.ireturn, 1) := by decide +kernel
theorem dX7_few_39 : decode cX7_few 39 = .ok (.aload_n 0, 1) := by decide +kernel
theorem dX7_few_40 : decode cX7_few 40 = .ok (.getfield 253, 3) := by decide +kernel
theorem dX7_few_43 : decode cX7_few 43 = .ok (.bipush 30, 2) := by decide +kernel
theorem dX7_few_45 : decode cX7_few 45 = .ok (.if_icmp .ne 6, 3) := by decide +kernel
theorem dX7_few_48 : decode cX7_few 48 = .ok (.bipush (-103), 2) := by decide +kernel
theorem dX7_few_50 : decode cX7_few 50 = .ok (.ireturn, 1) := by decide +kernel
theorem dX7_few_51 : decode cX7_few 51 = .ok (.aload_n 0, 1) := by decide +kernel
theorem dX7_few_52 : decode cX7_few 52 = .ok (.dup, 1) := by decide +kernel
theorem dX7_few_53 : decode cX7_few 53 = .ok (.getfield 253, 3) := by decide +kernel
theorem dX7_few_56 : decode cX7_few 56 = .ok (.iconst 1, 1) := by decide +kernel
theorem dX7_few_57 : decode cX7_few 57 = .ok (.iadd, 1) := by decide +kernel
theorem dX7_few_58 : decode cX7_few 58 = .ok (.putfield 253, 3) := by decide +kernel
theorem dX7_few_61 : decode cX7_few 61 = .ok (.aload_n 0, 1) := by decide +kernel
theorem dX7_few_62 : decode cX7_few 62 = .ok (.iload_n 1, 1) := by decide +kernel
theorem dX7_few_63 : decode cX7_few 63 = .ok (.iload_n 2, 1) := by decide +kernel
theorem dX7_few_64 : decode cX7_few 64 = .ok (.invokevirtual 256, 3) := by decide +kernel
theorem dX7_few_67 : decode cX7_few 67 = .ok (.ireturn, 1) := by decide +kernel
theorem dX7_settingBy_0 : decode cX7_settingBy 0 = .ok (.iconst 3, 1) := by decide +kernel
theorem dX7_settingBy_1 : decode cX7_settingBy 1 = .ok (.aload_n 0, 1) := by decide +kernel
theorem dX7_settingBy_2 : decode cX7_settingBy 2 = .ok (.getfield 109, 3) := by decide +kernel
theorem dX7_settingBy_5 : decode cX7_settingBy 5 = .ok (.imul, 1) := by decide +kernel
theorem dX7_settingBy_6 : decode cX7_settingBy 6 = .ok (.iconst 1, 1) := by decide +kernel
theorem dX7_settingBy_7 : decode cX7_settingBy 7 = .ok (.iadd, 1) := by decide +kernel
theorem dX7_settingBy_8 : decode cX7_settingBy 8 = .ok (.istore_n 3, 1) := by decide +kernel
theorem dX7_settingBy_9 : decode cX7_settingBy 9 = .ok (.iconst 1, 1) := by decide +kernel
theorem dX7_settingBy_10 : decode cX7_settingBy 10 = .ok (.istore 4, 2) := by decide +kernel
theorem dX7_settingBy_12 : decode cX7_settingBy 12 = .ok (.iconst 1, 1) := by decide +kernel
theorem dX7_settingBy_13 : decode cX7_settingBy 13 = .ok (.istore 5, 2) := by decide +kernel
theorem dX7_settingBy_15 : decode cX7_settingBy 15 = .ok (.iload 5, 2) := by decide +kernel
theorem dX7_settingBy_17 : decode cX7_settingBy 17 = .ok (.iload_n 2, 1) := by decide +kernel
theorem dX7_settingBy_18 : decode cX7_settingBy 18 = .ok (.if_icmp .ge 15, 3) := by decide +kernel
theorem dX7_settingBy_21 : decode cX7_settingBy 21 = .ok (.iload 4, 2) := by decide +kernel
theorem dX7_settingBy_23 : decode cX7_settingBy 23 = .ok (.iload_n 3, 1) := by decide +kernel
theorem dX7_settingBy_24 : decode cX7_settingBy 24 = .ok (.imul, 1) := by decide +kernel
theorem dX7_settingBy_25 : decode cX7_settingBy 25 = .ok (.istore 4, 2) := by decide +kernel
theorem dX7_settingBy_27 : decode cX7_settingBy 27 = .ok (.iinc 5 1, 3) := by decide +kernel
theorem dX7_settingBy_30 : decode cX7_settingBy 30 = .ok (.goto (-15), 3) := by decide +kernel
theorem dX7_settingBy_33 : decode cX7_settingBy 33 = .ok (.aload_n 0, 1) := by decide +kernel
theorem dX7_settingBy_34 : decode cX7_settingBy 34 = .ok (.getfield 19, 3) := by decide +kernel
theorem dX7_settingBy_37 : decode cX7_settingBy 37 = .ok (.aload_n 0, 1) := by decide +kernel
theorem dX7_settingBy_38 : decode cX7_settingBy 38 = .ok (.getfield 34, 3) := by decide +kernel
theorem dX7_settingBy_41 : decode cX7_settingBy 41 = .ok (.invokestatic 205, 3) := by decide +kernel
theorem dX7_settingBy_44 : decode cX7_settingBy 44 = .ok (.iconst 0, 1) := by decide +kernel
theorem dX7_settingBy_45 : decode cX7_settingBy 45 = .ok (.istore 5, 2) := by decide +kernel
theorem dX7_settingBy_47 : decode cX7_settingBy 47 = .ok (.iload_n 1, 1) := by decide +kernel
theorem dX7_settingBy_48 : decode cX7_settingBy 48 = .ok (.istore 6, 2) := by decide +kernel
theorem dX7_settingBy_50 : decode cX7_settingBy 50 = .ok (.iconst 0, 1) := by decide +kernel
theorem dX7_settingBy_51 : decode cX7_settingBy 51 = .ok (.istore 7, 2) := by decide +kernel
theorem dX7_settingBy_53 : decode cX7_settingBy 53 = .ok (.iload 7, 2) := by decide +kernel
theorem dX7_settingBy_55 : decode cX7_settingBy 55 = .ok (.iload_n 2, 1) := by decide +kernel
theorem dX7_settingBy_56 : decode cX7_settingBy 56 = .ok (.if_icmp .ge 71, 3) := by decide +kernel
theorem dX7_settingBy_59 : decode cX7_settingBy 59 = .ok (.aload_n 0, 1) := by decide +kernel
theorem dX7_settingBy_60 : decode cX7_settingBy 60 = .ok (.aload_n 0, 1) := by decide +kernel
theorem dX7_settingBy_61 : decode cX7_settingBy 61 = .ok (.getfield 34, 3) := by decide +kernel
theorem dX7_settingBy_64 : decode cX7_settingBy 64 = .ok (.iload 6, 2) := by decide +kernel
theorem dX7_settingBy_66 : decode cX7_settingBy 66 = .ok (.iload 4, 2) := by decide +kernel
theorem dX7_settingBy_68 : decode cX7_settingBy 68 = .ok (.idiv, 1) := by decide +kernel
theorem dX7_settingBy_69 : decode cX7_settingBy 69 = .ok (.iconst 1, 1) := by decide +kernel
theorem dX7_settingBy_70 : decode cX7_settingBy 70 = .ok (.isub, 1) := by decide +kernel
theorem dX7_settingBy_71 : decode cX7_settingBy 71 = .ok (.invokevirtual 209, 3) := by decide +kernel
theorem dX7_settingBy_74 : decode cX7_settingBy 74 = .ok (.iload 6, 2) := by decide +kernel
theorem dX7_settingBy_76 : decode cX7_settingBy 76 = .ok (.iload 4, 2) := by decide +kernel
theorem dX7_settingBy_78 : decode cX7_settingBy 78 = .ok (.irem, 1) := by decide +kernel
theorem dX7_settingBy_79 : decode cX7_settingBy 79 = .ok (.istore 6, 2) := by decide +kernel
theorem dX7_settingBy_81 : decode cX7_settingBy 81 = .ok (.iload 4, 2) := by decide +kernel
theorem dX7_settingBy_83 : decode cX7_settingBy 83 = .ok (.iload_n 3, 1) := by decide +kernel
theorem dX7_settingBy_84 : decode cX7_settingBy 84 = .ok (.idiv, 1) := by decide +kernel
theorem dX7_settingBy_85 : decode cX7_settingBy 85 = .ok (.istore 4, 2) := by decide +kernel
theorem dX7_settingBy_87 : decode cX7_settingBy 87 = .ok (.iload 5, 2) := by decide +kernel
theorem dX7_settingBy_89 : decode cX7_settingBy 89 = .ok (.aload_n 0, 1) := by decide +kernel
theorem dX7_settingBy_90 : decode cX7_settingBy 90 = .ok (.aload_n 0, 1) := by decide +kernel
theorem dX7_settingBy_91 : decode cX7_settingBy 91 = .ok (.getfield 34, 3) := by decide +kernel
theorem dX7_settingBy_94 : decode cX7_settingBy 94 = .ok (.iload 7, 2) := by decide +kernel
theorem dX7_settingBy_96 : decode cX7_settingBy 96 = .ok (.ifCond .ne 7, 3) := by decide +kernel
theorem dX7_settingBy_99 : decode cX7_settingBy 99 = .ok (.iconst 1, 1) := by decide +kernel
theorem dX7_settingBy_100 : decode cX7_settingBy 100 = .ok (.goto 4, 3) := by decide +kernel
theorem dX7_settingBy_103 : decode cX7_settingBy 103 = .ok (.iconst 0, 1) := by decide +kernel
theorem dX7_settingBy_104 : decode cX7_settingBy 104 = .ok (.invokevirtual 162, 3) := by decide +kernel
theorem dX7_settingBy_107 : decode cX7_settingBy 107 = .ok (.invokestatic 169, 3) := by decide +kernel
theorem dX7_settingBy_110 : decode cX7_settingBy 110 = .ok (.iadd, 1) := by decide +kernel
theorem dX7_settingBy_111 : decode cX7_settingBy 111 = .ok (.istore 5, 2) := by decide +kernel
theorem dX7_settingBy_113 : decode cX7_settingBy 113 = .ok (.aload_n 0, 1) := by decide +kernel
theorem dX7_settingBy_114 : decode cX7_settingBy 114 = .ok (.aload_n 0, 1) := by decide +kernel
theorem dX7_settingBy_115 : decode cX7_settingBy 115 = .ok (.getfield 34, 3) := by decide +kernel
theorem dX7_settingBy_118 : decode cX7_settingBy 118 = .ok (.invokevirtual 236, 3) := by decide +kernel
theorem dX7_settingBy_121 : decode cX7_settingBy 121 = .ok (.iinc 7 1, 3) := by decide +kernel
theorem dX7_settingBy_124 : decode cX7_settingBy 124 = .ok (.goto (-71), 3) := by decide +kernel
theorem dX7_settingBy_127 : decode cX7_settingBy 127 = .ok (.iload 5, 2) := by decide +kernel
theorem dX7_settingBy_129 : decode cX7_settingBy 129 = .ok (.ireturn, 1) := by decide +kernel
theorem dX7_weekOf_0 : decode cX7_weekOf 0 = .ok (.iconst 3, 1) := by decide +kernel
theorem dX7_weekOf_1 : decode cX7_weekOf 1 = .ok (.aload_n 0, 1) := by decide +kernel
theorem dX7_weekOf_2 : decode cX7_weekOf 2 = .ok (.getfield 109, 3) := by decide +kernel
theorem dX7_weekOf_5 : decode cX7_weekOf 5 = .ok (.imul, 1) := by decide +kernel
theorem dX7_weekOf_6 : decode cX7_weekOf 6 = .ok (.iconst 1, 1) := by decide +kernel
theorem dX7_weekOf_7 : decode cX7_weekOf 7 = .ok (.iadd, 1) := by decide +kernel
theorem dX7_weekOf_8 : decode cX7_weekOf 8 = .ok (.istore_n 3, 1) := by decide +kernel
theorem dX7_weekOf_9 : decode cX7_weekOf 9 = .ok (.iconst 1, 1) := by decide +kernel
theorem dX7_weekOf_10 : decode cX7_weekOf 10 = .ok (.istore 4, 2) := by decide +kernel
theorem dX7_weekOf_12 : decode cX7_weekOf 12 = .ok (.iconst 0, 1) := by decide +kernel
theorem dX7_weekOf_13 : decode cX7_weekOf 13 = .ok (.istore 5, 2) := by decide +kernel
theorem dX7_weekOf_15 : decode cX7_weekOf 15 = .ok (.iload 5, 2) := by decide +kernel
theorem dX7_weekOf_17 : decode cX7_weekOf 17 = .ok (.iload_n 1, 1) := by decide +kernel
theorem dX7_weekOf_18 : decode cX7_weekOf 18 = .ok (.if_icmp .ge 15, 3) := by decide +kernel
theorem dX7_weekOf_21 : decode cX7_weekOf 21 = .ok (.iload 4, 2) := by decide +kernel
theorem dX7_weekOf_23 : decode cX7_weekOf 23 = .ok (.iload_n 3, 1) := by decide +kernel
theorem dX7_weekOf_24 : decode cX7_weekOf 24 = .ok (.imul, 1) := by decide +kernel
theorem dX7_weekOf_25 : decode cX7_weekOf 25 = .ok (.istore 4, 2) := by decide +kernel
theorem dX7_weekOf_27 : decode cX7_weekOf 27 = .ok (.iinc 5 1, 3) := by decide +kernel
theorem dX7_weekOf_30 : decode cX7_weekOf 30 = .ok (.goto (-15), 3) := by decide +kernel
theorem dX7_weekOf_33 : decode cX7_weekOf 33 = .ok (.iconst (-1), 1) := by decide +kernel
theorem dX7_weekOf_34 : decode cX7_weekOf 34 = .ok (.istore 5, 2) := by decide +kernel
theorem dX7_weekOf_36 : decode cX7_weekOf 36 = .ok (.iconst 0, 1) := by decide +kernel
theorem dX7_weekOf_37 : decode cX7_weekOf 37 = .ok (.istore 6, 2) := by decide +kernel
theorem dX7_weekOf_39 : decode cX7_weekOf 39 = .ok (.iconst 0, 1) := by decide +kernel
theorem dX7_weekOf_40 : decode cX7_weekOf 40 = .ok (.istore 7, 2) := by decide +kernel
theorem dX7_weekOf_42 : decode cX7_weekOf 42 = .ok (.iload 7, 2) := by decide +kernel
theorem dX7_weekOf_44 : decode cX7_weekOf 44 = .ok (.iload 4, 2) := by decide +kernel
theorem dX7_weekOf_46 : decode cX7_weekOf 46 = .ok (.if_icmp .ge 50, 3) := by decide +kernel
theorem dX7_weekOf_49 : decode cX7_weekOf 49 = .ok (.aload_n 0, 1) := by decide +kernel
theorem dX7_weekOf_50 : decode cX7_weekOf 50 = .ok (.iload 7, 2) := by decide +kernel
theorem dX7_weekOf_52 : decode cX7_weekOf 52 = .ok (.iload_n 1, 1) := by decide +kernel
theorem dX7_weekOf_53 : decode cX7_weekOf 53 = .ok (.invokevirtual 259, 3) := by decide +kernel
theorem dX7_weekOf_56 : decode cX7_weekOf 56 = .ok (.istore 8, 2) := by decide +kernel
theorem dX7_weekOf_58 : decode cX7_weekOf 58 = .ok (.iload 8, 2) := by decide +kernel
theorem dX7_weekOf_60 : decode cX7_weekOf 60 = .ok (.iload 5, 2) := by decide +kernel
theorem dX7_weekOf_62 : decode cX7_weekOf 62 = .ok (.if_icmp .le 8, 3) := by decide +kernel
theorem dX7_weekOf_65 : decode cX7_weekOf 65 = .ok (.iload 7, 2) := by decide +kernel
theorem dX7_weekOf_67 : decode cX7_weekOf 67 = .ok (.goto 5, 3) := by decide +kernel
theorem dX7_weekOf_70 : decode cX7_weekOf 70 = .ok (.iload 6, 2) := by decide +kernel
theorem dX7_weekOf_72 : decode cX7_weekOf 72 = .ok (.istore 6, 2) := by decide +kernel
theorem dX7_weekOf_74 : decode cX7_weekOf 74 = .ok (.iload 8, 2) := by decide +kernel
theorem dX7_weekOf_76 : decode cX7_weekOf 76 = .ok (.iload 5, 2) := by decide +kernel
theorem dX7_weekOf_78 : decode cX7_weekOf 78 = .ok (.if_icmp .le 8, 3) := by decide +kernel
theorem dX7_weekOf_81 : decode cX7_weekOf 81 = .ok (.iload 8, 2) := by decide +kernel
theorem dX7_weekOf_83 : decode cX7_weekOf 83 = .ok (.goto 5, 3) := by decide +kernel
theorem dX7_weekOf_86 : decode cX7_weekOf 86 = .ok (.iload 5, 2) := by decide +kernel
theorem dX7_weekOf_88 : decode cX7_weekOf 88 = .ok (.istore 5, 2) := by decide +kernel
theorem dX7_weekOf_90 : decode cX7_weekOf 90 = .ok (.iinc 7 1, 3) := by decide +kernel
theorem dX7_weekOf_93 : decode cX7_weekOf 93 = .ok (.goto (-51), 3) := by decide +kernel
theorem dX7_weekOf_96 : decode cX7_weekOf 96 = .ok (.iload_n 2, 1) := by decide +kernel
theorem dX7_weekOf_97 : decode cX7_weekOf 97 = .ok (.ifCond .ne 6, 3) := by decide +kernel
theorem dX7_weekOf_100 : decode cX7_weekOf 100 = .ok (.iload 5, 2) := by decide +kernel
theorem dX7_weekOf_102 : decode cX7_weekOf 102 = .ok (.ireturn, 1) := by decide +kernel
theorem dX7_weekOf_103 : decode cX7_weekOf 103 = .ok (.iload_n 1, 1) := by decide +kernel
theorem dX7_weekOf_104 : decode cX7_weekOf 104 = .ok (.iconst 1, 1) := by decide +kernel
theorem dX7_weekOf_105 : decode cX7_weekOf 105 = .ok (.isub, 1) := by decide +kernel
theorem dX7_weekOf_106 : decode cX7_weekOf 106 = .ok (.istore 7, 2) := by decide +kernel
theorem dX7_weekOf_108 : decode cX7_weekOf 108 = .ok (.iload 7, 2) := by decide +kernel
theorem dX7_weekOf_110 : decode cX7_weekOf 110 = .ok (.iload_n 2, 1) := by decide +kernel
theorem dX7_weekOf_111 : decode cX7_weekOf 111 = .ok (.bipush 10, 2) := by decide +kernel
theorem dX7_weekOf_113 : decode cX7_weekOf 113 = .ok (.isub, 1) := by decide +kernel
theorem dX7_weekOf_114 : decode cX7_weekOf 114 = .ok (.if_icmp .le 15, 3) := by decide +kernel
theorem dX7_weekOf_117 : decode cX7_weekOf 117 = .ok (.iload 6, 2) := by decide +kernel
theorem dX7_weekOf_119 : decode cX7_weekOf 119 = .ok (.iload_n 3, 1) := by decide +kernel
theorem dX7_weekOf_120 : decode cX7_weekOf 120 = .ok (.idiv, 1) := by decide +kernel
theorem dX7_weekOf_121 : decode cX7_weekOf 121 = .ok (.istore 6, 2) := by decide +kernel
theorem dX7_weekOf_123 : decode cX7_weekOf 123 = .ok (.iinc 7 (-1), 3) := by decide +kernel
theorem dX7_weekOf_126 : decode cX7_weekOf 126 = .ok (.goto (-18), 3) := by decide +kernel
theorem dX7_weekOf_129 : decode cX7_weekOf 129 = .ok (.iload_n 2, 1) := by decide +kernel
theorem dX7_weekOf_130 : decode cX7_weekOf 130 = .ok (.bipush 10, 2) := by decide +kernel
theorem dX7_weekOf_132 : decode cX7_weekOf 132 = .ok (.isub, 1) := by decide +kernel
theorem dX7_weekOf_133 : decode cX7_weekOf 133 = .ok (.iload_n 1, 1) := by decide +kernel
theorem dX7_weekOf_134 : decode cX7_weekOf 134 = .ok (.if_icmp .ge 12, 3) := by decide +kernel
theorem dX7_weekOf_137 : decode cX7_weekOf 137 = .ok (.iload 6, 2) := by decide +kernel
theorem dX7_weekOf_139 : decode cX7_weekOf 139 = .ok (.iload_n 3, 1) := by decide +kernel
theorem dX7_weekOf_140 : decode cX7_weekOf 140 = .ok (.irem, 1) := by decide +kernel
theorem dX7_weekOf_141 : decode cX7_weekOf 141 = .ok (.iconst 1, 1) := by decide +kernel
theorem dX7_weekOf_142 : decode cX7_weekOf 142 = .ok (.isub, 1) := by decide +kernel
theorem dX7_weekOf_143 : decode cX7_weekOf 143 = .ok (.goto 4, 3) := by decide +kernel
theorem dX7_weekOf_146 : decode cX7_weekOf 146 = .ok (.iconst (-1), 1) := by decide +kernel
theorem dX7_weekOf_147 : decode cX7_weekOf 147 = .ok (.ireturn, 1) := by decide +kernel
theorem dX7_week_0 : decode cX7_week 0 = .ok (.iload_n 1, 1) := by decide +kernel
theorem dX7_week_1 : decode cX7_week 1 = .ok (.i2l, 1) := by decide +kernel
theorem dX7_week_2 : decode cX7_week 2 = .ok (.lconst 1, 1) := by decide +kernel
theorem dX7_week_3 : decode cX7_week 3 = .ok (.ldc2_w 139, 3) := by decide +kernel
theorem dX7_week_6 : decode cX7_week 6 = .ok (.invokestatic 76, 3) := by decide +kernel
theorem dX7_week_9 : decode cX7_week 9 = .ok (.ifCond .eq 21, 3) := by decide +kernel
theorem dX7_week_12 : decode cX7_week 12 = .ok (.iload_n 2, 1) := by decide +kernel
theorem dX7_week_13 : decode cX7_week 13 = .ok (.ifCond .eq 20, 3) := by decide +kernel
theorem dX7_week_16 : decode cX7_week 16 = .ok (.iload_n 2, 1) := by decide +kernel
theorem dX7_week_17 : decode cX7_week 17 = .ok (.i2l, 1) := by decide +kernel
theorem dX7_week_18 : decode cX7_week 18 = .ok (.ldc2_w 172, 3) := by decide +kernel
theorem dX7_week_21 : decode cX7_week 21 = .ok (.ldc2_w 174, 3) := by decide +kernel
theorem dX7_week_24 : decode cX7_week 24 = .ok (.invokestatic 76, 3) := by decide +kernel
theorem dX7_week_27 : decode cX7_week 27 = .ok (.ifCond .ne 6, 3) := by decide +kernel
theorem dX7_week_30 : decode cX7_week 30 = .ok (.bipush (-102), 2) := by decide +kernel
theorem dX7_week_32 : decode cX7_week 32 = .ok (.ireturn, 1) := by decide +kernel
theorem dX7_week_33 : decode cX7_week 33 = .ok (.aload_n 0, 1) := by decide +kernel
theorem dX7_week_34 : decode cX7_week 34 = .ok (.invokevirtual 133, 3) := by decide +kernel
theorem dX7_week_37 : decode cX7_week 37 = .ok (.ifCond .ne 12, 3) := by decide +kernel
theorem dX7_week_40 : decode cX7_week 40 = .ok (.aload_n 0, 1) := by decide +kernel
theorem dX7_week_41 : decode cX7_week 41 = .ok (.getfield 262, 3) := by decide +kernel
theorem dX7_week_44 : decode cX7_week 44 = .ok (.bipush 20, 2) := by decide +kernel
theorem dX7_week_46 : decode cX7_week 46 = .ok (.if_icmp .ne 6, 3) := by decide +kernel
theorem dX7_week_49 : decode cX7_week 49 = .ok (.bipush (-103), 2) := by decide +kernel
theorem dX7_week_51 : decode cX7_week 51 = .ok (.ireturn, 1) := by decide +kernel
theorem dX7_week_52 : decode cX7_week 52 = .ok (.aload_n 0, 1) := by decide +kernel
theorem dX7_week_53 : decode cX7_week 53 = .ok (.dup, 1) := by decide +kernel
theorem dX7_week_54 : decode cX7_week 54 = .ok (.getfield 262, 3) := by decide +kernel
theorem dX7_week_57 : decode cX7_week 57 = .ok (.iconst 1, 1) := by decide +kernel
theorem dX7_week_58 : decode cX7_week 58 = .ok (.iadd, 1) := by decide +kernel
theorem dX7_week_59 : decode cX7_week 59 = .ok (.putfield 262, 3) := by decide +kernel
theorem dX7_week_62 : decode cX7_week 62 = .ok (.aload_n 0, 1) := by decide +kernel
theorem dX7_week_63 : decode cX7_week 63 = .ok (.iload_n 1, 1) := by decide +kernel
theorem dX7_week_64 : decode cX7_week 64 = .ok (.iload_n 2, 1) := by decide +kernel
theorem dX7_week_65 : decode cX7_week 65 = .ok (.invokevirtual 265, 3) := by decide +kernel
theorem dX7_week_68 : decode cX7_week 68 = .ok (.ireturn, 1) := by decide +kernel
theorem dX7_whoOf_0 : decode cX7_whoOf 0 = .ok (.iconst 0, 1) := by decide +kernel
theorem dX7_whoOf_1 : decode cX7_whoOf 1 = .ok (.istore_n 2, 1) := by decide +kernel
theorem dX7_whoOf_2 : decode cX7_whoOf 2 = .ok (.iconst 0, 1) := by decide +kernel
theorem dX7_whoOf_3 : decode cX7_whoOf 3 = .ok (.istore_n 3, 1) := by decide +kernel
theorem dX7_whoOf_4 : decode cX7_whoOf 4 = .ok (.iload_n 3, 1) := by decide +kernel
theorem dX7_whoOf_5 : decode cX7_whoOf 5 = .ok (.iconst 3, 1) := by decide +kernel
theorem dX7_whoOf_6 : decode cX7_whoOf 6 = .ok (.aload_n 0, 1) := by decide +kernel
theorem dX7_whoOf_7 : decode cX7_whoOf 7 = .ok (.getfield 109, 3) := by decide +kernel
theorem dX7_whoOf_10 : decode cX7_whoOf 10 = .ok (.imul, 1) := by decide +kernel
theorem dX7_whoOf_11 : decode cX7_whoOf 11 = .ok (.if_icmp .ge 52, 3) := by decide +kernel
theorem dX7_whoOf_14 : decode cX7_whoOf 14 = .ok (.aload_n 0, 1) := by decide +kernel
theorem dX7_whoOf_15 : decode cX7_whoOf 15 = .ok (.getfield 19, 3) := by decide +kernel
theorem dX7_whoOf_18 : decode cX7_whoOf 18 = .ok (.aload_n 0, 1) := by decide +kernel
theorem dX7_whoOf_19 : decode cX7_whoOf 19 = .ok (.getfield 34, 3) := by decide +kernel
theorem dX7_whoOf_22 : decode cX7_whoOf 22 = .ok (.invokestatic 205, 3) := by decide +kernel
theorem dX7_whoOf_25 : decode cX7_whoOf 25 = .ok (.aload_n 0, 1) := by decide +kernel
theorem dX7_whoOf_26 : decode cX7_whoOf 26 = .ok (.aload_n 0, 1) := by decide +kernel
theorem dX7_whoOf_27 : decode cX7_whoOf 27 = .ok (.getfield 34, 3) := by decide +kernel
theorem dX7_whoOf_30 : decode cX7_whoOf 30 = .ok (.iload_n 3, 1) := by decide +kernel
theorem dX7_whoOf_31 : decode cX7_whoOf 31 = .ok (.invokevirtual 209, 3) := by decide +kernel
theorem dX7_whoOf_34 : decode cX7_whoOf 34 = .ok (.iload_n 2, 1) := by decide +kernel
theorem dX7_whoOf_35 : decode cX7_whoOf 35 = .ok (.aload_n 0, 1) := by decide +kernel
theorem dX7_whoOf_36 : decode cX7_whoOf 36 = .ok (.aload_n 0, 1) := by decide +kernel
theorem dX7_whoOf_37 : decode cX7_whoOf 37 = .ok (.getfield 34, 3) := by decide +kernel
theorem dX7_whoOf_40 : decode cX7_whoOf 40 = .ok (.iconst 1, 1) := by decide +kernel
theorem dX7_whoOf_41 : decode cX7_whoOf 41 = .ok (.invokevirtual 162, 3) := by decide +kernel
theorem dX7_whoOf_44 : decode cX7_whoOf 44 = .ok (.iload_n 1, 1) := by decide +kernel
theorem dX7_whoOf_45 : decode cX7_whoOf 45 = .ok (.if_icmp .ne 9, 3) := by decide +kernel
theorem dX7_whoOf_48 : decode cX7_whoOf 48 = .ok (.iconst 1, 1) := by decide +kernel
theorem dX7_whoOf_49 : decode cX7_whoOf 49 = .ok (.iload_n 3, 1) := by decide +kernel
theorem dX7_whoOf_50 : decode cX7_whoOf 50 = .ok (.ishl, 1) := by decide +kernel
theorem dX7_whoOf_51 : decode cX7_whoOf 51 = .ok (.goto 4, 3) := by decide +kernel
theorem dX7_whoOf_54 : decode cX7_whoOf 54 = .ok (.iconst 0, 1) := by decide +kernel
theorem dX7_whoOf_55 : decode cX7_whoOf 55 = .ok (.ior, 1) := by decide +kernel
theorem dX7_whoOf_56 : decode cX7_whoOf 56 = .ok (.istore_n 2, 1) := by decide +kernel
theorem dX7_whoOf_57 : decode cX7_whoOf 57 = .ok (.iinc 3 1, 3) := by decide +kernel
theorem dX7_whoOf_60 : decode cX7_whoOf 60 = .ok (.goto (-56), 3) := by decide +kernel
theorem dX7_whoOf_63 : decode cX7_whoOf 63 = .ok (.iload_n 2, 1) := by decide +kernel
theorem dX7_whoOf_64 : decode cX7_whoOf 64 = .ok (.ireturn, 1) := by decide +kernel
theorem dX7_who_0 : decode cX7_who 0 = .ok (.iload_n 1, 1) := by decide +kernel
theorem dX7_who_1 : decode cX7_who 1 = .ok (.i2l, 1) := by decide +kernel
theorem dX7_who_2 : decode cX7_who 2 = .ok (.lconst 0, 1) := by decide +kernel
theorem dX7_who_3 : decode cX7_who 3 = .ok (.iconst 1, 1) := by decide +kernel
theorem dX7_who_4 : decode cX7_who 4 = .ok (.aload_n 0, 1) := by decide +kernel
theorem dX7_who_5 : decode cX7_who 5 = .ok (.getfield 112, 3) := by decide +kernel
theorem dX7_who_8 : decode cX7_who 8 = .ok (.ishl, 1) := by decide +kernel
theorem dX7_who_9 : decode cX7_who 9 = .ok (.iconst 1, 1) := by decide +kernel
theorem dX7_who_10 : decode cX7_who 10 = .ok (.isub, 1) := by decide +kernel
theorem dX7_who_11 : decode cX7_who 11 = .ok (.i2l, 1) := by decide +kernel
theorem dX7_who_12 : decode cX7_who 12 = .ok (.invokestatic 76, 3) := by decide +kernel
theorem dX7_who_15 : decode cX7_who 15 = .ok (.ifCond .ne 6, 3) := by decide +kernel
theorem dX7_who_18 : decode cX7_who 18 = .ok (.bipush (-102), 2) := by decide +kernel
theorem dX7_who_20 : decode cX7_who 20 = .ok (.ireturn, 1) := by decide +kernel
theorem dX7_who_21 : decode cX7_who 21 = .ok (.aload_n 0, 1) := by decide +kernel
theorem dX7_who_22 : decode cX7_who 22 = .ok (.invokevirtual 133, 3) := by decide +kernel
theorem dX7_who_25 : decode cX7_who 25 = .ok (.ifCond .eq 8, 3) := by decide +kernel
theorem dX7_who_28 : decode cX7_who 28 = .ok (.bipush (-103), 2) := by decide +kernel
theorem dX7_who_30 : decode cX7_who 30 = .ok (.goto 8, 3) := by decide +kernel
theorem dX7_who_33 : decode cX7_who 33 = .ok (.aload_n 0, 1) := by decide +kernel
theorem dX7_who_34 : decode cX7_who 34 = .ok (.iload_n 1, 1) := by decide +kernel
theorem dX7_who_35 : decode cX7_who 35 = .ok (.invokevirtual 268, 3) := by decide +kernel
theorem dX7_who_38 : decode cX7_who 38 = .ok (.ireturn, 1) := by decide +kernel
theorem dX7_see_0 : decode cX7_see 0 = .ok (.aload_n 0, 1) := by decide +kernel
theorem dX7_see_1 : decode cX7_see 1 = .ok (.iload_n 1, 1) := by decide +kernel
theorem dX7_see_2 : decode cX7_see 2 = .ok (.invokevirtual 188, 3) := by decide +kernel
theorem dX7_see_5 : decode cX7_see 5 = .ok (.ifCond .ne 6, 3) := by decide +kernel
theorem dX7_see_8 : decode cX7_see 8 = .ok (.bipush (-101), 2) := by decide +kernel
theorem dX7_see_10 : decode cX7_see 10 = .ok (.ireturn, 1) := by decide +kernel
theorem dX7_see_11 : decode cX7_see 11 = .ok (.iload_n 2, 1) := by decide +kernel
theorem dX7_see_12 : decode cX7_see 12 = .ok (.i2l, 1) := by decide +kernel
theorem dX7_see_13 : decode cX7_see 13 = .ok (.lconst 0, 1) := by decide +kernel
theorem dX7_see_14 : decode cX7_see 14 = .ok (.ldc2_w 231, 3) := by decide +kernel
theorem dX7_see_17 : decode cX7_see 17 = .ok (.invokestatic 76, 3) := by decide +kernel
theorem dX7_see_20 : decode cX7_see 20 = .ok (.ifCond .eq 15, 3) := by decide +kernel
theorem dX7_see_23 : decode cX7_see 23 = .ok (.iload_n 3, 1) := by decide +kernel
theorem dX7_see_24 : decode cX7_see 24 = .ok (.i2l, 1) := by decide +kernel
theorem dX7_see_25 : decode cX7_see 25 = .ok (.lconst 0, 1) := by decide +kernel
theorem dX7_see_26 : decode cX7_see 26 = .ok (.ldc2_w 271, 3) := by decide +kernel
theorem dX7_see_29 : decode cX7_see 29 = .ok (.invokestatic 76, 3) := by decide +kernel
theorem dX7_see_32 : decode cX7_see 32 = .ok (.ifCond .ne 6, 3) := by decide +kernel
theorem dX7_see_35 : decode cX7_see 35 = .ok (.bipush (-102), 2) := by decide +kernel
theorem dX7_see_37 : decode cX7_see 37 = .ok (.ireturn, 1) := by decide +kernel
theorem dX7_see_38 : decode cX7_see 38 = .ok (.aload_n 0, 1) := by decide +kernel
theorem dX7_see_39 : decode cX7_see 39 = .ok (.getfield 127, 3) := by decide +kernel
theorem dX7_see_42 : decode cX7_see 42 = .ok (.bipush 6, 2) := by decide +kernel
theorem dX7_see_44 : decode cX7_see 44 = .ok (.if_icmp .ne 6, 3) := by decide +kernel
theorem dX7_see_47 : decode cX7_see 47 = .ok (.bipush (-104), 2) := by decide +kernel
theorem dX7_see_49 : decode cX7_see 49 = .ok (.ireturn, 1) := by decide +kernel
theorem dX7_see_50 : decode cX7_see 50 = .ok (.aload_n 0, 1) := by decide +kernel
theorem dX7_see_51 : decode cX7_see 51 = .ok (.getfield 43, 3) := by decide +kernel
theorem dX7_see_54 : decode cX7_see 54 = .ok (.iconst 3, 1) := by decide +kernel
theorem dX7_see_55 : decode cX7_see 55 = .ok (.aload_n 0, 1) := by decide +kernel
theorem dX7_see_56 : decode cX7_see 56 = .ok (.getfield 127, 3) := by decide +kernel
theorem dX7_see_59 : decode cX7_see 59 = .ok (.imul, 1) := by decide +kernel
theorem dX7_see_60 : decode cX7_see 60 = .ok (.iload_n 1, 1) := by decide +kernel
theorem dX7_see_61 : decode cX7_see 61 = .ok (.iastore, 1) := by decide +kernel
theorem dX7_see_62 : decode cX7_see 62 = .ok (.aload_n 0, 1) := by decide +kernel
theorem dX7_see_63 : decode cX7_see 63 = .ok (.getfield 43, 3) := by decide +kernel
theorem dX7_see_66 : decode cX7_see 66 = .ok (.iconst 3, 1) := by decide +kernel
theorem dX7_see_67 : decode cX7_see 67 = .ok (.aload_n 0, 1) := by decide +kernel
theorem dX7_see_68 : decode cX7_see 68 = .ok (.getfield 127, 3) := by decide +kernel
theorem dX7_see_71 : decode cX7_see 71 = .ok (.imul, 1) := by decide +kernel
theorem dX7_see_72 : decode cX7_see 72 = .ok (.iconst 1, 1) := by decide +kernel
theorem dX7_see_73 : decode cX7_see 73 = .ok (.iadd, 1) := by decide +kernel
theorem dX7_see_74 : decode cX7_see 74 = .ok (.iload_n 2, 1) := by decide +kernel
theorem dX7_see_75 : decode cX7_see 75 = .ok (.iastore, 1) := by decide +kernel
theorem dX7_see_76 : decode cX7_see 76 = .ok (.aload_n 0, 1) := by decide +kernel
theorem dX7_see_77 : decode cX7_see 77 = .ok (.getfield 43, 3) := by decide +kernel
theorem dX7_see_80 : decode cX7_see 80 = .ok (.iconst 3, 1) := by decide +kernel
theorem dX7_see_81 : decode cX7_see 81 = .ok (.aload_n 0, 1) := by decide +kernel
theorem dX7_see_82 : decode cX7_see 82 = .ok (.getfield 127, 3) := by decide +kernel
theorem dX7_see_85 : decode cX7_see 85 = .ok (.imul, 1) := by decide +kernel
theorem dX7_see_86 : decode cX7_see 86 = .ok (.iconst 2, 1) := by decide +kernel
theorem dX7_see_87 : decode cX7_see 87 = .ok (.iadd, 1) := by decide +kernel
theorem dX7_see_88 : decode cX7_see 88 = .ok (.iload_n 3, 1) := by decide +kernel
theorem dX7_see_89 : decode cX7_see 89 = .ok (.iastore, 1) := by decide +kernel
theorem dX7_see_90 : decode cX7_see 90 = .ok (.aload_n 0, 1) := by decide +kernel
theorem dX7_see_91 : decode cX7_see 91 = .ok (.dup, 1) := by decide +kernel
theorem dX7_see_92 : decode cX7_see 92 = .ok (.getfield 127, 3) := by decide +kernel
theorem dX7_see_95 : decode cX7_see 95 = .ok (.iconst 1, 1) := by decide +kernel
theorem dX7_see_96 : decode cX7_see 96 = .ok (.iadd, 1) := by decide +kernel
theorem dX7_see_97 : decode cX7_see 97 = .ok (.putfield 127, 3) := by decide +kernel
theorem dX7_see_100 : decode cX7_see 100 = .ok (.aload_n 0, 1) := by decide +kernel
theorem dX7_see_101 : decode cX7_see 101 = .ok (.getfield 127, 3) := by decide +kernel
theorem dX7_see_104 : decode cX7_see 104 = .ok (.ireturn, 1) := by decide +kernel
theorem dX7_forget_0 : decode cX7_forget 0 = .ok (.aload_n 0, 1) := by decide +kernel
theorem dX7_forget_1 : decode cX7_forget 1 = .ok (.getfield 127, 3) := by decide +kernel
theorem dX7_forget_4 : decode cX7_forget 4 = .ok (.istore_n 1, 1) := by decide +kernel
theorem dX7_forget_5 : decode cX7_forget 5 = .ok (.aload_n 0, 1) := by decide +kernel
theorem dX7_forget_6 : decode cX7_forget 6 = .ok (.iconst 0, 1) := by decide +kernel
theorem dX7_forget_7 : decode cX7_forget 7 = .ok (.putfield 127, 3) := by decide +kernel
theorem dX7_forget_10 : decode cX7_forget 10 = .ok (.iload_n 1, 1) := by decide +kernel
theorem dX7_forget_11 : decode cX7_forget 11 = .ok (.ireturn, 1) := by decide +kernel
theorem dX7_pridesOf_0 : decode cX7_pridesOf 0 = .ok (.iconst 0, 1) := by decide +kernel
theorem dX7_pridesOf_1 : decode cX7_pridesOf 1 = .ok (.istore_n 2, 1) := by decide +kernel
theorem dX7_pridesOf_2 : decode cX7_pridesOf 2 = .ok (.iconst 1, 1) := by decide +kernel
theorem dX7_pridesOf_3 : decode cX7_pridesOf 3 = .ok (.istore_n 3, 1) := by decide +kernel
theorem dX7_pridesOf_4 : decode cX7_pridesOf 4 = .ok (.iload_n 3, 1) := by decide +kernel
theorem dX7_pridesOf_5 : decode cX7_pridesOf 5 = .ok (.bipush 10, 2) := by decide +kernel
theorem dX7_pridesOf_7 : decode cX7_pridesOf 7 = .ok (.if_icmp .ge 105, 3) := by decide +kernel
theorem dX7_pridesOf_10 : decode cX7_pridesOf 10 = .ok (.iconst 1, 1) := by decide +kernel
theorem dX7_pridesOf_11 : decode cX7_pridesOf 11 = .ok (.istore 4, 2) := by decide +kernel
theorem dX7_pridesOf_13 : decode cX7_pridesOf 13 = .ok (.iconst 0, 1) := by decide +kernel
theorem dX7_pridesOf_14 : decode cX7_pridesOf 14 = .ok (.istore 5, 2) := by decide +kernel
theorem dX7_pridesOf_16 : decode cX7_pridesOf 16 = .ok (.iload 5, 2) := by decide +kernel
theorem dX7_pridesOf_18 : decode cX7_pridesOf 18 = .ok (.iconst 3, 1) := by decide +kernel
theorem dX7_pridesOf_19 : decode cX7_pridesOf 19 = .ok (.aload_n 0, 1) := by decide +kernel
theorem dX7_pridesOf_20 : decode cX7_pridesOf 20 = .ok (.getfield 127, 3) := by decide +kernel
theorem dX7_pridesOf_23 : decode cX7_pridesOf 23 = .ok (.imul, 1) := by decide +kernel
theorem dX7_pridesOf_24 : decode cX7_pridesOf 24 = .ok (.if_icmp .ge 65, 3) := by decide +kernel
theorem dX7_pridesOf_27 : decode cX7_pridesOf 27 = .ok (.iload 4, 2) := by decide +kernel
theorem dX7_pridesOf_29 : decode cX7_pridesOf 29 = .ok (.ifCond .eq 51, 3) := by decide +kernel
theorem dX7_pridesOf_32 : decode cX7_pridesOf 32 = .ok (.aload_n 0, 1) := by decide +kernel
theorem dX7_pridesOf_33 : decode cX7_pridesOf 33 = .ok (.getfield 43, 3) := by decide +kernel
theorem dX7_pridesOf_36 : decode cX7_pridesOf 36 = .ok (.iload 5, 2) := by decide +kernel
theorem dX7_pridesOf_38 : decode cX7_pridesOf 38 = .ok (.iaload, 1) := by decide +kernel
theorem dX7_pridesOf_39 : decode cX7_pridesOf 39 = .ok (.iload_n 1, 1) := by decide +kernel
theorem dX7_pridesOf_40 : decode cX7_pridesOf 40 = .ok (.if_icmp .ne 36, 3) := by decide +kernel
theorem dX7_pridesOf_43 : decode cX7_pridesOf 43 = .ok (.aload_n 0, 1) := by decide +kernel
theorem dX7_pridesOf_44 : decode cX7_pridesOf 44 = .ok (.getfield 13, 3) := by decide +kernel
theorem dX7_pridesOf_47 : decode cX7_pridesOf 47 = .ok (.iconst 3, 1) := by decide +kernel
theorem dX7_pridesOf_48 : decode cX7_pridesOf 48 = .ok (.iload_n 1, 1) := by decide +kernel
theorem dX7_pridesOf_49 : decode cX7_pridesOf 49 = .ok (.imul, 1) := by decide +kernel
theorem dX7_pridesOf_50 : decode cX7_pridesOf 50 = .ok (.iaload, 1) := by decide +kernel
theorem dX7_pridesOf_51 : decode cX7_pridesOf 51 = .ok (.iload_n 3, 1) := by decide +kernel
theorem dX7_pridesOf_52 : decode cX7_pridesOf 52 = .ok (.aload_n 0, 1) := by decide +kernel
theorem dX7_pridesOf_53 : decode cX7_pridesOf 53 = .ok (.getfield 43, 3) := by decide +kernel
theorem dX7_pridesOf_56 : decode cX7_pridesOf 56 = .ok (.iload 5, 2) := by decide +kernel
theorem dX7_pridesOf_58 : decode cX7_pridesOf 58 = .ok (.iconst 1, 1) := by decide +kernel
theorem dX7_pridesOf_59 : decode cX7_pridesOf 59 = .ok (.iadd, 1) := by decide +kernel
theorem dX7_pridesOf_60 : decode cX7_pridesOf 60 = .ok (.iaload, 1) := by decide +kernel
theorem dX7_pridesOf_61 : decode cX7_pridesOf 61 = .ok (.invokestatic 141, 3) := by decide +kernel
theorem dX7_pridesOf_64 : decode cX7_pridesOf 64 = .ok (.aload_n 0, 1) := by decide +kernel
theorem dX7_pridesOf_65 : decode cX7_pridesOf 65 = .ok (.getfield 43, 3) := by decide +kernel
theorem dX7_pridesOf_68 : decode cX7_pridesOf 68 = .ok (.iload 5, 2) := by decide +kernel
theorem dX7_pridesOf_70 : decode cX7_pridesOf 70 = .ok (.iconst 2, 1) := by decide +kernel
theorem dX7_pridesOf_71 : decode cX7_pridesOf 71 = .ok (.iadd, 1) := by decide +kernel
theorem dX7_pridesOf_72 : decode cX7_pridesOf 72 = .ok (.iaload, 1) := by decide +kernel
theorem dX7_pridesOf_73 : decode cX7_pridesOf 73 = .ok (.if_icmp .ne 7, 3) := by decide +kernel
theorem dX7_pridesOf_76 : decode cX7_pridesOf 76 = .ok (.iconst 1, 1) := by decide +kernel
theorem dX7_pridesOf_77 : decode cX7_pridesOf 77 = .ok (.goto 4, 3) := by decide +kernel
theorem dX7_pridesOf_80 : decode cX7_pridesOf 80 = .ok (.iconst 0, 1) := by decide +kernel
theorem dX7_pridesOf_81 : decode cX7_pridesOf 81 = .ok (.istore 4, 2) := by decide +kernel
theorem dX7_pridesOf_83 : decode cX7_pridesOf 83 = .ok (.iinc 5 3, 3) := by decide +kernel
theorem dX7_pridesOf_86 : decode cX7_pridesOf 86 = .ok (.goto (-70), 3) := by decide +kernel
theorem dX7_pridesOf_89 : decode cX7_pridesOf 89 = .ok (.iload_n 2, 1) := by decide +kernel
theorem dX7_pridesOf_90 : decode cX7_pridesOf 90 = .ok (.iload 4, 2) := by decide +kernel
theorem dX7_pridesOf_92 : decode cX7_pridesOf 92 = .ok (.ifCond .eq 11, 3) := by decide +kernel
theorem dX7_pridesOf_95 : decode cX7_pridesOf 95 = .ok (.iconst 1, 1) := by decide +kernel
theorem dX7_pridesOf_96 : decode cX7_pridesOf 96 = .ok (.iload_n 3, 1) := by decide +kernel
theorem dX7_pridesOf_97 : decode cX7_pridesOf 97 = .ok (.iconst 1, 1) := by decide +kernel
theorem dX7_pridesOf_98 : decode cX7_pridesOf 98 = .ok (.isub, 1) := by decide +kernel
theorem dX7_pridesOf_99 : decode cX7_pridesOf 99 = .ok (.ishl, 1) := by decide +kernel
theorem dX7_pridesOf_100 : decode cX7_pridesOf 100 = .ok (.goto 4, 3) := by decide +kernel
theorem dX7_pridesOf_103 : decode cX7_pridesOf 103 = .ok (.iconst 0, 1) := by decide +kernel
theorem dX7_pridesOf_104 : decode cX7_pridesOf 104 = .ok (.ior, 1) := by decide +kernel
theorem dX7_pridesOf_105 : decode cX7_pridesOf 105 = .ok (.istore_n 2, 1) := by decide +kernel
theorem dX7_pridesOf_106 : decode cX7_pridesOf 106 = .ok (.iinc 3 1, 3) := by decide +kernel
theorem dX7_pridesOf_109 : decode cX7_pridesOf 109 = .ok (.goto (-105), 3) := by decide +kernel
theorem dX7_pridesOf_112 : decode cX7_pridesOf 112 = .ok (.iload_n 2, 1) := by decide +kernel
theorem dX7_pridesOf_113 : decode cX7_pridesOf 113 = .ok (.ireturn, 1) := by decide +kernel
theorem dX7_tryOf_0 : decode cX7_tryOf 0 = .ok (.aload_n 0, 1) := by decide +kernel
theorem dX7_tryOf_1 : decode cX7_tryOf 1 = .ok (.iload_n 1, 1) := by decide +kernel
theorem dX7_tryOf_2 : decode cX7_tryOf 2 = .ok (.invokevirtual 182, 3) := by decide +kernel
end
section
theorem dX7_tryOf_5 : decode cX7_tryOf 5 = .ok (.istore_n 2, 1) := by decide +kernel
theorem dX7_tryOf_6 : decode cX7_tryOf 6 = .ok (.iconst (-1), 1) := by decide +kernel
theorem dX7_tryOf_7 : decode cX7_tryOf 7 = .ok (.istore_n 3, 1) := by decide +kernel
theorem dX7_tryOf_8 : decode cX7_tryOf 8 = .ok (.bipush 10, 2) := by decide +kernel
theorem dX7_tryOf_10 : decode cX7_tryOf 10 = .ok (.istore 4, 2) := by decide +kernel
theorem dX7_tryOf_12 : decode cX7_tryOf 12 = .ok (.iconst 0, 1) := by decide +kernel
theorem dX7_tryOf_13 : decode cX7_tryOf 13 = .ok (.istore 5, 2) := by decide +kernel
theorem dX7_tryOf_15 : decode cX7_tryOf 15 = .ok (.iload 5, 2) := by decide +kernel
theorem dX7_tryOf_17 : decode cX7_tryOf 17 = .ok (.iconst 3, 1) := by decide +kernel
theorem dX7_tryOf_18 : decode cX7_tryOf 18 = .ok (.if_icmp .ge 147, 3) := by decide +kernel
theorem dX7_tryOf_21 : decode cX7_tryOf 21 = .ok (.iload_n 2, 1) := by decide +kernel
theorem dX7_tryOf_22 : decode cX7_tryOf 22 = .ok (.ifCond .eq 143, 3) := by decide +kernel
theorem dX7_tryOf_25 : decode cX7_tryOf 25 = .ok (.iconst 0, 1) := by decide +kernel
theorem dX7_tryOf_26 : decode cX7_tryOf 26 = .ok (.istore 6, 2) := by decide +kernel
theorem dX7_tryOf_28 : decode cX7_tryOf 28 = .ok (.iload 6, 2) := by decide +kernel
theorem dX7_tryOf_30 : decode cX7_tryOf 30 = .ok (.bipush 22, 2) := by decide +kernel
theorem dX7_tryOf_32 : decode cX7_tryOf 32 = .ok (.if_icmp .ge 17, 3) := by decide +kernel
theorem dX7_tryOf_35 : decode cX7_tryOf 35 = .ok (.aload_n 0, 1) := by decide +kernel
theorem dX7_tryOf_36 : decode cX7_tryOf 36 = .ok (.getfield 46, 3) := by decide +kernel
theorem dX7_tryOf_39 : decode cX7_tryOf 39 = .ok (.iload 6, 2) := by decide +kernel
theorem dX7_tryOf_41 : decode cX7_tryOf 41 = .ok (.iconst 0, 1) := by decide +kernel
theorem dX7_tryOf_42 : decode cX7_tryOf 42 = .ok (.iastore, 1) := by decide +kernel
theorem dX7_tryOf_43 : decode cX7_tryOf 43 = .ok (.iinc 6 1, 3) := by decide +kernel
theorem dX7_tryOf_46 : decode cX7_tryOf 46 = .ok (.goto (-18), 3) := by decide +kernel
theorem dX7_tryOf_49 : decode cX7_tryOf 49 = .ok (.iconst 0, 1) := by decide +kernel
theorem dX7_tryOf_50 : decode cX7_tryOf 50 = .ok (.istore 6, 2) := by decide +kernel
theorem dX7_tryOf_52 : decode cX7_tryOf 52 = .ok (.iconst 1, 1) := by decide +kernel
theorem dX7_tryOf_53 : decode cX7_tryOf 53 = .ok (.istore 7, 2) := by decide +kernel
theorem dX7_tryOf_55 : decode cX7_tryOf 55 = .ok (.iload 7, 2) := by decide +kernel
theorem dX7_tryOf_57 : decode cX7_tryOf 57 = .ok (.bipush 10, 2) := by decide +kernel
theorem dX7_tryOf_59 : decode cX7_tryOf 59 = .ok (.if_icmp .ge 70, 3) := by decide +kernel
theorem dX7_tryOf_62 : decode cX7_tryOf 62 = .ok (.aload_n 0, 1) := by decide +kernel
theorem dX7_tryOf_63 : decode cX7_tryOf 63 = .ok (.getfield 13, 3) := by decide +kernel
theorem dX7_tryOf_66 : decode cX7_tryOf 66 = .ok (.iconst 3, 1) := by decide +kernel
theorem dX7_tryOf_67 : decode cX7_tryOf 67 = .ok (.iload_n 1, 1) := by decide +kernel
theorem dX7_tryOf_68 : decode cX7_tryOf 68 = .ok (.imul, 1) := by decide +kernel
theorem dX7_tryOf_69 : decode cX7_tryOf 69 = .ok (.iaload, 1) := by decide +kernel
theorem dX7_tryOf_70 : decode cX7_tryOf 70 = .ok (.iload 7, 2) := by decide +kernel
theorem dX7_tryOf_72 : decode cX7_tryOf 72 = .ok (.iload 5, 2) := by decide +kernel
theorem dX7_tryOf_74 : decode cX7_tryOf 74 = .ok (.invokestatic 141, 3) := by decide +kernel
theorem dX7_tryOf_77 : decode cX7_tryOf 77 = .ok (.istore 8, 2) := by decide +kernel
theorem dX7_tryOf_79 : decode cX7_tryOf 79 = .ok (.aload_n 0, 1) := by decide +kernel
theorem dX7_tryOf_80 : decode cX7_tryOf 80 = .ok (.getfield 46, 3) := by decide +kernel
theorem dX7_tryOf_83 : decode cX7_tryOf 83 = .ok (.iload 8, 2) := by decide +kernel
theorem dX7_tryOf_85 : decode cX7_tryOf 85 = .ok (.dup2, 1) := by decide +kernel
theorem dX7_tryOf_86 : decode cX7_tryOf 86 = .ok (.iaload, 1) := by decide +kernel
theorem dX7_tryOf_87 : decode cX7_tryOf 87 = .ok (.iload_n 2, 1) := by decide +kernel
theorem dX7_tryOf_88 : decode cX7_tryOf 88 = .ok (.iload 7, 2) := by decide +kernel
theorem dX7_tryOf_90 : decode cX7_tryOf 90 = .ok (.iconst 1, 1) := by decide +kernel
theorem dX7_tryOf_91 : decode cX7_tryOf 91 = .ok (.isub, 1) := by decide +kernel
theorem dX7_tryOf_92 : decode cX7_tryOf 92 = .ok (.ishr, 1) := by decide +kernel
theorem dX7_tryOf_93 : decode cX7_tryOf 93 = .ok (.iconst 1, 1) := by decide +kernel
theorem dX7_tryOf_94 : decode cX7_tryOf 94 = .ok (.iand, 1) := by decide +kernel
theorem dX7_tryOf_95 : decode cX7_tryOf 95 = .ok (.iadd, 1) := by decide +kernel
theorem dX7_tryOf_96 : decode cX7_tryOf 96 = .ok (.iastore, 1) := by decide +kernel
theorem dX7_tryOf_97 : decode cX7_tryOf 97 = .ok (.aload_n 0, 1) := by decide +kernel
theorem dX7_tryOf_98 : decode cX7_tryOf 98 = .ok (.getfield 46, 3) := by decide +kernel
theorem dX7_tryOf_101 : decode cX7_tryOf 101 = .ok (.iload 8, 2) := by decide +kernel
theorem dX7_tryOf_103 : decode cX7_tryOf 103 = .ok (.iaload, 1) := by decide +kernel
theorem dX7_tryOf_104 : decode cX7_tryOf 104 = .ok (.iload 6, 2) := by decide +kernel
theorem dX7_tryOf_106 : decode cX7_tryOf 106 = .ok (.if_icmp .le 13, 3) := by decide +kernel
theorem dX7_tryOf_109 : decode cX7_tryOf 109 = .ok (.aload_n 0, 1) := by decide +kernel
theorem dX7_tryOf_110 : decode cX7_tryOf 110 = .ok (.getfield 46, 3) := by decide +kernel
theorem dX7_tryOf_113 : decode cX7_tryOf 113 = .ok (.iload 8, 2) := by decide +kernel
theorem dX7_tryOf_115 : decode cX7_tryOf 115 = .ok (.iaload, 1) := by decide +kernel
theorem dX7_tryOf_116 : decode cX7_tryOf 116 = .ok (.goto 5, 3) := by decide +kernel
theorem dX7_tryOf_119 : decode cX7_tryOf 119 = .ok (.iload 6, 2) := by decide +kernel
theorem dX7_tryOf_121 : decode cX7_tryOf 121 = .ok (.istore 6, 2) := by decide +kernel
theorem dX7_tryOf_123 : decode cX7_tryOf 123 = .ok (.iinc 7 1, 3) := by decide +kernel
theorem dX7_tryOf_126 : decode cX7_tryOf 126 = .ok (.goto (-71), 3) := by decide +kernel
theorem dX7_tryOf_129 : decode cX7_tryOf 129 = .ok (.iload 6, 2) := by decide +kernel
theorem dX7_tryOf_131 : decode cX7_tryOf 131 = .ok (.iload 4, 2) := by decide +kernel
theorem dX7_tryOf_133 : decode cX7_tryOf 133 = .ok (.if_icmp .ge 8, 3) := by decide +kernel
theorem dX7_tryOf_136 : decode cX7_tryOf 136 = .ok (.iload 5, 2) := by decide +kernel
theorem dX7_tryOf_138 : decode cX7_tryOf 138 = .ok (.goto 4, 3) := by decide +kernel
theorem dX7_tryOf_141 : decode cX7_tryOf 141 = .ok (.iload_n 3, 1) := by decide +kernel
theorem dX7_tryOf_142 : decode cX7_tryOf 142 = .ok (.istore_n 3, 1) := by decide +kernel
theorem dX7_tryOf_143 : decode cX7_tryOf 143 = .ok (.iload 6, 2) := by decide +kernel
theorem dX7_tryOf_145 : decode cX7_tryOf 145 = .ok (.iload 4, 2) := by decide +kernel
theorem dX7_tryOf_147 : decode cX7_tryOf 147 = .ok (.if_icmp .ge 8, 3) := by decide +kernel
theorem dX7_tryOf_150 : decode cX7_tryOf 150 = .ok (.iload 6, 2) := by decide +kernel
theorem dX7_tryOf_152 : decode cX7_tryOf 152 = .ok (.goto 5, 3) := by decide +kernel
theorem dX7_tryOf_155 : decode cX7_tryOf 155 = .ok (.iload 4, 2) := by decide +kernel
theorem dX7_tryOf_157 : decode cX7_tryOf 157 = .ok (.istore 4, 2) := by decide +kernel
theorem dX7_tryOf_159 : decode cX7_tryOf 159 = .ok (.iinc 5 1, 3) := by decide +kernel
theorem dX7_tryOf_162 : decode cX7_tryOf 162 = .ok (.goto (-147), 3) := by decide +kernel
theorem dX7_tryOf_165 : decode cX7_tryOf 165 = .ok (.iload_n 3, 1) := by decide +kernel
theorem dX7_tryOf_166 : decode cX7_tryOf 166 = .ok (.ireturn, 1) := by decide +kernel
theorem dX7_draw_0 : decode cX7_draw 0 = .ok (.aload_n 0, 1) := by decide +kernel
theorem dX7_draw_1 : decode cX7_draw 1 = .ok (.ldc2_w 273, 3) := by decide +kernel
theorem dX7_draw_4 : decode cX7_draw 4 = .ok (.aload_n 0, 1) := by decide +kernel
theorem dX7_draw_5 : decode cX7_draw 5 = .ok (.getfield 275, 3) := by decide +kernel
theorem dX7_draw_8 : decode cX7_draw 8 = .ok (.i2l, 1) := by decide +kernel
theorem dX7_draw_9 : decode cX7_draw 9 = .ok (.lmul, 1) := by decide +kernel
theorem dX7_draw_10 : decode cX7_draw 10 = .ok (.ldc2_w 278, 3) := by decide +kernel
theorem dX7_draw_13 : decode cX7_draw 13 = .ok (.ladd, 1) := by decide +kernel
theorem dX7_draw_14 : decode cX7_draw 14 = .ok (.ldc2_w 280, 3) := by decide +kernel
theorem dX7_draw_17 : decode cX7_draw 17 = .ok (.land, 1) := by decide +kernel
theorem dX7_draw_18 : decode cX7_draw 18 = .ok (.l2i, 1) := by decide +kernel
theorem dX7_draw_19 : decode cX7_draw 19 = .ok (.putfield 275, 3) := by decide +kernel
theorem dX7_draw_22 : decode cX7_draw 22 = .ok (.aload_n 0, 1) := by decide +kernel
theorem dX7_draw_23 : decode cX7_draw 23 = .ok (.getfield 275, 3) := by decide +kernel
theorem dX7_draw_26 : decode cX7_draw 26 = .ok (.ldc_w 282, 3) := by decide +kernel
theorem dX7_draw_29 : decode cX7_draw 29 = .ok (.idiv, 1) := by decide +kernel
theorem dX7_draw_30 : decode cX7_draw 30 = .ok (.iload_n 1, 1) := by decide +kernel
theorem dX7_draw_31 : decode cX7_draw 31 = .ok (.irem, 1) := by decide +kernel
theorem dX7_draw_32 : decode cX7_draw 32 = .ok (.ireturn, 1) := by decide +kernel
theorem dX7_weeks_0 : decode cX7_weeks 0 = .ok (.iload_n 1, 1) := by decide +kernel
theorem dX7_weeks_1 : decode cX7_weeks 1 = .ok (.i2l, 1) := by decide +kernel
theorem dX7_weeks_2 : decode cX7_weeks 2 = .ok (.lconst 1, 1) := by decide +kernel
theorem dX7_weeks_3 : decode cX7_weeks 3 = .ok (.ldc2_w 283, 3) := by decide +kernel
theorem dX7_weeks_6 : decode cX7_weeks 6 = .ok (.invokestatic 76, 3) := by decide +kernel
theorem dX7_weeks_9 : decode cX7_weeks 9 = .ok (.ifCond .eq 19, 3) := by decide +kernel
theorem dX7_weeks_12 : decode cX7_weeks 12 = .ok (.iload_n 2, 1) := by decide +kernel
theorem dX7_weeks_13 : decode cX7_weeks 13 = .ok (.ifCond .lt 15, 3) := by decide +kernel
theorem dX7_weeks_16 : decode cX7_weeks 16 = .ok (.iload_n 3, 1) := by decide +kernel
theorem dX7_weeks_17 : decode cX7_weeks 17 = .ok (.i2l, 1) := by decide +kernel
theorem dX7_weeks_18 : decode cX7_weeks 18 = .ok (.lconst 0, 1) := by decide +kernel
theorem dX7_weeks_19 : decode cX7_weeks 19 = .ok (.ldc2_w 231, 3) := by decide +kernel
theorem dX7_weeks_22 : decode cX7_weeks 22 = .ok (.invokestatic 76, 3) := by decide +kernel
theorem dX7_weeks_25 : decode cX7_weeks 25 = .ok (.ifCond .ne 6, 3) := by decide +kernel
theorem dX7_weeks_28 : decode cX7_weeks 28 = .ok (.bipush (-102), 2) := by decide +kernel
theorem dX7_weeks_30 : decode cX7_weeks 30 = .ok (.ireturn, 1) := by decide +kernel
theorem dX7_weeks_31 : decode cX7_weeks 31 = .ok (.aload_n 0, 1) := by decide +kernel
theorem dX7_weeks_32 : decode cX7_weeks 32 = .ok (.invokevirtual 133, 3) := by decide +kernel
theorem dX7_weeks_35 : decode cX7_weeks 35 = .ok (.ifCond .eq 6, 3) := by decide +kernel
theorem dX7_weeks_38 : decode cX7_weeks 38 = .ok (.bipush (-103), 2) := by decide +kernel
theorem dX7_weeks_40 : decode cX7_weeks 40 = .ok (.ireturn, 1) := by decide +kernel
theorem dX7_weeks_41 : decode cX7_weeks 41 = .ok (.aload_n 0, 1) := by decide +kernel
theorem dX7_weeks_42 : decode cX7_weeks 42 = .ok (.getfield 19, 3) := by decide +kernel
theorem dX7_weeks_45 : decode cX7_weeks 45 = .ok (.aload_n 0, 1) := by decide +kernel
theorem dX7_weeks_46 : decode cX7_weeks 46 = .ok (.getfield 34, 3) := by decide +kernel
theorem dX7_weeks_49 : decode cX7_weeks 49 = .ok (.invokestatic 205, 3) := by decide +kernel
theorem dX7_weeks_52 : decode cX7_weeks 52 = .ok (.aload_n 0, 1) := by decide +kernel
theorem dX7_weeks_53 : decode cX7_weeks 53 = .ok (.iload_n 2, 1) := by decide +kernel
theorem dX7_weeks_54 : decode cX7_weeks 54 = .ok (.putfield 275, 3) := by decide +kernel
theorem dX7_weeks_57 : decode cX7_weeks 57 = .ok (.iconst 0, 1) := by decide +kernel
theorem dX7_weeks_58 : decode cX7_weeks 58 = .ok (.istore 4, 2) := by decide +kernel
theorem dX7_weeks_60 : decode cX7_weeks 60 = .ok (.iconst 0, 1) := by decide +kernel
theorem dX7_weeks_61 : decode cX7_weeks 61 = .ok (.istore 5, 2) := by decide +kernel
theorem dX7_weeks_63 : decode cX7_weeks 63 = .ok (.iload 5, 2) := by decide +kernel
theorem dX7_weeks_65 : decode cX7_weeks 65 = .ok (.iload_n 1, 1) := by decide +kernel
theorem dX7_weeks_66 : decode cX7_weeks 66 = .ok (.if_icmp .ge 76, 3) := by decide +kernel
theorem dX7_weeks_69 : decode cX7_weeks 69 = .ok (.aload_n 0, 1) := by decide +kernel
theorem dX7_weeks_70 : decode cX7_weeks 70 = .ok (.aload_n 0, 1) := by decide +kernel
theorem dX7_weeks_71 : decode cX7_weeks 71 = .ok (.getfield 109, 3) := by decide +kernel
theorem dX7_weeks_74 : decode cX7_weeks 74 = .ok (.invokevirtual 285, 3) := by decide +kernel
theorem dX7_weeks_77 : decode cX7_weeks 77 = .ok (.istore 6, 2) := by decide +kernel
theorem dX7_weeks_79 : decode cX7_weeks 79 = .ok (.aload_n 0, 1) := by decide +kernel
theorem dX7_weeks_80 : decode cX7_weeks 80 = .ok (.iconst 4, 1) := by decide +kernel
theorem dX7_weeks_81 : decode cX7_weeks 81 = .ok (.invokevirtual 285, 3) := by decide +kernel
theorem dX7_weeks_84 : decode cX7_weeks 84 = .ok (.istore 7, 2) := by decide +kernel
theorem dX7_weeks_86 : decode cX7_weeks 86 = .ok (.aload_n 0, 1) := by decide +kernel
theorem dX7_weeks_87 : decode cX7_weeks 87 = .ok (.aload_n 0, 1) := by decide +kernel
theorem dX7_weeks_88 : decode cX7_weeks 88 = .ok (.getfield 34, 3) := by decide +kernel
theorem dX7_weeks_91 : decode cX7_weeks 91 = .ok (.iload 7, 2) := by decide +kernel
theorem dX7_weeks_93 : decode cX7_weeks 93 = .ok (.iconst 3, 1) := by decide +kernel
theorem dX7_weeks_94 : decode cX7_weeks 94 = .ok (.if_icmp .ne 7, 3) := by decide +kernel
theorem dX7_weeks_97 : decode cX7_weeks 97 = .ok (.iconst (-1), 1) := by decide +kernel
theorem dX7_weeks_98 : decode cX7_weeks 98 = .ok (.goto 10, 3) := by decide +kernel
theorem dX7_weeks_101 : decode cX7_weeks 101 = .ok (.iconst 3, 1) := by decide +kernel
theorem dX7_weeks_102 : decode cX7_weeks 102 = .ok (.iload 6, 2) := by decide +kernel
theorem dX7_weeks_104 : decode cX7_weeks 104 = .ok (.imul, 1) := by decide +kernel
theorem dX7_weeks_105 : decode cX7_weeks 105 = .ok (.iload 7, 2) := by decide +kernel
theorem dX7_weeks_107 : decode cX7_weeks 107 = .ok (.iadd, 1) := by decide +kernel
theorem dX7_weeks_108 : decode cX7_weeks 108 = .ok (.invokevirtual 209, 3) := by decide +kernel
theorem dX7_weeks_111 : decode cX7_weeks 111 = .ok (.iload 4, 2) := by decide +kernel
theorem dX7_weeks_113 : decode cX7_weeks 113 = .ok (.aload_n 0, 1) := by decide +kernel
theorem dX7_weeks_114 : decode cX7_weeks 114 = .ok (.aload_n 0, 1) := by decide +kernel
theorem dX7_weeks_115 : decode cX7_weeks 115 = .ok (.getfield 34, 3) := by decide +kernel
theorem dX7_weeks_118 : decode cX7_weeks 118 = .ok (.iconst 0, 1) := by decide +kernel
theorem dX7_weeks_119 : decode cX7_weeks 119 = .ok (.invokevirtual 162, 3) := by decide +kernel
theorem dX7_weeks_122 : decode cX7_weeks 122 = .ok (.invokestatic 169, 3) := by decide +kernel
theorem dX7_weeks_125 : decode cX7_weeks 125 = .ok (.iadd, 1) := by decide +kernel
theorem dX7_weeks_126 : decode cX7_weeks 126 = .ok (.istore 4, 2) := by decide +kernel
theorem dX7_weeks_128 : decode cX7_weeks 128 = .ok (.aload_n 0, 1) := by decide +kernel
theorem dX7_weeks_129 : decode cX7_weeks 129 = .ok (.aload_n 0, 1) := by decide +kernel
theorem dX7_weeks_130 : decode cX7_weeks 130 = .ok (.getfield 34, 3) := by decide +kernel
theorem dX7_weeks_133 : decode cX7_weeks 133 = .ok (.invokevirtual 236, 3) := by decide +kernel
theorem dX7_weeks_136 : decode cX7_weeks 136 = .ok (.iinc 5 1, 3) := by decide +kernel
theorem dX7_weeks_139 : decode cX7_weeks 139 = .ok (.goto (-76), 3) := by decide +kernel
theorem dX7_weeks_142 : decode cX7_weeks 142 = .ok (.iload_n 3, 1) := by decide +kernel
theorem dX7_weeks_143 : decode cX7_weeks 143 = .ok (.ifCond .ne 8, 3) := by decide +kernel
theorem dX7_weeks_146 : decode cX7_weeks 146 = .ok (.iload 4, 2) := by decide +kernel
theorem dX7_weeks_148 : decode cX7_weeks 148 = .ok (.goto 23, 3) := by decide +kernel
theorem dX7_weeks_151 : decode cX7_weeks 151 = .ok (.iload_n 3, 1) := by decide +kernel
theorem dX7_weeks_152 : decode cX7_weeks 152 = .ok (.iconst 1, 1) := by decide +kernel
theorem dX7_weeks_153 : decode cX7_weeks 153 = .ok (.if_icmp .ne 14, 3) := by decide +kernel
theorem dX7_weeks_156 : decode cX7_weeks 156 = .ok (.aload_n 0, 1) := by decide +kernel
theorem dX7_weeks_157 : decode cX7_weeks 157 = .ok (.aload_n 0, 1) := by decide +kernel
theorem dX7_weeks_158 : decode cX7_weeks 158 = .ok (.getfield 34, 3) := by decide +kernel
theorem dX7_weeks_161 : decode cX7_weeks 161 = .ok (.invokevirtual 288, 3) := by decide +kernel
theorem dX7_weeks_164 : decode cX7_weeks 164 = .ok (.goto 7, 3) := by decide +kernel
theorem dX7_weeks_167 : decode cX7_weeks 167 = .ok (.aload_n 0, 1) := by decide +kernel
theorem dX7_weeks_168 : decode cX7_weeks 168 = .ok (.getfield 275, 3) := by decide +kernel
theorem dX7_weeks_171 : decode cX7_weeks 171 = .ok (.ireturn, 1) := by decide +kernel
theorem dX7_image_0 : decode cX7_image 0 = .ok (.aload_n 0, 1) := by decide +kernel
theorem dX7_image_1 : decode cX7_image 1 = .ok (.invokevirtual 133, 3) := by decide +kernel
theorem dX7_image_4 : decode cX7_image 4 = .ok (.ifCond .eq 6, 3) := by decide +kernel
theorem dX7_image_7 : decode cX7_image 7 = .ok (.bipush (-103), 2) := by decide +kernel
theorem dX7_image_9 : decode cX7_image 9 = .ok (.ireturn, 1) := by decide +kernel
theorem dX7_image_10 : decode cX7_image 10 = .ok (.aload_n 0, 1) := by decide +kernel
theorem dX7_image_11 : decode cX7_image 11 = .ok (.getfield 13, 3) := by decide +kernel
theorem dX7_image_14 : decode cX7_image 14 = .ok (.aload_n 0, 1) := by decide +kernel
theorem dX7_image_15 : decode cX7_image 15 = .ok (.getfield 49, 3) := by decide +kernel
theorem dX7_image_18 : decode cX7_image 18 = .ok (.invokestatic 205, 3) := by decide +kernel
theorem dX7_image_21 : decode cX7_image 21 = .ok (.aload_n 0, 1) := by decide +kernel
theorem dX7_image_22 : decode cX7_image 22 = .ok (.getfield 16, 3) := by decide +kernel
theorem dX7_image_25 : decode cX7_image 25 = .ok (.aload_n 0, 1) := by decide +kernel
theorem dX7_image_26 : decode cX7_image 26 = .ok (.getfield 52, 3) := by decide +kernel
theorem dX7_image_29 : decode cX7_image 29 = .ok (.invokestatic 205, 3) := by decide +kernel
theorem dX7_image_32 : decode cX7_image 32 = .ok (.aload_n 0, 1) := by decide +kernel
theorem dX7_image_33 : decode cX7_image 33 = .ok (.getfield 19, 3) := by decide +kernel
theorem dX7_image_36 : decode cX7_image 36 = .ok (.aload_n 0, 1) := by decide +kernel
theorem dX7_image_37 : decode cX7_image 37 = .ok (.getfield 55, 3) := by decide +kernel
theorem dX7_image_40 : decode cX7_image 40 = .ok (.invokestatic 205, 3) := by decide +kernel
theorem dX7_image_43 : decode cX7_image 43 = .ok (.aload_n 0, 1) := by decide +kernel
theorem dX7_image_44 : decode cX7_image 44 = .ok (.getfield 25, 3) := by decide +kernel
theorem dX7_image_47 : decode cX7_image 47 = .ok (.aload_n 0, 1) := by decide +kernel
theorem dX7_image_48 : decode cX7_image 48 = .ok (.getfield 58, 3) := by decide +kernel
theorem dX7_image_51 : decode cX7_image 51 = .ok (.invokestatic 205, 3) := by decide +kernel
theorem dX7_image_54 : decode cX7_image 54 = .ok (.aload_n 0, 1) := by decide +kernel
theorem dX7_image_55 : decode cX7_image 55 = .ok (.getfield 28, 3) := by decide +kernel
theorem dX7_image_58 : decode cX7_image 58 = .ok (.aload_n 0, 1) := by decide +kernel
theorem dX7_image_59 : decode cX7_image 59 = .ok (.getfield 61, 3) := by decide +kernel
theorem dX7_image_62 : decode cX7_image 62 = .ok (.invokestatic 205, 3) := by decide +kernel
theorem dX7_image_65 : decode cX7_image 65 = .ok (.aload_n 0, 1) := by decide +kernel
theorem dX7_image_66 : decode cX7_image 66 = .ok (.getfield 31, 3) := by decide +kernel
theorem dX7_image_69 : decode cX7_image 69 = .ok (.aload_n 0, 1) := by decide +kernel
theorem dX7_image_70 : decode cX7_image 70 = .ok (.getfield 64, 3) := by decide +kernel
theorem dX7_image_73 : decode cX7_image 73 = .ok (.invokestatic 205, 3) := by decide +kernel
theorem dX7_image_76 : decode cX7_image 76 = .ok (.aload_n 0, 1) := by decide +kernel
theorem dX7_image_77 : decode cX7_image 77 = .ok (.getfield 43, 3) := by decide +kernel
theorem dX7_image_80 : decode cX7_image 80 = .ok (.aload_n 0, 1) := by decide +kernel
theorem dX7_image_81 : decode cX7_image 81 = .ok (.getfield 67, 3) := by decide +kernel
theorem dX7_image_84 : decode cX7_image 84 = .ok (.invokestatic 205, 3) := by decide +kernel
theorem dX7_image_87 : decode cX7_image 87 = .ok (.aload_n 0, 1) := by decide +kernel
theorem dX7_image_88 : decode cX7_image 88 = .ok (.aload_n 0, 1) := by decide +kernel
theorem dX7_image_89 : decode cX7_image 89 = .ok (.getfield 115, 3) := by decide +kernel
theorem dX7_image_92 : decode cX7_image 92 = .ok (.putfield 292, 3) := by decide +kernel
theorem dX7_image_95 : decode cX7_image 95 = .ok (.aload_n 0, 1) := by decide +kernel
theorem dX7_image_96 : decode cX7_image 96 = .ok (.aload_n 0, 1) := by decide +kernel
theorem dX7_image_97 : decode cX7_image 97 = .ok (.getfield 118, 3) := by decide +kernel
theorem dX7_image_100 : decode cX7_image 100 = .ok (.putfield 295, 3) := by decide +kernel
theorem dX7_image_103 : decode cX7_image 103 = .ok (.aload_n 0, 1) := by decide +kernel
theorem dX7_image_104 : decode cX7_image 104 = .ok (.aload_n 0, 1) := by decide +kernel
theorem dX7_image_105 : decode cX7_image 105 = .ok (.getfield 121, 3) := by decide +kernel
theorem dX7_image_108 : decode cX7_image 108 = .ok (.putfield 298, 3) := by decide +kernel
theorem dX7_image_111 : decode cX7_image 111 = .ok (.aload_n 0, 1) := by decide +kernel
theorem dX7_image_112 : decode cX7_image 112 = .ok (.aload_n 0, 1) := by decide +kernel
theorem dX7_image_113 : decode cX7_image 113 = .ok (.getfield 124, 3) := by decide +kernel
theorem dX7_image_116 : decode cX7_image 116 = .ok (.putfield 301, 3) := by decide +kernel
theorem dX7_image_119 : decode cX7_image 119 = .ok (.aload_n 0, 1) := by decide +kernel
theorem dX7_image_120 : decode cX7_image 120 = .ok (.aload_n 0, 1) := by decide +kernel
theorem dX7_image_121 : decode cX7_image 121 = .ok (.getfield 127, 3) := by decide +kernel
theorem dX7_image_124 : decode cX7_image 124 = .ok (.putfield 304, 3) := by decide +kernel
theorem dX7_image_127 : decode cX7_image 127 = .ok (.aload_n 0, 1) := by decide +kernel
theorem dX7_image_128 : decode cX7_image 128 = .ok (.aload_n 0, 1) := by decide +kernel
theorem dX7_image_129 : decode cX7_image 129 = .ok (.getfield 130, 3) := by decide +kernel
theorem dX7_image_132 : decode cX7_image 132 = .ok (.putfield 70, 3) := by decide +kernel
theorem dX7_image_135 : decode cX7_image 135 = .ok (.aload_n 0, 1) := by decide +kernel
theorem dX7_image_136 : decode cX7_image 136 = .ok (.getfield 115, 3) := by decide +kernel
theorem dX7_image_139 : decode cX7_image 139 = .ok (.ireturn, 1) := by decide +kernel
theorem dX7_restore_0 : decode cX7_restore 0 = .ok (.aload_n 0, 1) := by decide +kernel
theorem dX7_restore_1 : decode cX7_restore 1 = .ok (.getfield 70, 3) := by decide +kernel
theorem dX7_restore_4 : decode cX7_restore 4 = .ok (.aload_n 0, 1) := by decide +kernel
theorem dX7_restore_5 : decode cX7_restore 5 = .ok (.getfield 130, 3) := by decide +kernel
theorem dX7_restore_8 : decode cX7_restore 8 = .ok (.if_icmp .eq 6, 3) := by decide +kernel
theorem dX7_restore_11 : decode cX7_restore 11 = .ok (.bipush (-103), 2) := by decide +kernel
theorem dX7_restore_13 : decode cX7_restore 13 = .ok (.ireturn, 1) := by decide +kernel
theorem dX7_restore_14 : decode cX7_restore 14 = .ok (.aload_n 0, 1) := by decide +kernel
theorem dX7_restore_15 : decode cX7_restore 15 = .ok (.getfield 49, 3) := by decide +kernel
theorem dX7_restore_18 : decode cX7_restore 18 = .ok (.aload_n 0, 1) := by decide +kernel
theorem dX7_restore_19 : decode cX7_restore 19 = .ok (.getfield 13, 3) := by decide +kernel
theorem dX7_restore_22 : decode cX7_restore 22 = .ok (.invokestatic 205, 3) := by decide +kernel
theorem dX7_restore_25 : decode cX7_restore 25 = .ok (.aload_n 0, 1) := by decide +kernel
theorem dX7_restore_26 : decode cX7_restore 26 = .ok (.getfield 52, 3) := by decide +kernel
theorem dX7_restore_29 : decode cX7_restore 29 = .ok (.aload_n 0, 1) := by decide +kernel
theorem dX7_restore_30 : decode cX7_restore 30 = .ok (.getfield 16, 3) := by decide +kernel
theorem dX7_restore_33 : decode cX7_restore 33 = .ok (.invokestatic 205, 3) := by decide +kernel
theorem dX7_restore_36 : decode cX7_restore 36 = .ok (.aload_n 0, 1) := by decide +kernel
theorem dX7_restore_37 : decode cX7_restore 37 = .ok (.getfield 55, 3) := by decide +kernel
theorem dX7_restore_40 : decode cX7_restore 40 = .ok (.aload_n 0, 1) := by decide +kernel
theorem dX7_restore_41 : decode cX7_restore 41 = .ok (.getfield 19, 3) := by decide +kernel
theorem dX7_restore_44 : decode cX7_restore 44 = .ok (.invokestatic 205, 3) := by decide +kernel
theorem dX7_restore_47 : decode cX7_restore 47 = .ok (.aload_n 0, 1) := by decide +kernel
theorem dX7_restore_48 : decode cX7_restore 48 = .ok (.getfield 58, 3) := by decide +kernel
theorem dX7_restore_51 : decode cX7_restore 51 = .ok (.aload_n 0, 1) := by decide +kernel
theorem dX7_restore_52 : decode cX7_restore 52 = .ok (.getfield 25, 3) := by decide +kernel
theorem dX7_restore_55 : decode cX7_restore 55 = .ok (.invokestatic 205, 3) := by decide +kernel
theorem dX7_restore_58 : decode cX7_restore 58 = .ok (.aload_n 0, 1) := by decide +kernel
theorem dX7_restore_59 : decode cX7_restore 59 = .ok (.getfield 61, 3) := by decide +kernel
theorem dX7_restore_62 : decode cX7_restore 62 = .ok (.aload_n 0, 1) := by decide +kernel
theorem dX7_restore_63 : decode cX7_restore 63 = .ok (.getfield 28, 3) := by decide +kernel
theorem dX7_restore_66 : decode cX7_restore 66 = .ok (.invokestatic 205, 3) := by decide +kernel
theorem dX7_restore_69 : decode cX7_restore 69 = .ok (.aload_n 0, 1) := by decide +kernel
theorem dX7_restore_70 : decode cX7_restore 70 = .ok (.getfield 64, 3) := by decide +kernel
theorem dX7_restore_73 : decode cX7_restore 73 = .ok (.aload_n 0, 1) := by decide +kernel
theorem dX7_restore_74 : decode cX7_restore 74 = .ok (.getfield 31, 3) := by decide +kernel
theorem dX7_restore_77 : decode cX7_restore 77 = .ok (.invokestatic 205, 3) := by decide +kernel
theorem dX7_restore_80 : decode cX7_restore 80 = .ok (.aload_n 0, 1) := by decide +kernel
theorem dX7_restore_81 : decode cX7_restore 81 = .ok (.getfield 67, 3) := by decide +kernel
theorem dX7_restore_84 : decode cX7_restore 84 = .ok (.aload_n 0, 1) := by decide +kernel
theorem dX7_restore_85 : decode cX7_restore 85 = .ok (.getfield 43, 3) := by decide +kernel
theorem dX7_restore_88 : decode cX7_restore 88 = .ok (.invokestatic 205, 3) := by decide +kernel
theorem dX7_restore_91 : decode cX7_restore 91 = .ok (.aload_n 0, 1) := by decide +kernel
theorem dX7_restore_92 : decode cX7_restore 92 = .ok (.aload_n 0, 1) := by decide +kernel
theorem dX7_restore_93 : decode cX7_restore 93 = .ok (.getfield 292, 3) := by decide +kernel
theorem dX7_restore_96 : decode cX7_restore 96 = .ok (.putfield 115, 3) := by decide +kernel
theorem dX7_restore_99 : decode cX7_restore 99 = .ok (.aload_n 0, 1) := by decide +kernel
theorem dX7_restore_100 : decode cX7_restore 100 = .ok (.aload_n 0, 1) := by decide +kernel
theorem dX7_restore_101 : decode cX7_restore 101 = .ok (.getfield 295, 3) := by decide +kernel
theorem dX7_restore_104 : decode cX7_restore 104 = .ok (.putfield 118, 3) := by decide +kernel
theorem dX7_restore_107 : decode cX7_restore 107 = .ok (.aload_n 0, 1) := by decide +kernel
theorem dX7_restore_108 : decode cX7_restore 108 = .ok (.aload_n 0, 1) := by decide +kernel
theorem dX7_restore_109 : decode cX7_restore 109 = .ok (.getfield 298, 3) := by decide +kernel
theorem dX7_restore_112 : decode cX7_restore 112 = .ok (.putfield 121, 3) := by decide +kernel
theorem dX7_restore_115 : decode cX7_restore 115 = .ok (.aload_n 0, 1) := by decide +kernel
theorem dX7_restore_116 : decode cX7_restore 116 = .ok (.aload_n 0, 1) := by decide +kernel
theorem dX7_restore_117 : decode cX7_restore 117 = .ok (.getfield 301, 3) := by decide +kernel
theorem dX7_restore_120 : decode cX7_restore 120 = .ok (.putfield 124, 3) := by decide +kernel
theorem dX7_restore_123 : decode cX7_restore 123 = .ok (.aload_n 0, 1) := by decide +kernel
theorem dX7_restore_124 : decode cX7_restore 124 = .ok (.aload_n 0, 1) := by decide +kernel
theorem dX7_restore_125 : decode cX7_restore 125 = .ok (.getfield 304, 3) := by decide +kernel
theorem dX7_restore_128 : decode cX7_restore 128 = .ok (.putfield 127, 3) := by decide +kernel
theorem dX7_restore_131 : decode cX7_restore 131 = .ok (.aload_n 0, 1) := by decide +kernel
theorem dX7_restore_132 : decode cX7_restore 132 = .ok (.getfield 115, 3) := by decide +kernel
theorem dX7_restore_135 : decode cX7_restore 135 = .ok (.ireturn, 1) := by decide +kernel
theorem dX7_sumPeople_0 : decode cX7_sumPeople 0 = .ok (.iconst 0, 1) := by decide +kernel
theorem dX7_sumPeople_1 : decode cX7_sumPeople 1 = .ok (.istore_n 2, 1) := by decide +kernel
theorem dX7_sumPeople_2 : decode cX7_sumPeople 2 = .ok (.iconst 0, 1) := by decide +kernel
theorem dX7_sumPeople_3 : decode cX7_sumPeople 3 = .ok (.istore_n 3, 1) := by decide +kernel
theorem dX7_sumPeople_4 : decode cX7_sumPeople 4 = .ok (.iload_n 3, 1) := by decide +kernel
theorem dX7_sumPeople_5 : decode cX7_sumPeople 5 = .ok (.aload_n 0, 1) := by decide +kernel
theorem dX7_sumPeople_6 : decode cX7_sumPeople 6 = .ok (.getfield 109, 3) := by decide +kernel
theorem dX7_sumPeople_9 : decode cX7_sumPeople 9 = .ok (.if_icmp .ge 15, 3) := by decide +kernel
theorem dX7_sumPeople_12 : decode cX7_sumPeople 12 = .ok (.iload_n 2, 1) := by decide +kernel
theorem dX7_sumPeople_13 : decode cX7_sumPeople 13 = .ok (.aload_n 1, 1) := by decide +kernel
theorem dX7_sumPeople_14 : decode cX7_sumPeople 14 = .ok (.iload_n 3, 1) := by decide +kernel
theorem dX7_sumPeople_15 : decode cX7_sumPeople 15 = .ok (.iaload, 1) := by decide +kernel
theorem dX7_sumPeople_16 : decode cX7_sumPeople 16 = .ok (.iadd, 1) := by decide +kernel
theorem dX7_sumPeople_17 : decode cX7_sumPeople 17 = .ok (.istore_n 2, 1) := by decide +kernel
theorem dX7_sumPeople_18 : decode cX7_sumPeople 18 = .ok (.iinc 3 1, 3) := by decide +kernel
theorem dX7_sumPeople_21 : decode cX7_sumPeople 21 = .ok (.goto (-17), 3) := by decide +kernel
theorem dX7_sumPeople_24 : decode cX7_sumPeople 24 = .ok (.iload_n 2, 1) := by decide +kernel
theorem dX7_sumPeople_25 : decode cX7_sumPeople 25 = .ok (.ireturn, 1) := by decide +kernel
theorem dX7_setNow_0 : decode cX7_setNow 0 = .ok (.iconst 0, 1) := by decide +kernel
theorem dX7_setNow_1 : decode cX7_setNow 1 = .ok (.istore_n 1, 1) := by decide +kernel
theorem dX7_setNow_2 : decode cX7_setNow 2 = .ok (.iconst 0, 1) := by decide +kernel
theorem dX7_setNow_3 : decode cX7_setNow 3 = .ok (.istore_n 2, 1) := by decide +kernel
theorem dX7_setNow_4 : decode cX7_setNow 4 = .ok (.iload_n 2, 1) := by decide +kernel
theorem dX7_setNow_5 : decode cX7_setNow 5 = .ok (.aload_n 0, 1) := by decide +kernel
theorem dX7_setNow_6 : decode cX7_setNow 6 = .ok (.getfield 112, 3) := by decide +kernel
theorem dX7_setNow_9 : decode cX7_setNow 9 = .ok (.if_icmp .ge 18, 3) := by decide +kernel
theorem dX7_setNow_12 : decode cX7_setNow 12 = .ok (.iload_n 1, 1) := by decide +kernel
theorem dX7_setNow_13 : decode cX7_setNow 13 = .ok (.aload_n 0, 1) := by decide +kernel
theorem dX7_setNow_14 : decode cX7_setNow 14 = .ok (.getfield 25, 3) := by decide +kernel
theorem dX7_setNow_17 : decode cX7_setNow 17 = .ok (.iload_n 2, 1) := by decide +kernel
theorem dX7_setNow_18 : decode cX7_setNow 18 = .ok (.iaload, 1) := by decide +kernel
theorem dX7_setNow_19 : decode cX7_setNow 19 = .ok (.iadd, 1) := by decide +kernel
theorem dX7_setNow_20 : decode cX7_setNow 20 = .ok (.istore_n 1, 1) := by decide +kernel
theorem dX7_setNow_21 : decode cX7_setNow 21 = .ok (.iinc 2 1, 3) := by decide +kernel
theorem dX7_setNow_24 : decode cX7_setNow 24 = .ok (.goto (-20), 3) := by decide +kernel
theorem dX7_setNow_27 : decode cX7_setNow 27 = .ok (.iload_n 1, 1) := by decide +kernel
theorem dX7_setNow_28 : decode cX7_setNow 28 = .ok (.ireturn, 1) := by decide +kernel
theorem dX7_fullBottles_0 : decode cX7_fullBottles 0 = .ok (.iconst 0, 1) := by decide +kernel
theorem dX7_fullBottles_1 : decode cX7_fullBottles 1 = .ok (.istore_n 1, 1) := by decide +kernel
theorem dX7_fullBottles_2 : decode cX7_fullBottles 2 = .ok (.iconst 0, 1) := by decide +kernel
theorem dX7_fullBottles_3 : decode cX7_fullBottles 3 = .ok (.istore_n 2, 1) := by decide +kernel
theorem dX7_fullBottles_4 : decode cX7_fullBottles 4 = .ok (.iload_n 2, 1) := by decide +kernel
theorem dX7_fullBottles_5 : decode cX7_fullBottles 5 = .ok (.iconst 4, 1) := by decide +kernel
theorem dX7_fullBottles_6 : decode cX7_fullBottles 6 = .ok (.if_icmp .ge 26, 3) := by decide +kernel
theorem dX7_fullBottles_9 : decode cX7_fullBottles 9 = .ok (.iload_n 1, 1) := by decide +kernel
theorem dX7_fullBottles_10 : decode cX7_fullBottles 10 = .ok (.aload_n 0, 1) := by decide +kernel
theorem dX7_fullBottles_11 : decode cX7_fullBottles 11 = .ok (.getfield 28, 3) := by decide +kernel
theorem dX7_fullBottles_14 : decode cX7_fullBottles 14 = .ok (.iload_n 2, 1) := by decide +kernel
theorem dX7_fullBottles_15 : decode cX7_fullBottles 15 = .ok (.iaload, 1) := by decide +kernel
theorem dX7_fullBottles_16 : decode cX7_fullBottles 16 = .ok (.ifCond .le 7, 3) := by decide +kernel
theorem dX7_fullBottles_19 : decode cX7_fullBottles 19 = .ok (.iconst 1, 1) := by decide +kernel
theorem dX7_fullBottles_20 : decode cX7_fullBottles 20 = .ok (.goto 4, 3) := by decide +kernel
theorem dX7_fullBottles_23 : decode cX7_fullBottles 23 = .ok (.iconst 0, 1) := by decide +kernel
theorem dX7_fullBottles_24 : decode cX7_fullBottles 24 = .ok (.iadd, 1) := by decide +kernel
theorem dX7_fullBottles_25 : decode cX7_fullBottles 25 = .ok (.istore_n 1, 1) := by decide +kernel
theorem dX7_fullBottles_26 : decode cX7_fullBottles 26 = .ok (.iinc 2 1, 3) := by decide +kernel
theorem dX7_fullBottles_29 : decode cX7_fullBottles 29 = .ok (.goto (-25), 3) := by decide +kernel
theorem dX7_fullBottles_32 : decode cX7_fullBottles 32 = .ok (.iload_n 1, 1) := by decide +kernel
theorem dX7_fullBottles_33 : decode cX7_fullBottles 33 = .ok (.ireturn, 1) := by decide +kernel
theorem dX7_countOf_0 : decode cX7_countOf 0 = .ok (.iload_n 1, 1) := by decide +kernel
theorem dX7_countOf_1 : decode cX7_countOf 1 = .ok (.tableswitch 94 0 7 #[47, 52, 57, 66, 71, 79, 84, 89], 47) := by decide +kernel
theorem dX7_countOf_48 : decode cX7_countOf 48 = .ok (.aload_n 0, 1) := by decide +kernel
theorem dX7_countOf_49 : decode cX7_countOf 49 = .ok (.getfield 109, 3) := by decide +kernel
theorem dX7_countOf_52 : decode cX7_countOf 52 = .ok (.ireturn, 1) := by decide +kernel
theorem dX7_countOf_53 : decode cX7_countOf 53 = .ok (.aload_n 0, 1) := by decide +kernel
theorem dX7_countOf_54 : decode cX7_countOf 54 = .ok (.getfield 112, 3) := by decide +kernel
theorem dX7_countOf_57 : decode cX7_countOf 57 = .ok (.ireturn, 1) := by decide +kernel
theorem dX7_countOf_58 : decode cX7_countOf 58 = .ok (.aload_n 0, 1) := by decide +kernel
theorem dX7_countOf_59 : decode cX7_countOf 59 = .ok (.aload_n 0, 1) := by decide +kernel
theorem dX7_countOf_60 : decode cX7_countOf 60 = .ok (.getfield 19, 3) := by decide +kernel
theorem dX7_countOf_63 : decode cX7_countOf 63 = .ok (.invokevirtual 288, 3) := by decide +kernel
theorem dX7_countOf_66 : decode cX7_countOf 66 = .ok (.ireturn, 1) := by decide +kernel
theorem dX7_countOf_67 : decode cX7_countOf 67 = .ok (.aload_n 0, 1) := by decide +kernel
theorem dX7_countOf_68 : decode cX7_countOf 68 = .ok (.invokevirtual 307, 3) := by decide +kernel
theorem dX7_countOf_71 : decode cX7_countOf 71 = .ok (.ireturn, 1) := by decide +kernel
theorem dX7_countOf_72 : decode cX7_countOf 72 = .ok (.aload_n 0, 1) := by decide +kernel
theorem dX7_countOf_73 : decode cX7_countOf 73 = .ok (.invokevirtual 166, 3) := by decide +kernel
theorem dX7_countOf_76 : decode cX7_countOf 76 = .ok (.invokestatic 169, 3) := by decide +kernel
theorem dX7_countOf_79 : decode cX7_countOf 79 = .ok (.ireturn, 1) := by decide +kernel
theorem dX7_countOf_80 : decode cX7_countOf 80 = .ok (.aload_n 0, 1) := by decide +kernel
theorem dX7_countOf_81 : decode cX7_countOf 81 = .ok (.invokevirtual 310, 3) := by decide +kernel
theorem dX7_countOf_84 : decode cX7_countOf 84 = .ok (.ireturn, 1) := by decide +kernel
theorem dX7_countOf_85 : decode cX7_countOf 85 = .ok (.aload_n 0, 1) := by decide +kernel
theorem dX7_countOf_86 : decode cX7_countOf 86 = .ok (.getfield 124, 3) := by decide +kernel
theorem dX7_countOf_89 : decode cX7_countOf 89 = .ok (.ireturn, 1) := by decide +kernel
theorem dX7_countOf_90 : decode cX7_countOf 90 = .ok (.aload_n 0, 1) := by decide +kernel
theorem dX7_countOf_91 : decode cX7_countOf 91 = .ok (.getfield 115, 3) := by decide +kernel
theorem dX7_countOf_94 : decode cX7_countOf 94 = .ok (.ireturn, 1) := by decide +kernel
theorem dX7_countOf_95 : decode cX7_countOf 95 = .ok (.aload_n 0, 1) := by decide +kernel
theorem dX7_countOf_96 : decode cX7_countOf 96 = .ok (.iload_n 1, 1) := by decide +kernel
theorem dX7_countOf_97 : decode cX7_countOf 97 = .ok (.invokevirtual 313, 3) := by decide +kernel
theorem dX7_countOf_100 : decode cX7_countOf 100 = .ok (.ireturn, 1) := by decide +kernel
theorem dX7_countMore_0 : decode cX7_countMore 0 = .ok (.iload_n 1, 1) := by decide +kernel
theorem dX7_countMore_1 : decode cX7_countMore 1 = .ok (.tableswitch 78 8 14 #[43, 48, 53, 58, 63, 68, 73], 43) := by decide +kernel
theorem dX7_countMore_44 : decode cX7_countMore 44 = .ok (.aload_n 0, 1) := by decide +kernel
theorem dX7_countMore_45 : decode cX7_countMore 45 = .ok (.getfield 118, 3) := by decide +kernel
theorem dX7_countMore_48 : decode cX7_countMore 48 = .ok (.ireturn, 1) := by decide +kernel
theorem dX7_countMore_49 : decode cX7_countMore 49 = .ok (.aload_n 0, 1) := by decide +kernel
theorem dX7_countMore_50 : decode cX7_countMore 50 = .ok (.getfield 121, 3) := by decide +kernel
theorem dX7_countMore_53 : decode cX7_countMore 53 = .ok (.ireturn, 1) := by decide +kernel
theorem dX7_countMore_54 : decode cX7_countMore 54 = .ok (.aload_n 0, 1) := by decide +kernel
theorem dX7_countMore_55 : decode cX7_countMore 55 = .ok (.getfield 127, 3) := by decide +kernel
theorem dX7_countMore_58 : decode cX7_countMore 58 = .ok (.ireturn, 1) := by decide +kernel
theorem dX7_countMore_59 : decode cX7_countMore 59 = .ok (.aload_n 0, 1) := by decide +kernel
theorem dX7_countMore_60 : decode cX7_countMore 60 = .ok (.getfield 80, 3) := by decide +kernel
theorem dX7_countMore_63 : decode cX7_countMore 63 = .ok (.ireturn, 1) := by decide +kernel
theorem dX7_countMore_64 : decode cX7_countMore 64 = .ok (.aload_n 0, 1) := by decide +kernel
theorem dX7_countMore_65 : decode cX7_countMore 65 = .ok (.getfield 130, 3) := by decide +kernel
theorem dX7_countMore_68 : decode cX7_countMore 68 = .ok (.ireturn, 1) := by decide +kernel
theorem dX7_countMore_69 : decode cX7_countMore 69 = .ok (.aload_n 0, 1) := by decide +kernel
theorem dX7_countMore_70 : decode cX7_countMore 70 = .ok (.getfield 253, 3) := by decide +kernel
theorem dX7_countMore_73 : decode cX7_countMore 73 = .ok (.ireturn, 1) := by decide +kernel
theorem dX7_countMore_74 : decode cX7_countMore 74 = .ok (.aload_n 0, 1) := by decide +kernel
theorem dX7_countMore_75 : decode cX7_countMore 75 = .ok (.getfield 262, 3) := by decide +kernel
theorem dX7_countMore_78 : decode cX7_countMore 78 = .ok (.ireturn, 1) := by decide +kernel
theorem dX7_countMore_79 : decode cX7_countMore 79 = .ok (.bipush (-102), 2) := by decide +kernel
theorem dX7_countMore_81 : decode cX7_countMore 81 = .ok (.ireturn, 1) := by decide +kernel
theorem dX7_count_0 : decode cX7_count 0 = .ok (.aload_n 0, 1) := by decide +kernel
theorem dX7_count_1 : decode cX7_count 1 = .ok (.iload_n 1, 1) := by decide +kernel
theorem dX7_count_2 : decode cX7_count 2 = .ok (.invokevirtual 316, 3) := by decide +kernel
theorem dX7_count_5 : decode cX7_count 5 = .ok (.ireturn, 1) := by decide +kernel
theorem dX7_say_0 : decode cX7_say 0 = .ok (.aload_n 0, 1) := by decide +kernel
theorem dX7_say_1 : decode cX7_say 1 = .ok (.ldc2_w 319, 3) := by decide +kernel
theorem dX7_say_4 : decode cX7_say 4 = .ok (.aload_n 0, 1) := by decide +kernel
theorem dX7_say_5 : decode cX7_say 5 = .ok (.getfield 321, 3) := by decide +kernel
theorem dX7_say_8 : decode cX7_say 8 = .ok (.lmul, 1) := by decide +kernel
theorem dX7_say_9 : decode cX7_say 9 = .ok (.lload_n 1, 1) := by decide +kernel
theorem dX7_say_10 : decode cX7_say 10 = .ok (.ladd, 1) := by decide +kernel
theorem dX7_say_11 : decode cX7_say 11 = .ok (.putfield 321, 3) := by decide +kernel
theorem dX7_say_14 : decode cX7_say 14 = .ok (.return_, 1) := by decide +kernel
theorem dX7_sayValley_0 : decode cX7_sayValley 0 = .ok (.iconst 0, 1) := by decide +kernel
theorem dX7_sayValley_1 : decode cX7_sayValley 1 = .ok (.istore_n 1, 1) := by decide +kernel
theorem dX7_sayValley_2 : decode cX7_sayValley 2 = .ok (.iload_n 1, 1) := by decide +kernel
theorem dX7_sayValley_3 : decode cX7_sayValley 3 = .ok (.bipush 6, 2) := by decide +kernel
theorem dX7_sayValley_5 : decode cX7_sayValley 5 = .ok (.if_icmp .ge 19, 3) := by decide +kernel
theorem dX7_sayValley_8 : decode cX7_sayValley 8 = .ok (.aload_n 0, 1) := by decide +kernel
theorem dX7_sayValley_9 : decode cX7_sayValley 9 = .ok (.aload_n 0, 1) := by decide +kernel
theorem dX7_sayValley_10 : decode cX7_sayValley 10 = .ok (.iload_n 1, 1) := by decide +kernel
theorem dX7_sayValley_11 : decode cX7_sayValley 11 = .ok (.invokevirtual 196, 3) := by decide +kernel
theorem dX7_sayValley_14 : decode cX7_sayValley 14 = .ok (.i2l, 1) := by decide +kernel
theorem dX7_sayValley_15 : decode cX7_sayValley 15 = .ok (.invokevirtual 325, 3) := by decide +kernel
theorem dX7_sayValley_18 : decode cX7_sayValley 18 = .ok (.iinc 1 1, 3) := by decide +kernel
theorem dX7_sayValley_21 : decode cX7_sayValley 21 = .ok (.goto (-19), 3) := by decide +kernel
theorem dX7_sayValley_24 : decode cX7_sayValley 24 = .ok (.iconst 0, 1) := by decide +kernel
theorem dX7_sayValley_25 : decode cX7_sayValley 25 = .ok (.istore_n 1, 1) := by decide +kernel
theorem dX7_sayValley_26 : decode cX7_sayValley 26 = .ok (.iload_n 1, 1) := by decide +kernel
theorem dX7_sayValley_27 : decode cX7_sayValley 27 = .ok (.iconst 4, 1) := by decide +kernel
theorem dX7_sayValley_28 : decode cX7_sayValley 28 = .ok (.if_icmp .ge 20, 3) := by decide +kernel
theorem dX7_sayValley_31 : decode cX7_sayValley 31 = .ok (.aload_n 0, 1) := by decide +kernel
theorem dX7_sayValley_32 : decode cX7_sayValley 32 = .ok (.aload_n 0, 1) := by decide +kernel
theorem dX7_sayValley_33 : decode cX7_sayValley 33 = .ok (.getfield 28, 3) := by decide +kernel
theorem dX7_sayValley_36 : decode cX7_sayValley 36 = .ok (.iload_n 1, 1) := by decide +kernel
theorem dX7_sayValley_37 : decode cX7_sayValley 37 = .ok (.iaload, 1) := by decide +kernel
theorem dX7_sayValley_38 : decode cX7_sayValley 38 = .ok (.i2l, 1) := by decide +kernel
theorem dX7_sayValley_39 : decode cX7_sayValley 39 = .ok (.invokevirtual 325, 3) := by decide +kernel
theorem dX7_sayValley_42 : decode cX7_sayValley 42 = .ok (.iinc 1 1, 3) := by decide +kernel
theorem dX7_sayValley_45 : decode cX7_sayValley 45 = .ok (.goto (-19), 3) := by decide +kernel
theorem dX7_sayValley_48 : decode cX7_sayValley 48 = .ok (.aload_n 0, 1) := by decide +kernel
theorem dX7_sayValley_49 : decode cX7_sayValley 49 = .ok (.aload_n 0, 1) := by decide +kernel
theorem dX7_sayValley_50 : decode cX7_sayValley 50 = .ok (.aload_n 0, 1) := by decide +kernel
theorem dX7_sayValley_51 : decode cX7_sayValley 51 = .ok (.invokevirtual 166, 3) := by decide +kernel
theorem dX7_sayValley_54 : decode cX7_sayValley 54 = .ok (.invokevirtual 268, 3) := by decide +kernel
theorem dX7_sayValley_57 : decode cX7_sayValley 57 = .ok (.i2l, 1) := by decide +kernel
theorem dX7_sayValley_58 : decode cX7_sayValley 58 = .ok (.invokevirtual 325, 3) := by decide +kernel
theorem dX7_sayValley_61 : decode cX7_sayValley 61 = .ok (.return_, 1) := by decide +kernel
theorem dX7_digest_0 : decode cX7_digest 0 = .ok (.aload_n 0, 1) := by decide +kernel
theorem dX7_digest_1 : decode cX7_digest 1 = .ok (.ldc2_w 329, 3) := by decide +kernel
theorem dX7_digest_4 : decode cX7_digest 4 = .ok (.putfield 321, 3) := by decide +kernel
theorem dX7_digest_7 : decode cX7_digest 7 = .ok (.iconst 0, 1) := by decide +kernel
theorem dX7_digest_8 : decode cX7_digest 8 = .ok (.istore_n 1, 1) := by decide +kernel
theorem dX7_digest_9 : decode cX7_digest 9 = .ok (.iload_n 1, 1) := by decide +kernel
theorem dX7_digest_10 : decode cX7_digest 10 = .ok (.aload_n 0, 1) := by decide +kernel
theorem dX7_digest_11 : decode cX7_digest 11 = .ok (.getfield 109, 3) := by decide +kernel
theorem dX7_digest_14 : decode cX7_digest 14 = .ok (.if_icmp .ge 40, 3) := by decide +kernel
theorem dX7_digest_17 : decode cX7_digest 17 = .ok (.iconst 0, 1) := by decide +kernel
theorem dX7_digest_18 : decode cX7_digest 18 = .ok (.istore_n 2, 1) := by decide +kernel
theorem dX7_digest_19 : decode cX7_digest 19 = .ok (.iload_n 2, 1) := by decide +kernel
theorem dX7_digest_20 : decode cX7_digest 20 = .ok (.bipush 13, 2) := by decide +kernel
theorem dX7_digest_22 : decode cX7_digest 22 = .ok (.if_icmp .ge 26, 3) := by decide +kernel
theorem dX7_digest_25 : decode cX7_digest 25 = .ok (.iload_n 2, 1) := by decide +kernel
theorem dX7_digest_26 : decode cX7_digest 26 = .ok (.bipush 9, 2) := by decide +kernel
theorem dX7_digest_28 : decode cX7_digest 28 = .ok (.if_icmp .eq 14, 3) := by decide +kernel
theorem dX7_digest_31 : decode cX7_digest 31 = .ok (.aload_n 0, 1) := by decide +kernel
theorem dX7_digest_32 : decode cX7_digest 32 = .ok (.aload_n 0, 1) := by decide +kernel
theorem dX7_digest_33 : decode cX7_digest 33 = .ok (.iload_n 1, 1) := by decide +kernel
theorem dX7_digest_34 : decode cX7_digest 34 = .ok (.iload_n 2, 1) := by decide +kernel
theorem dX7_digest_35 : decode cX7_digest 35 = .ok (.invokevirtual 191, 3) := by decide +kernel
theorem dX7_digest_38 : decode cX7_digest 38 = .ok (.i2l, 1) := by decide +kernel
theorem dX7_digest_39 : decode cX7_digest 39 = .ok (.invokevirtual 325, 3) := by decide +kernel
theorem dX7_digest_42 : decode cX7_digest 42 = .ok (.iinc 2 1, 3) := by decide +kernel
theorem dX7_digest_45 : decode cX7_digest 45 = .ok (.goto (-26), 3) := by decide +kernel
theorem dX7_digest_48 : decode cX7_digest 48 = .ok (.iinc 1 1, 3) := by decide +kernel
theorem dX7_digest_51 : decode cX7_digest 51 = .ok (.goto (-42), 3) := by decide +kernel
theorem dX7_digest_54 : decode cX7_digest 54 = .ok (.iconst 0, 1) := by decide +kernel
theorem dX7_digest_55 : decode cX7_digest 55 = .ok (.istore_n 1, 1) := by decide +kernel
theorem dX7_digest_56 : decode cX7_digest 56 = .ok (.iload_n 1, 1) := by decide +kernel
theorem dX7_digest_57 : decode cX7_digest 57 = .ok (.aload_n 0, 1) := by decide +kernel
theorem dX7_digest_58 : decode cX7_digest 58 = .ok (.getfield 112, 3) := by decide +kernel
theorem dX7_digest_61 : decode cX7_digest 61 = .ok (.if_icmp .ge 34, 3) := by decide +kernel
theorem dX7_digest_64 : decode cX7_digest 64 = .ok (.iconst 0, 1) := by decide +kernel
theorem dX7_digest_65 : decode cX7_digest 65 = .ok (.istore_n 2, 1) := by decide +kernel
theorem dX7_digest_66 : decode cX7_digest 66 = .ok (.iload_n 2, 1) := by decide +kernel
theorem dX7_digest_67 : decode cX7_digest 67 = .ok (.bipush 7, 2) := by decide +kernel
theorem dX7_digest_69 : decode cX7_digest 69 = .ok (.if_icmp .ge 20, 3) := by decide +kernel
theorem dX7_digest_72 : decode cX7_digest 72 = .ok (.aload_n 0, 1) := by decide +kernel
theorem dX7_digest_73 : decode cX7_digest 73 = .ok (.aload_n 0, 1) := by decide +kernel
theorem dX7_digest_74 : decode cX7_digest 74 = .ok (.iload_n 1, 1) := by decide +kernel
theorem dX7_digest_75 : decode cX7_digest 75 = .ok (.iload_n 2, 1) := by decide +kernel
theorem dX7_digest_76 : decode cX7_digest 76 = .ok (.invokevirtual 228, 3) := by decide +kernel
theorem dX7_digest_79 : decode cX7_digest 79 = .ok (.i2l, 1) := by decide +kernel
theorem dX7_digest_80 : decode cX7_digest 80 = .ok (.invokevirtual 325, 3) := by decide +kernel
theorem dX7_digest_83 : decode cX7_digest 83 = .ok (.iinc 2 1, 3) := by decide +kernel
theorem dX7_digest_86 : decode cX7_digest 86 = .ok (.goto (-20), 3) := by decide +kernel
theorem dX7_digest_89 : decode cX7_digest 89 = .ok (.iinc 1 1, 3) := by decide +kernel
theorem dX7_digest_92 : decode cX7_digest 92 = .ok (.goto (-36), 3) := by decide +kernel
theorem dX7_digest_95 : decode cX7_digest 95 = .ok (.aload_n 0, 1) := by decide +kernel
theorem dX7_digest_96 : decode cX7_digest 96 = .ok (.invokevirtual 133, 3) := by decide +kernel
theorem dX7_digest_99 : decode cX7_digest 99 = .ok (.ifCond .ne 7, 3) := by decide +kernel
theorem dX7_digest_102 : decode cX7_digest 102 = .ok (.aload_n 0, 1) := by decide +kernel
theorem dX7_digest_103 : decode cX7_digest 103 = .ok (.invokevirtual 331, 3) := by decide +kernel
theorem dX7_digest_106 : decode cX7_digest 106 = .ok (.iconst 0, 1) := by decide +kernel
theorem dX7_digest_107 : decode cX7_digest 107 = .ok (.istore_n 1, 1) := by decide +kernel
theorem dX7_digest_108 : decode cX7_digest 108 = .ok (.iload_n 1, 1) := by decide +kernel
theorem dX7_digest_109 : decode cX7_digest 109 = .ok (.aload_n 0, 1) := by decide +kernel
theorem dX7_digest_110 : decode cX7_digest 110 = .ok (.getfield 80, 3) := by decide +kernel
theorem dX7_digest_113 : decode cX7_digest 113 = .ok (.if_icmp .ge 20, 3) := by decide +kernel
theorem dX7_digest_116 : decode cX7_digest 116 = .ok (.aload_n 0, 1) := by decide +kernel
theorem dX7_digest_117 : decode cX7_digest 117 = .ok (.aload_n 0, 1) := by decide +kernel
theorem dX7_digest_118 : decode cX7_digest 118 = .ok (.getfield 7, 3) := by decide +kernel
theorem dX7_digest_121 : decode cX7_digest 121 = .ok (.iload_n 1, 1) := by decide +kernel
theorem dX7_digest_122 : decode cX7_digest 122 = .ok (.iaload, 1) := by decide +kernel
theorem dX7_digest_123 : decode cX7_digest 123 = .ok (.i2l, 1) := by decide +kernel
theorem dX7_digest_124 : decode cX7_digest 124 = .ok (.invokevirtual 325, 3) := by decide +kernel
theorem dX7_digest_127 : decode cX7_digest 127 = .ok (.iinc 1 1, 3) := by decide +kernel
theorem dX7_digest_130 : decode cX7_digest 130 = .ok (.goto (-22), 3) := by decide +kernel
theorem dX7_digest_133 : decode cX7_digest 133 = .ok (.iconst 0, 1) := by decide +kernel
theorem dX7_digest_134 : decode cX7_digest 134 = .ok (.istore_n 1, 1) := by decide +kernel
theorem dX7_digest_135 : decode cX7_digest 135 = .ok (.iload_n 1, 1) := by decide +kernel
theorem dX7_digest_136 : decode cX7_digest 136 = .ok (.bipush 15, 2) := by decide +kernel
theorem dX7_digest_138 : decode cX7_digest 138 = .ok (.if_icmp .ge 19, 3) := by decide +kernel
theorem dX7_digest_141 : decode cX7_digest 141 = .ok (.aload_n 0, 1) := by decide +kernel
theorem dX7_digest_142 : decode cX7_digest 142 = .ok (.aload_n 0, 1) := by decide +kernel
theorem dX7_digest_143 : decode cX7_digest 143 = .ok (.iload_n 1, 1) := by decide +kernel
theorem dX7_digest_144 : decode cX7_digest 144 = .ok (.invokevirtual 316, 3) := by decide +kernel
theorem dX7_digest_147 : decode cX7_digest 147 = .ok (.i2l, 1) := by decide +kernel
theorem dX7_digest_148 : decode cX7_digest 148 = .ok (.invokevirtual 325, 3) := by decide +kernel
theorem dX7_digest_151 : decode cX7_digest 151 = .ok (.iinc 1 1, 3) := by decide +kernel
theorem dX7_digest_154 : decode cX7_digest 154 = .ok (.goto (-19), 3) := by decide +kernel
theorem dX7_digest_157 : decode cX7_digest 157 = .ok (.aload_n 0, 1) := by decide +kernel
theorem dX7_digest_158 : decode cX7_digest 158 = .ok (.getfield 321, 3) := by decide +kernel
theorem dX7_digest_161 : decode cX7_digest 161 = .ok (.lreturn, 1) := by decide +kernel
end
section

/-! THE MEMORY: whole numbers by cell and place, and one long; the cells' addresses by X -/
def zI (z : Int) : Int32 := Int32.ofInt z
abbrev Mm_ : Type := (Nat → Nat → Int) × Int64
def mU (M : Mm_) (i j : Nat) (z : Int) : Mm_ := (fun a b => if a = i ∧ b = j then z else M.1 a b, M.2)
abbrev Lt_ : Type := va_G × (Nat → Nat) × ClassId × ClassId
def rN (r : Nat → Nat) : Value → Value
  | .ref i => .ref (r i)
  | v => v
def lyT : List (Nat × Nat × List Nat) := [(1, 5, [3, 5, 10, 21, 43, 0, 0, 0, 0]), (1, 1, [4, 0]), (0, 24, []), (1, 4, [6, 7, 8, 9, 0, 0]), (0, 4, []), (0, 4, []), (0, 12, []), (0, 6, []), (1, 3, [11, 12, 13, 14, 15, 16, 17, 0, 0, 0, 0]), (0, 4, []), (0, 4, []), (0, 4, []), (0, 4, []), (0, 4, []), (0, 4, []), (1, 2, [18, 19, 20, 0]), (0, 6, []), (0, 6, []), (0, 6, []), (1, 3, [22, 23, 24, 25, 26, 27, 28, 0, 0, 0, 0]), (0, 4, []), (0, 4, []), (0, 4, []), (0, 4, []), (0, 4, []), (0, 4, []), (1, 2, [29, 30, 31, 0]), (0, 6, []), (0, 6, []), (0, 6, []), (1, 3, [33, 34, 35, 36, 37, 38, 39, 0, 0, 0, 0]), (0, 4, []), (0, 4, []), (0, 4, []), (0, 4, []), (0, 4, []), (0, 4, []), (1, 2, [40, 41, 42, 0]), (0, 6, []), (0, 6, []), (0, 6, []), (1, 0, [32, 44, 45, 46, 0, 0]), (0, 3, []), (0, 3, []), (2, 3, [45, 46, 47]), (0, 4, []), (0, 4, []), (0, 4, []), (1, 6, [51, 0, 0, 0, 0, 0, 0, 0, 0, 0, 52, 53, 54, 55, 56, 57, 58, 59, 0, 60, 61, 0, 0, 62, 63, 0, 0, 0, 0, 0, 0, 0, 64, 65, 66, 67, 68, 69, 70, 1]), (0, 24, []), (0, 12, []), (0, 4, []), (0, 4, []), (0, 6, []), (0, 6, []), (0, 4, []), (0, 8, []), (0, 4, []), (0, 3, []), (0, 3, []), (0, 18, []), (0, 22, []), (0, 12, []), (0, 4, []), (0, 4, []), (0, 6, []), (0, 4, []), (0, 8, []), (0, 18, [])]
def fV (M : Mm_) (id j : Nat) : Nat → Value
  | 0 => .int (zI (M.1 id j))
  | 1 => .long M.2
  | k + 2 => .ref k
def fL (M : Mm_) (id : Nat) : Nat → List Nat → List Value
  | _, [] => []
  | j, c :: cs => fV M id j c :: fL M id (j + 1) cs
def cE (X : Lt_) (M : Mm_) (id : Nat) (t : Nat × Nat × List Nat) : va_E :=
  match t with
  | (0, n, _) => .inl (X.2.2.1, n, .inl (fun j => zI (M.1 id j)))
  | (1, ci, cs) => .inr (ci, (fL M id 0 cs).map (rN X.2.1))
  | (_, n, cs) => .inl (X.2.2.2, n, .inr (.inr (.inr (.inr (fun k => (cs[k]?).map X.2.1)))))
def wO (X : Lt_) (M : Mm_) : va_W := (List.range 69).map (fun i => (X.2.1 i, cE X M i (lyT.getD i (0, 0, []))))
theorem lyT_lt {i : Nat} {t : Nat × Nat × List Nat} (h : lyT[i]? = some t) : i < 69 := (List.getElem?_eq_some_iff.mp h).1
theorem wO_get {X : Lt_} {M : Mm_} {i : Nat} {t : Nat × Nat × List Nat} (h : lyT[i]? = some t) : (wO X M)[i]? = some (X.2.1 i, cE X M i t) := by
  have hi := lyT_lt h
  simp [wO, hi, List.getD, h]
theorem wO_of {X : Lt_} {M : Mm_} {i : Nat} {q : Nat × va_E} (h : (wO X M)[i]? = some q) : i < 69 ∧ q.1 = X.2.1 i := by
  have hi : i < 69 := by
    have := (List.getElem?_eq_some_iff.mp h).1
    simpa [wO] using this
  refine ⟨hi, ?_⟩
  simp [wO, hi] at h
  rw [← h]
theorem wO_set {X : Lt_} {M M' : Mm_} {i : Nat} {t : Nat × Nat × List Nat} (h : lyT[i]? = some t) (he : ∀ (j : Nat) (t' : Nat × Nat × List Nat), lyT[j]? = some t' → j ≠ i → cE X M' j t' = cE X M j t') : (wO X M).set i (X.2.1 i, cE X M' i t) = wO X M' := by
  have hi := lyT_lt h
  apply List.ext_getElem?
  intro j
  by_cases hj : j < 69
  · obtain ⟨t', ht'⟩ : ∃ t', lyT[j]? = some t' := ⟨lyT[j]'(by simpa [lyT] using hj), List.getElem?_eq_getElem _⟩
    rw [wO_get ht']
    by_cases hji : j = i
    · subst hji
      cases h.symm.trans ht'
      rw [List.getElem?_set_self (by simpa [wO] using hi)]
    · rw [List.getElem?_set_ne (Ne.symm hji), wO_get ht', he j t' ht' hji]
  · have h1 : (wO X M').length ≤ j := by simp [wO]; omega
    have h2 : ((wO X M).set i (X.2.1 i, cE X M' i t)).length ≤ j := by simp [wO]; omega
    rw [List.getElem?_eq_none h1, List.getElem?_eq_none h2]
theorem fL_congr {M M' : Mm_} {id : Nat} (h : M'.1 id = M.1 id) (h2 : M'.2 = M.2) : ∀ (j : Nat) (cs : List Nat), fL M' id j cs = fL M id j cs
  | _, [] => rfl
  | j, c :: cs => by
    have e : fV M' id j c = fV M id j c := by
      match c with
      | 0 => simp [fV, h]
      | 1 => simp [fV, h2]
      | k + 2 => rfl
    simp [fL, e, fL_congr h h2 (j + 1) cs]
theorem fL_get {M : Mm_} {id : Nat} : ∀ (cs : List Nat) (j k : Nat), (fL M id j cs)[k]? = (cs[k]?).map (fV M id (j + k))
  | [], _, _ => by simp [fL]
  | c :: cs, j, 0 => by simp [fL]
  | c :: cs, j, k + 1 => by
    simp only [fL, List.getElem?_cons_succ]
    rw [fL_get cs (j + 1) k, show j + 1 + k = j + (k + 1) by omega]
theorem fL_len {M : Mm_} {id : Nat} : ∀ (cs : List Nat) (j : Nat), (fL M id j cs).length = cs.length
  | [], _ => rfl
  | c :: cs, j => by simp [fL, fL_len cs (j + 1)]
theorem fL_set {M : Mm_} {id k : Nat} {z : Int} : ∀ (cs : List Nat) (j : Nat), cs[k]? = some 0 → (fL M id j cs).set k (.int (zI z)) = fL (mU M id (j + k) z) id j cs := by
  intro cs j hk
  apply List.ext_getElem?
  intro i
  by_cases hi : i = k
  · subst hi
    have hl : i < (fL M id j cs).length := by rw [fL_len]; exact (List.getElem?_eq_some_iff.mp hk).1
    rw [List.getElem?_set_self hl, fL_get, hk]
    simp [fV, mU]
  · rw [List.getElem?_set_ne (Ne.symm hi), fL_get, fL_get]
    congr 1
    funext c
    match c with
    | 0 => simp [fV, mU, hi]
    | 1 => simp [fV, mU]
    | k + 2 => rfl
theorem cE_congr {X : Lt_} {M M' : Mm_} {id : Nat} (h : M'.1 id = M.1 id) (h2 : M'.2 = M.2) (t : Nat × Nat × List Nat) : cE X M' id t = cE X M id t := by
  obtain ⟨a, b, cs⟩ := t
  match a with
  | 0 => simp [cE, h]
  | 1 => simp only [cE, fL_congr h h2]
  | a + 2 => rfl
theorem mU_ne {M : Mm_} {i j i' : Nat} {z : Int} (h : i' ≠ i) : (mU M i j z).1 i' = M.1 i' := by
  funext b
  simp [mU, h]
theorem wO_setf {X : Lt_} {M : Mm_} {i k ci : Nat} {cs : List Nat} {z : Int} (h : lyT[i]? = some (1, ci, cs)) (hk : cs[k]? = some 0) : (wO X M).set i (X.2.1 i, .inr (ci, ((fL M i 0 cs).map (rN X.2.1)).set k (.int (zI z)))) = wO X (mU M i k z) := by
  have e : (.inr (ci, ((fL M i 0 cs).map (rN X.2.1)).set k (.int (zI z))) : va_E) = cE X (mU M i k z) i (1, ci, cs) := by
    have e2 : ((fL M i 0 cs).map (rN X.2.1)).set k (.int (zI z)) = ((fL M i 0 cs).set k (.int (zI z))).map (rN X.2.1) := by
      rw [List.map_set]; rfl
    have e3 := fL_set (M := M) (id := i) (k := k) (z := z) cs 0 hk
    rw [Nat.zero_add] at e3
    rw [e2, e3]
    rfl
  rw [e]
  exact wO_set h (fun j t' _ hj => cE_congr (mU_ne hj) rfl t')
theorem lyT_l : ∀ (j : Nat) (t : Nat × Nat × List Nat), lyT[j]? = some t → j ≠ 48 → ¬ (1 ∈ t.2.2) := by
  have h : ∀ j, j < 69 → j ≠ 48 → ¬ (1 ∈ (lyT.getD j (0, 0, [])).2.2) := by decide +kernel
  intro j t ht hj
  have h1 := h j (lyT_lt ht) hj
  simpa [List.getD, ht] using h1
theorem fL_congrL {M : Mm_} {x : Int64} {id : Nat} : ∀ (j : Nat) (cs : List Nat), ¬ (1 ∈ cs) → fL (M.1, x) id j cs = fL M id j cs
  | _, [], _ => rfl
  | j, c :: cs, h => by
    have e : fV (M.1, x) id j c = fV M id j c := by
      match c with
      | 0 => rfl
      | 1 => simp at h
      | k + 2 => rfl
    simp only [List.mem_cons, not_or] at h
    simp [fL, e, fL_congrL (j + 1) cs h.2]
theorem wO_setl {X : Lt_} {M : Mm_} {x : Int64} {cs : List Nat} (h : lyT[48]? = some (1, 6, cs)) : (wO X M).set 48 (X.2.1 48, .inr (6, ((fL M 48 0 cs).map (rN X.2.1)).set 39 (.long x))) = wO X (M.1, x) := by
  have e : (.inr (6, ((fL M 48 0 cs).map (rN X.2.1)).set 39 (.long x)) : va_E) = cE X (M.1, x) 48 (1, 6, cs) := by
    have h2 : lyT[48]? = some (1, 6, (lyT.getD 48 (0, 0, [])).2.2) := by decide +kernel
    cases h.symm.trans h2
    rfl
  rw [e]
  refine wO_set h (fun j t' ht' hj => ?_)
  have h1 := lyT_l j t' ht' hj
  obtain ⟨a, b, cs'⟩ := t'
  match a with
  | 0 => rfl
  | 1 => simp only [cE]; rw [fL_congrL 0 cs' h1]
  | a + 2 => rfl
theorem wO_seta {X : Lt_} {M : Mm_} {i k n : Nat} {cs : List Nat} {z : Int} (h : lyT[i]? = some (0, n, cs)) : (wO X M).set i (X.2.1 i, .inl (X.2.2.1, n, .inl (upd (fun j => zI (M.1 i j)) k (zI z)))) = wO X (mU M i k z) := by
  have e : (.inl (X.2.2.1, n, .inl (upd (fun j => zI (M.1 i j)) k (zI z))) : va_E) = cE X (mU M i k z) i (0, n, cs) := by
    simp only [cE]
    congr 4
    funext j
    by_cases hj : j = k
    · subst hj; simp [upd, mU]
    · simp [upd, mU, hj]
  rw [e]
  exact wO_set h (fun j t' _ hj => cE_congr (mU_ne hj) rfl t')
/-- a copy of places -/
def mC (M : Mm_) (a i sp dp n : Nat) : Mm_ := (fun x y => if x = i ∧ dp ≤ y ∧ y < dp + n then M.1 a (sp + (y - dp)) else M.1 x y, M.2)
theorem wO_setc {X : Lt_} {M : Mm_} {a i n sp dp k : Nat} {cs : List Nat} (h : lyT[i]? = some (0, n, cs)) : (wO X M).set i (X.2.1 i, .inl (X.2.2.1, n, .inl (va_cpy (fun j => zI (M.1 a j)) (fun j => zI (M.1 i j)) sp dp k))) = wO X (mC M a i sp dp k) := by
  have e : (.inl (X.2.2.1, n, .inl (va_cpy (fun j => zI (M.1 a j)) (fun j => zI (M.1 i j)) sp dp k)) : va_E) = cE X (mC M a i sp dp k) i (0, n, cs) := by
    simp only [cE]
    congr 4
    funext j
    by_cases hj : dp ≤ j ∧ j < dp + k
    · simp [va_cpy, mC, hj]
    · simp [va_cpy, mC, hj]
  rw [e]
  refine wO_set h (fun j t' _ hj => cE_congr (M := M) (M' := mC M a i sp dp k) ?_ rfl t')
  funext b
  simp [mC, hj]
def AX (X : Lt_) : Nat → Prop := fun q => ∃ i : Nat, i < 69 ∧ q = X.2.1 i
theorem wO_D {X : Lt_} {M : Mm_} {A : Nat → Prop} (hinj : ∀ i j : Nat, i < 69 → j < 69 → X.2.1 i = X.2.1 j → i = j) (hA : ∀ q, AX X q → A q) : va_D A (wO X M) := by
  refine ⟨fun i j p q hi hj hpq => ?_, fun k q hk => ?_⟩
  · obtain ⟨h1, h2⟩ := wO_of hi
    obtain ⟨h3, h4⟩ := wO_of hj
    exact hinj i j h1 h3 (by rw [← h2, ← h4]; exact hpq)
  · obtain ⟨h1, h2⟩ := wO_of hk
    exact hA _ ⟨k, h1, h2⟩
/-! the words -/
def isN : Cond → Bool
  | .fieldLinkNest .. => true
  | .methodLinkNest .. => true
  | _ => false
def nsT : List Cond := lw_tbl.filter isN
def TB : List Cond := lw_tbl.filter goodWord
theorem TB_good : GoodIn TB TB := fun w hw => ⟨hw, good_of_word (List.mem_filter.mp hw).2⟩
theorem TB_mem {w : Cond} (h : w ∈ lw_tbl) (hg : goodWord w = true) : w ∈ TB := List.mem_filter.mpr ⟨h, hg⟩
theorem isN_warm {w : Cond} (hn : isN w = true) {s U : State} (hW : s.WarmedH U.vm) (h : va_Nw w s) : va_Nw w U := by
  cases w <;> first | exact va_Nw.warmF hW h | exact va_Nw.warmM hW h | (simp [isN] at hn)
theorem isN_tab {w : Cond} (hn : isN w = true) : w.onTables = true := by
  cases w <;> first | rfl | (simp [isN] at hn)
def wrT (j : Nat) : Int := if j = 0 then 4 else if j = 1 then 6 else 2
/-- what the statics and constants are -/
def St_ (X : Lt_) (A : Nat → Prop) (U : State) (H : Heap) : Prop :=
  va_Z "GrudgeRennet" "WORTHS" "[I" (.ref (X.2.1 100)) A U H ∧ va_T .int (X.2.1 100) 3 (fun j => .int (zI (wrT j))) A U H ∧ vk_R "GrudgeRennet$Page" 38 "psbtm" (X.2.1 101) U ∧ vk_R "GrudgeRennet$Valley" 40 "psbtm" (X.2.1 101) U ∧
  vk_S 1 [5] [[112, 115, 98, 116, 109]] (fun _ => X.2.1 101) (fun _ => X.2.1 102) A U H ∧ va_Z "java/lang/String" "COMPACT_STRINGS" "Z" (.int 1) A U H
def Kn (X : Lt_) (A : Nat → Prop) (U : State) (H : Heap) : Prop :=
  (∀ i j : Nat, i < 69 → j < 69 → X.2.1 i = X.2.1 j → i = j) ∧ va_K X.1 vwCl [(X.2.2.1, .int), (X.2.2.2, .array .int)] U ∧ (∀ w ∈ nsT, va_Nw w U) ∧ St_ X A U H
theorem Kn.warm {X : Lt_} {A : Nat → Prop} {s U : State} {H : Heap} (hW : s.WarmedH U.vm) (h : Kn X A s H) : Kn X A U H := by
  obtain ⟨h1, h2, h3, h4, h5, h6, h7, h8, h9⟩ := h
  exact ⟨h1, va_K.moved hW.alike h2, fun w hw => isN_warm (List.mem_filter.mp hw).2 hW (h3 w hw), va_Z.moved hW.alike h4, va_T.moved hW.alike h5, vk_R.warm hW h6, vk_R.warm hW h7, vk_S.moved hW.alike h8, va_Z.moved hW.alike h9⟩
theorem Kn.kept {X : Lt_} {A : Nat → Prop} {U : State} {H H1 : Heap} (h : Kn X A U H) (hq : ∀ a : Nat, a < H.size → ¬ A a → H1[a]? = H[a]?) : Kn X A U H1 := by
  obtain ⟨h1, h2, h3, h4, h5, h6, h7, h8, h9⟩ := h
  exact ⟨h1, h2, h3, h4.kept hq, h5.kept hq, h6, h7, h8.kept hq, h9.kept hq⟩
theorem Kn.narrow {X : Lt_} {A B : Nat → Prop} {U : State} {H : Heap} (h : Kn X A U H) (hAB : ∀ q, B q → A q) : Kn X B U H := by
  obtain ⟨h1, h2, h3, h4, h5, h6, h7, h8, h9⟩ := h
  exact ⟨h1, h2, h3, h4.narrow hAB, h5.narrow hAB, h6, h7, h8.narrow hAB, h9.narrow hAB⟩
theorem Kn.calling {X : Lt_} {A : Nat → Prop} {U : State} {H : Heap} (g : JFrame) (mk : MethodId) (a : Array Value) (h : Kn X A U H) : Kn X A (U.calling g mk a) H := by
  obtain ⟨h1, h2, h3, h4, h5, h6, h7, h8, h9⟩ := h
  have hvm : U.vm.Alike (U.calling g mk a).vm := Vm.Alike.refl U.vm
  exact ⟨h1, va_K.moved hvm h2, fun w hw => va_Nw.same (u := U) (U := U.calling g mk a) (isN_tab (List.mem_filter.mp hw).2) rfl (h3 w hw), va_Z.moved hvm h4, va_T.moved hvm h5, vk_R.same (u := U) (U := U.calling g mk a) rfl h6, vk_R.same (u := U) (U := U.calling g mk a) rfl h7, vk_S.moved hvm h8, va_Z.moved hvm h9⟩
end
section

/-! THE RULES: a method's walk in the memory's words -/
theorem rN_cat (r : Nat → Nat) (v : Value) : (rN r v).category = v.category := by cases v <;> rfl
def lH (r : Nat → Nat) (ls : Array Slot) (n : Nat) (lv : List Value) : Prop := ls.size = n ∧ lv_wf ls ∧ ∀ (i : Nat) (v : Value), lv[i]? = some v → v ≠ .null → ls[i]? = some (.val (rN r v))
def asc (r : Nat → Nat) (lv : List Value) : List (Nat × Value) := (List.range lv.length).filterMap (fun i => if lv[i]? = some .null then none else (lv[i]?).map (fun v => (i, rN r v)))
theorem asc_mem {r : Nat → Nat} {lv : List Value} {i : Nat} {v : Value} (h : lv[i]? = some v) (hn : v ≠ .null) : (i, rN r v) ∈ asc r lv := by
  refine List.mem_filterMap.mpr ⟨i, List.mem_range.mpr (List.getElem?_eq_some_iff.mp h).1, ?_⟩
  rw [if_neg (by rw [h]; exact fun q => hn (Option.some.inj q)), h]
  rfl
theorem asc_of {r : Nat → Nat} {lv : List Value} {q : Nat × Value} (h : q ∈ asc r lv) : ∃ v, lv[q.1]? = some v ∧ v ≠ .null ∧ q.2 = rN r v := by
  obtain ⟨i, -, hi⟩ := List.mem_filterMap.mp h
  split at hi
  · cases hi
  · rename_i hn
    cases hv : lv[i]? with
    | none => rw [hv] at hi; cases hi
    | some v =>
      rw [hv] at hi
      cases hi
      exact ⟨v, hv, fun q => hn (by rw [hv, q]), rfl⟩
theorem lH.has {r : Nat → Nat} {ls : Array Slot} {n : Nat} {lv : List Value} (h : lH r ls n lv) : lv_has ls n (asc r lv) := by
  refine ⟨h.1, h.2.1, fun q hq => ?_⟩
  obtain ⟨v, h1, h2, h3⟩ := asc_of hq
  rw [h3]
  exact h.2.2 _ v h1 h2
def nC (lv : List Value) : Nat → Bool
  | 0 => true
  | k + 1 => (lv.getD k .null).category != 2
theorem lH_st1 {r : Nat → Nat} {ls' : Array Slot} {n i : Nat} {lv : List Value} {v : Value} (hnc : nC lv i = true) (h : lv_has ls' n ((i, rN r v) :: (asc r lv).filter (fun q => !(q.1 == i) && !(q.1 + 1 == i && q.2.category == 2)))) : lH r ls' n (lv.set i v) := by
  refine ⟨h.1, h.2.1, fun j u hj hu => ?_⟩
  by_cases hji : j = i
  · subst hji
    have hl : j < lv.length := by
      have := (List.getElem?_eq_some_iff.mp hj).1
      simpa using this
    rw [List.getElem?_set_self hl] at hj
    cases hj
    exact h.2.2 (j, rN r v) List.mem_cons_self
  · rw [List.getElem?_set_ne (Ne.symm hji)] at hj
    refine h.2.2 (j, rN r u) (List.mem_cons_of_mem _ (List.mem_filter.mpr ⟨asc_mem hj hu, ?_⟩))
    have h1 : ¬ (j + 1 = i ∧ u.category = 2) := by
      rintro ⟨e1, e2⟩
      subst e1
      simp [nC, List.getD, hj, e2] at hnc
    simp only [rN_cat, Bool.and_eq_true, Bool.not_eq_true', beq_eq_false_iff_ne, ne_eq, Bool.and_eq_false_imp, beq_iff_eq]
    exact ⟨hji, fun e1 => by simpa using fun e2 => h1 ⟨e1, e2⟩⟩
theorem lH_st2 {r : Nat → Nat} {ls' : Array Slot} {n i : Nat} {lv : List Value} {v : Value} (hnc : nC lv i = true) (h : lv_has ls' n ((i, rN r v) :: (asc r lv).filter (fun q => !(q.1 == i) && (!(q.1 == i + 1) && !(q.1 + 1 == i && q.2.category == 2))))) : lH r ls' n ((lv.set i v).set (i + 1) .null) := by
  refine ⟨h.1, h.2.1, fun j u hj hu => ?_⟩
  by_cases hj1 : j = i + 1
  · subst hj1
    have hl : i + 1 < (lv.set i v).length := by
      have := (List.getElem?_eq_some_iff.mp hj).1
      simpa using this
    rw [List.getElem?_set_self hl] at hj
    cases hj
    exact absurd rfl hu
  rw [List.getElem?_set_ne (Ne.symm hj1)] at hj
  by_cases hji : j = i
  · subst hji
    have hl : j < lv.length := by
      have := (List.getElem?_eq_some_iff.mp hj).1
      simpa using this
    rw [List.getElem?_set_self hl] at hj
    cases hj
    exact h.2.2 (j, rN r v) List.mem_cons_self
  · rw [List.getElem?_set_ne (Ne.symm hji)] at hj
    refine h.2.2 (j, rN r u) (List.mem_cons_of_mem _ (List.mem_filter.mpr ⟨asc_mem hj hu, ?_⟩))
    have h1 : ¬ (j + 1 = i ∧ u.category = 2) := by
      rintro ⟨e1, e2⟩
      subst e1
      simp [nC, List.getD, hj, e2] at hnc
    simp only [rN_cat, Bool.and_eq_true, Bool.not_eq_true', beq_eq_false_iff_ne, ne_eq, Bool.and_eq_false_imp, beq_iff_eq]
    exact ⟨hji, hj1, fun e1 => by simpa using fun e2 => h1 ⟨e1, e2⟩⟩
abbrev GT : Type := Nat → List Value → List Value → Mm_ → Prop
def Gd (p : Program) (l : Launch) (e : Env) (R : Room) (s : State) (m : MethodId) (args : Array Value) (below : List Frame) (meth : Method) (c : Code) (cells slots : Nat) (Q : State → Prop) (X : Lt_) (A : Nat → Prop) (n : Nat) (pc : Nat) (lv stk : List Value) (M : Mm_) : Prop :=
  ∀ (H : Heap) (locs : List Loc) (ls : Array Slot), va_P X.1 vwCl (wO X M) H → va_S A s.heap H locs → lH X.2.1 ls n lv → W p l e R s m args below meth c H locs cells slots Q (F0 m pc ls (stk.map (rN X.2.1)))
def Cx (p : Program) (R : Room) (s : State) (m : MethodId) (args : Array Value) (c : Code) (cells slots : Nat) (X : Lt_) (A : Nat → Prop) (own : String) (cc : ByteArray) (n d : Nat) : Prop :=
  p.tables.exec = Jvm.exec ∧ c.code = cc ∧ c.maxLocals = n ∧ s.vm.findClass own = some m.cls ∧ (∀ w ∈ TB, w.before args s = true) ∧ Kn X A s s.heap ∧ (∀ q, AX X q → A q) ∧ d ≤ R.frames ∧ 60 * d ≤ R.locals ∧ cells ≤ R.cells ∧ slots ≤ R.slots
def Ru (G : GT) (own : String) (cc : ByteArray) (n d : Nat) : Prop := ∃ (p : Program) (l : Launch) (e : Env) (R : Room) (s : State) (m : MethodId) (args : Array Value) (below : List Frame) (meth : Method) (c : Code) (cells slots : Nat) (Q : State → Prop) (X : Lt_) (A : Nat → Prop),
  Cx p R s m args c cells slots X A own cc n d ∧ G = Gd p l e R s m args below meth c cells slots Q X A n
def rg (z : Int) : Prop := -2147483648 ≤ z ∧ z < 2147483648
theorem zI_add (a b : Int) : zI (a + b) = zI a + zI b := Int32.ofInt_add a b
theorem zI_sub (a b : Int) : zI (a - b) = zI a - zI b := Int32.ofInt_sub a b
theorem zI_mul (a b : Int) : zI (a * b) = zI a * zI b := Int32.ofInt_mul a b
theorem zI_toInt {a : Int} (h : rg a) : (zI a).toInt = a := Int32.toInt_ofInt_of_le h.1 h.2
theorem zI_of (x : Int32) : x = zI x.toInt := (Int32.ofInt_toInt x).symm
theorem rg_of (x : Int32) : rg x.toInt := ⟨Int32.le_toInt x, Int32.toInt_lt x⟩
theorem zI_lt {a b : Int} (ha : rg a) (hb : rg b) : zI a < zI b ↔ a < b := by rw [Int32.lt_iff_toInt_lt, zI_toInt ha, zI_toInt hb]
theorem zI_le {a b : Int} (ha : rg a) (hb : rg b) : zI a ≤ zI b ↔ a ≤ b := by rw [Int32.le_iff_toInt_le, zI_toInt ha, zI_toInt hb]
theorem zI_eq {a b : Int} (ha : rg a) (hb : rg b) : zI a = zI b ↔ a = b := by rw [← Int32.toInt_inj, zI_toInt ha, zI_toInt hb]
theorem zI_0 : zI 0 = 0 := rfl
theorem rg0 : rg 0 := ⟨by decide, by decide⟩
theorem zI_inj_in {z : Int} {k N : Nat} (hz : z = k) (hk : k < N) (hN : N < 2147483648) : vp_in (zI z) N := by
  subst hz
  rw [vp_in_iff, zI_toInt ⟨by omega, by omega⟩]
  omega
theorem zI_clamp {z : Int} {k N : Nat} (hz : z = k) (hk : k < N) (hN : N < 2147483648) : (zI z).toNatClampNeg = k := by
  show (zI z).toInt.toNat = k
  rw [zI_toInt ⟨by omega, by omega⟩, hz]
  rfl
theorem zI_nat (k : Nat) : zI (k : Int) = Int32.ofNat k := Int32.ofInt_eq_ofNat
theorem zI_div {a b : Int} (ha : 0 ≤ a) (hb : 0 < b) (ra : rg a) (rb : rg b) : zI a / zI b = zI (a / b) := by
  have h1 : a / b ≤ a := Int.ediv_le_self b ha
  have h0 : 0 ≤ a / b := Int.ediv_nonneg ha (by omega)
  have rd : rg (a / b) := ⟨by omega, by have := ra.2; omega⟩
  rw [← Int32.toInt_inj, Int32.toInt_div_of_ne_right, zI_toInt ra, zI_toInt rb, zI_toInt rd, Int.tdiv_eq_ediv_of_nonneg ha]
  intro h
  have := congrArg Int32.toInt h
  rw [zI_toInt rb] at this
  have e : (-1 : Int32).toInt = -1 := by decide
  omega
theorem zI_rem {a b : Int} (ha : 0 ≤ a) (hb : 0 < b) (ra : rg a) (rb : rg b) : zI a - zI a / zI b * zI b = zI (a % b) := by
  rw [zI_div ha hb ra rb, ← zI_mul, ← zI_sub]
  congr 1
  have h := Int.emod_def a b
  rw [Int.mul_comm] at h
  omega
theorem zI_ne0 {b : Int} (hb : b ≠ 0) (rb : rg b) : ¬ zI b = 0 := by
  rw [← zI_0, zI_eq rb rg0]
  exact hb

theorem r_iconst {G : GT} {own : String} {cc : ByteArray} {n d : Nat} (C : Ru G own cc n d) {pc : Nat} {lv stk : List Value} {M : Mm_} {k : Int} (hd : decode cc pc = .ok (.iconst k, 1)) (kk : G (pc + 1) lv (.int (zI k) :: stk) M) : G pc lv (stk) M := by
  obtain ⟨p, l, e, R, s, m, args, below, meth, c, cells, slots, Q, X, A, ⟨hx, hb, hml, hown, hts, hK, hA, hR1, hR2, hc, hs⟩, rfl⟩ := C
  intro H locs ls hP hS hl
  exact lv_iconst hx hb hd rfl (kk H locs ls hP hS hl)
theorem r_bipush {G : GT} {own : String} {cc : ByteArray} {n d : Nat} (C : Ru G own cc n d) {pc : Nat} {lv stk : List Value} {M : Mm_} {k : Int} (hv : (Int8.ofInt k).toInt32 = zI k) (hd : decode cc pc = .ok (.bipush k, 2)) (kk : G (pc + 2) lv (.int (zI k) :: stk) M) : G pc lv (stk) M := by
  obtain ⟨p, l, e, R, s, m, args, below, meth, c, cells, slots, Q, X, A, ⟨hx, hb, hml, hown, hts, hK, hA, hR1, hR2, hc, hs⟩, rfl⟩ := C
  intro H locs ls hP hS hl
  exact lv_bipush hx hb hd hv (kk H locs ls hP hS hl)
theorem r_sipush {G : GT} {own : String} {cc : ByteArray} {n d : Nat} (C : Ru G own cc n d) {pc : Nat} {lv stk : List Value} {M : Mm_} {k : Int} (hv : (Int16.ofInt k).toInt32 = zI k) (hd : decode cc pc = .ok (.sipush k, 3)) (kk : G (pc + 3) lv (.int (zI k) :: stk) M) : G pc lv (stk) M := by
  obtain ⟨p, l, e, R, s, m, args, below, meth, c, cells, slots, Q, X, A, ⟨hx, hb, hml, hown, hts, hK, hA, hR1, hR2, hc, hs⟩, rfl⟩ := C
  intro H locs ls hP hS hl
  exact lv_sipush hx hb hd hv (kk H locs ls hP hS hl)
theorem r_lconst {G : GT} {own : String} {cc : ByteArray} {n d : Nat} (C : Ru G own cc n d) {pc : Nat} {lv stk : List Value} {M : Mm_} {k : Fin 2} (hd : decode cc pc = .ok (.lconst k, 1)) (kk : G (pc + 1) lv (.long (Int64.ofNat (k : Nat)) :: stk) M) : G pc lv (stk) M := by
  obtain ⟨p, l, e, R, s, m, args, below, meth, c, cells, slots, Q, X, A, ⟨hx, hb, hml, hown, hts, hK, hA, hR1, hR2, hc, hs⟩, rfl⟩ := C
  intro H locs ls hP hS hl
  exact lv_lconst hx hb hd rfl (kk H locs ls hP hS hl)
theorem r_iload_n {G : GT} {own : String} {cc : ByteArray} {n d : Nat} (C : Ru G own cc n d) {pc : Nat} {lv stk : List Value} {M : Mm_} {k : Fin 4} {x : Int32} (hv : lv[(k : Nat)]? = some (.int x)) (hd : decode cc pc = .ok (.iload_n k, 1)) (kk : G (pc + 1) lv (.int x :: stk) M) : G pc lv (stk) M := by
  obtain ⟨p, l, e, R, s, m, args, below, meth, c, cells, slots, Q, X, A, ⟨hx, hb, hml, hown, hts, hK, hA, hR1, hR2, hc, hs⟩, rfl⟩ := C
  intro H locs ls hP hS hl
  exact lv_iload_n hx hb hd rfl (hl.2.2 _ _ hv (by intro q; cases q)) (kk H locs ls hP hS hl)
theorem r_iload {G : GT} {own : String} {cc : ByteArray} {n d : Nat} (C : Ru G own cc n d) {pc : Nat} {lv stk : List Value} {M : Mm_} {k : Nat} {x : Int32} (hv : lv[k]? = some (.int x)) (hd : decode cc pc = .ok (.iload k, 2)) (kk : G (pc + 2) lv (.int x :: stk) M) : G pc lv (stk) M := by
  obtain ⟨p, l, e, R, s, m, args, below, meth, c, cells, slots, Q, X, A, ⟨hx, hb, hml, hown, hts, hK, hA, hR1, hR2, hc, hs⟩, rfl⟩ := C
  intro H locs ls hP hS hl
  exact lv_iload hx hb hd (hl.2.2 _ _ hv (by intro q; cases q)) (kk H locs ls hP hS hl)
theorem r_lload_n {G : GT} {own : String} {cc : ByteArray} {n d : Nat} (C : Ru G own cc n d) {pc : Nat} {lv stk : List Value} {M : Mm_} {k : Fin 4} {x : Int64} (hv : lv[(k : Nat)]? = some (.long x)) (hd : decode cc pc = .ok (.lload_n k, 1)) (kk : G (pc + 1) lv (.long x :: stk) M) : G pc lv (stk) M := by
  obtain ⟨p, l, e, R, s, m, args, below, meth, c, cells, slots, Q, X, A, ⟨hx, hb, hml, hown, hts, hK, hA, hR1, hR2, hc, hs⟩, rfl⟩ := C
  intro H locs ls hP hS hl
  exact lv_lload_n hx hb hd rfl (hl.2.2 _ _ hv (by intro q; cases q)) (kk H locs ls hP hS hl)
theorem r_lload {G : GT} {own : String} {cc : ByteArray} {n d : Nat} (C : Ru G own cc n d) {pc : Nat} {lv stk : List Value} {M : Mm_} {k : Nat} {x : Int64} (hv : lv[k]? = some (.long x)) (hd : decode cc pc = .ok (.lload k, 2)) (kk : G (pc + 2) lv (.long x :: stk) M) : G pc lv (stk) M := by
  obtain ⟨p, l, e, R, s, m, args, below, meth, c, cells, slots, Q, X, A, ⟨hx, hb, hml, hown, hts, hK, hA, hR1, hR2, hc, hs⟩, rfl⟩ := C
  intro H locs ls hP hS hl
  exact lv_lload hx hb hd (hl.2.2 _ _ hv (by intro q; cases q)) (kk H locs ls hP hS hl)
theorem r_aload_n {G : GT} {own : String} {cc : ByteArray} {n d : Nat} (C : Ru G own cc n d) {pc : Nat} {lv stk : List Value} {M : Mm_} {k : Fin 4} {x : Nat} (hv : lv[(k : Nat)]? = some (.ref x)) (hd : decode cc pc = .ok (.aload_n k, 1)) (kk : G (pc + 1) lv (.ref x :: stk) M) : G pc lv (stk) M := by
  obtain ⟨p, l, e, R, s, m, args, below, meth, c, cells, slots, Q, X, A, ⟨hx, hb, hml, hown, hts, hK, hA, hR1, hR2, hc, hs⟩, rfl⟩ := C
  intro H locs ls hP hS hl
  exact lv_aload_n hx hb hd rfl (hl.2.2 _ _ hv (by intro q; cases q)) (kk H locs ls hP hS hl)
theorem r_aload {G : GT} {own : String} {cc : ByteArray} {n d : Nat} (C : Ru G own cc n d) {pc : Nat} {lv stk : List Value} {M : Mm_} {k : Nat} {x : Nat} (hv : lv[k]? = some (.ref x)) (hd : decode cc pc = .ok (.aload k, 2)) (kk : G (pc + 2) lv (.ref x :: stk) M) : G pc lv (stk) M := by
  obtain ⟨p, l, e, R, s, m, args, below, meth, c, cells, slots, Q, X, A, ⟨hx, hb, hml, hown, hts, hK, hA, hR1, hR2, hc, hs⟩, rfl⟩ := C
  intro H locs ls hP hS hl
  exact lv_aload hx hb hd (hl.2.2 _ _ hv (by intro q; cases q)) (kk H locs ls hP hS hl)
theorem r_istore_n {G : GT} {own : String} {cc : ByteArray} {n d : Nat} (C : Ru G own cc n d) {pc : Nat} {lv stk : List Value} {M : Mm_} {k : Fin 4} {x : Int32} (hd : decode cc pc = .ok (.istore_n k, 1)) (i : Nat) (hi : (k : Nat) = i) (hk : i < n) (hnc : nC lv i = true) (kk : G (pc + 1) (lv.set i (.int x)) stk M) : G pc lv (.int x :: stk) M := by
  obtain ⟨p, l, e, R, s, m, args, below, meth, c, cells, slots, Q, X, A, ⟨hx, hb, hml, hown, hts, hK, hA, hR1, hR2, hc, hs⟩, rfl⟩ := C
  subst hi
  intro H locs ls hP hS hl
  exact lv_istore_n hx hb hd rfl hl.has hk rfl (fun ls' h' => kk H locs ls' hP hS (lH_st1 (v := .int x) hnc h'))
theorem r_istore {G : GT} {own : String} {cc : ByteArray} {n d : Nat} (C : Ru G own cc n d) {pc : Nat} {lv stk : List Value} {M : Mm_} {k : Nat} {x : Int32} (hd : decode cc pc = .ok (.istore k, 2)) (i : Nat) (hi : (k : Nat) = i) (hk : i < n) (hnc : nC lv i = true) (kk : G (pc + 2) (lv.set i (.int x)) stk M) : G pc lv (.int x :: stk) M := by
  obtain ⟨p, l, e, R, s, m, args, below, meth, c, cells, slots, Q, X, A, ⟨hx, hb, hml, hown, hts, hK, hA, hR1, hR2, hc, hs⟩, rfl⟩ := C
  subst hi
  intro H locs ls hP hS hl
  exact lv_istore hx hb hd hl.has hk rfl (fun ls' h' => kk H locs ls' hP hS (lH_st1 (v := .int x) hnc h'))
theorem r_astore_n {G : GT} {own : String} {cc : ByteArray} {n d : Nat} (C : Ru G own cc n d) {pc : Nat} {lv stk : List Value} {M : Mm_} {k : Fin 4} {x : Nat} (hd : decode cc pc = .ok (.astore_n k, 1)) (i : Nat) (hi : (k : Nat) = i) (hk : i < n) (hnc : nC lv i = true) (kk : G (pc + 1) (lv.set i (.ref x)) stk M) : G pc lv (.ref x :: stk) M := by
  obtain ⟨p, l, e, R, s, m, args, below, meth, c, cells, slots, Q, X, A, ⟨hx, hb, hml, hown, hts, hK, hA, hR1, hR2, hc, hs⟩, rfl⟩ := C
  subst hi
  intro H locs ls hP hS hl
  exact lv_astore_n hx hb hd rfl hl.has hk rfl (fun ls' h' => kk H locs ls' hP hS (lH_st1 (v := .ref x) hnc h'))
theorem r_astore {G : GT} {own : String} {cc : ByteArray} {n d : Nat} (C : Ru G own cc n d) {pc : Nat} {lv stk : List Value} {M : Mm_} {k : Nat} {x : Nat} (hd : decode cc pc = .ok (.astore k, 2)) (i : Nat) (hi : (k : Nat) = i) (hk : i < n) (hnc : nC lv i = true) (kk : G (pc + 2) (lv.set i (.ref x)) stk M) : G pc lv (.ref x :: stk) M := by
  obtain ⟨p, l, e, R, s, m, args, below, meth, c, cells, slots, Q, X, A, ⟨hx, hb, hml, hown, hts, hK, hA, hR1, hR2, hc, hs⟩, rfl⟩ := C
  subst hi
  intro H locs ls hP hS hl
  exact lv_astore hx hb hd hl.has hk rfl (fun ls' h' => kk H locs ls' hP hS (lH_st1 (v := .ref x) hnc h'))
theorem r_lstore_n {G : GT} {own : String} {cc : ByteArray} {n d : Nat} (C : Ru G own cc n d) {pc : Nat} {lv stk : List Value} {M : Mm_} {k : Fin 4} {x : Int64} (hd : decode cc pc = .ok (.lstore_n k, 1)) (i : Nat) (hi : (k : Nat) = i) (hk : i + 1 < n) (hnc : nC lv i = true) (kk : G (pc + 1) ((lv.set i (.long x)).set (i + 1) .null) stk M) : G pc lv (.long x :: stk) M := by
  obtain ⟨p, l, e, R, s, m, args, below, meth, c, cells, slots, Q, X, A, ⟨hx, hb, hml, hown, hts, hK, hA, hR1, hR2, hc, hs⟩, rfl⟩ := C
  subst hi
  intro H locs ls hP hS hl
  exact lv_lstore_n hx hb hd rfl hl.has hk rfl (fun ls' h' => kk H locs ls' hP hS (lH_st2 (v := .long x) hnc h'))
theorem r_lstore {G : GT} {own : String} {cc : ByteArray} {n d : Nat} (C : Ru G own cc n d) {pc : Nat} {lv stk : List Value} {M : Mm_} {k : Nat} {x : Int64} (hd : decode cc pc = .ok (.lstore k, 2)) (i : Nat) (hi : (k : Nat) = i) (hk : i + 1 < n) (hnc : nC lv i = true) (kk : G (pc + 2) ((lv.set i (.long x)).set (i + 1) .null) stk M) : G pc lv (.long x :: stk) M := by
  obtain ⟨p, l, e, R, s, m, args, below, meth, c, cells, slots, Q, X, A, ⟨hx, hb, hml, hown, hts, hK, hA, hR1, hR2, hc, hs⟩, rfl⟩ := C
  subst hi
  intro H locs ls hP hS hl
  exact lv_lstore hx hb hd hl.has hk rfl (fun ls' h' => kk H locs ls' hP hS (lH_st2 (v := .long x) hnc h'))
theorem r_iinc {G : GT} {own : String} {cc : ByteArray} {n d : Nat} (C : Ru G own cc n d) {pc : Nat} {lv stk : List Value} {M : Mm_} {k : Nat} {i z : Int} (hd : decode cc pc = .ok (.iinc k i, 3)) (hv : lv[k]? = some (.int (zI z))) (hk : k < n) (hnc : nC lv k = true) (kk : G (pc + 3) (lv.set k (.int (zI (z + i)))) stk M) : G pc lv stk M := by
  obtain ⟨p, l, e, R, s, m, args, below, meth, c, cells, slots, Q, X, A, ⟨hx, hb, hml, hown, hts, hK, hA, hR1, hR2, hc, hs⟩, rfl⟩ := C
  intro H locs ls hP hS hl
  obtain ⟨j, hj⟩ := List.getElem?_of_mem (asc_mem (r := X.2.1) hv (by intro q; cases q))
  exact lv_iinc hx hb hd hl.has hj (show zI z + Int32.ofInt i = zI (z + i) from (zI_add z i).symm) hk rfl (fun ls' h' => kk H locs ls' hP hS (lH_st1 (v := .int (zI (z + i))) hnc h'))
theorem r_iadd {G : GT} {own : String} {cc : ByteArray} {n d : Nat} (C : Ru G own cc n d) {pc : Nat} {lv stk : List Value} {M : Mm_} {a b : Int} (hd : decode cc pc = .ok (.iadd, 1)) (kk : G (pc + 1) lv (.int (zI (a + b)) :: stk) M) : G pc lv (.int (zI b) :: .int (zI a) :: stk) M := by
  obtain ⟨p, l, e, R, s, m, args, below, meth, c, cells, slots, Q, X, A, ⟨hx, hb, hml, hown, hts, hK, hA, hR1, hR2, hc, hs⟩, rfl⟩ := C
  intro H locs ls hP hS hl
  refine lv_iadd hx hb hd ?_
  rw [← zI_add]
  exact kk H locs ls hP hS hl
theorem r_isub {G : GT} {own : String} {cc : ByteArray} {n d : Nat} (C : Ru G own cc n d) {pc : Nat} {lv stk : List Value} {M : Mm_} {a b : Int} (hd : decode cc pc = .ok (.isub, 1)) (kk : G (pc + 1) lv (.int (zI (a - b)) :: stk) M) : G pc lv (.int (zI b) :: .int (zI a) :: stk) M := by
  obtain ⟨p, l, e, R, s, m, args, below, meth, c, cells, slots, Q, X, A, ⟨hx, hb, hml, hown, hts, hK, hA, hR1, hR2, hc, hs⟩, rfl⟩ := C
  intro H locs ls hP hS hl
  refine lv_isub hx hb hd ?_
  rw [← zI_sub]
  exact kk H locs ls hP hS hl
theorem r_imul {G : GT} {own : String} {cc : ByteArray} {n d : Nat} (C : Ru G own cc n d) {pc : Nat} {lv stk : List Value} {M : Mm_} {a b : Int} (hd : decode cc pc = .ok (.imul, 1)) (kk : G (pc + 1) lv (.int (zI (a * b)) :: stk) M) : G pc lv (.int (zI b) :: .int (zI a) :: stk) M := by
  obtain ⟨p, l, e, R, s, m, args, below, meth, c, cells, slots, Q, X, A, ⟨hx, hb, hml, hown, hts, hK, hA, hR1, hR2, hc, hs⟩, rfl⟩ := C
  intro H locs ls hP hS hl
  refine lv_imul hx hb hd ?_
  rw [← zI_mul]
  exact kk H locs ls hP hS hl
theorem r_idiv {G : GT} {own : String} {cc : ByteArray} {n d : Nat} (C : Ru G own cc n d) {pc : Nat} {lv stk : List Value} {M : Mm_} {a b : Int} (ha : 0 ≤ a) (hb0 : 0 < b) (ra : rg a) (rb : rg b) (hd : decode cc pc = .ok (.idiv, 1)) (kk : G (pc + 1) lv (.int (zI (a / b)) :: stk) M) : G pc lv (.int (zI b) :: .int (zI a) :: stk) M := by
  obtain ⟨p, l, e, R, s, m, args, below, meth, c, cells, slots, Q, X, A, ⟨hx, hb, hml, hown, hts, hK, hA, hR1, hR2, hc, hs⟩, rfl⟩ := C
  intro H locs ls hP hS hl
  refine lv_idiv hx hb hd (zI_ne0 (by omega) rb) ?_
  rw [zI_div ha hb0 ra rb]
  exact kk H locs ls hP hS hl
theorem r_irem {G : GT} {own : String} {cc : ByteArray} {n d : Nat} (C : Ru G own cc n d) {pc : Nat} {lv stk : List Value} {M : Mm_} {a b : Int} (ha : 0 ≤ a) (hb0 : 0 < b) (ra : rg a) (rb : rg b) (hd : decode cc pc = .ok (.irem, 1)) (kk : G (pc + 1) lv (.int (zI (a % b)) :: stk) M) : G pc lv (.int (zI b) :: .int (zI a) :: stk) M := by
  obtain ⟨p, l, e, R, s, m, args, below, meth, c, cells, slots, Q, X, A, ⟨hx, hb, hml, hown, hts, hK, hA, hR1, hR2, hc, hs⟩, rfl⟩ := C
  intro H locs ls hP hS hl
  refine lv_irem hx hb hd (zI_ne0 (by omega) rb) ?_
  rw [zI_rem ha hb0 ra rb]
  exact kk H locs ls hP hS hl
theorem r_iand {G : GT} {own : String} {cc : ByteArray} {n d : Nat} (C : Ru G own cc n d) {pc : Nat} {lv stk : List Value} {M : Mm_} {x y : Int32} {v : Int} (hv : x &&& y = zI v) (hd : decode cc pc = .ok (.iand, 1)) (kk : G (pc + 1) lv (.int (zI v) :: stk) M) : G pc lv (.int y :: .int x :: stk) M := by
  obtain ⟨p, l, e, R, s, m, args, below, meth, c, cells, slots, Q, X, A, ⟨hx, hb, hml, hown, hts, hK, hA, hR1, hR2, hc, hs⟩, rfl⟩ := C
  intro H locs ls hP hS hl
  refine lv_iand hx hb hd ?_
  rw [hv]
  exact kk H locs ls hP hS hl
theorem r_ior {G : GT} {own : String} {cc : ByteArray} {n d : Nat} (C : Ru G own cc n d) {pc : Nat} {lv stk : List Value} {M : Mm_} {x y : Int32} {v : Int} (hv : x ||| y = zI v) (hd : decode cc pc = .ok (.ior, 1)) (kk : G (pc + 1) lv (.int (zI v) :: stk) M) : G pc lv (.int y :: .int x :: stk) M := by
  obtain ⟨p, l, e, R, s, m, args, below, meth, c, cells, slots, Q, X, A, ⟨hx, hb, hml, hown, hts, hK, hA, hR1, hR2, hc, hs⟩, rfl⟩ := C
  intro H locs ls hP hS hl
  refine lv_ior hx hb hd ?_
  rw [hv]
  exact kk H locs ls hP hS hl
theorem r_ixor {G : GT} {own : String} {cc : ByteArray} {n d : Nat} (C : Ru G own cc n d) {pc : Nat} {lv stk : List Value} {M : Mm_} {x y : Int32} {v : Int} (hv : x ^^^ y = zI v) (hd : decode cc pc = .ok (.ixor, 1)) (kk : G (pc + 1) lv (.int (zI v) :: stk) M) : G pc lv (.int y :: .int x :: stk) M := by
  obtain ⟨p, l, e, R, s, m, args, below, meth, c, cells, slots, Q, X, A, ⟨hx, hb, hml, hown, hts, hK, hA, hR1, hR2, hc, hs⟩, rfl⟩ := C
  intro H locs ls hP hS hl
  refine lv_ixor hx hb hd ?_
  rw [hv]
  exact kk H locs ls hP hS hl
theorem r_ishl {G : GT} {own : String} {cc : ByteArray} {n d : Nat} (C : Ru G own cc n d) {pc : Nat} {lv stk : List Value} {M : Mm_} {x y : Int32} {v : Int} (hv : x <<< (y &&& 31) = zI v) (hd : decode cc pc = .ok (.ishl, 1)) (kk : G (pc + 1) lv (.int (zI v) :: stk) M) : G pc lv (.int y :: .int x :: stk) M := by
  obtain ⟨p, l, e, R, s, m, args, below, meth, c, cells, slots, Q, X, A, ⟨hx, hb, hml, hown, hts, hK, hA, hR1, hR2, hc, hs⟩, rfl⟩ := C
  intro H locs ls hP hS hl
  refine lv_ishl hx hb hd ?_
  rw [hv]
  exact kk H locs ls hP hS hl
theorem r_ishr {G : GT} {own : String} {cc : ByteArray} {n d : Nat} (C : Ru G own cc n d) {pc : Nat} {lv stk : List Value} {M : Mm_} {x y : Int32} {v : Int} (hv : x >>> (y &&& 31) = zI v) (hd : decode cc pc = .ok (.ishr, 1)) (kk : G (pc + 1) lv (.int (zI v) :: stk) M) : G pc lv (.int y :: .int x :: stk) M := by
  obtain ⟨p, l, e, R, s, m, args, below, meth, c, cells, slots, Q, X, A, ⟨hx, hb, hml, hown, hts, hK, hA, hR1, hR2, hc, hs⟩, rfl⟩ := C
  intro H locs ls hP hS hl
  refine lv_ishr hx hb hd ?_
  rw [hv]
  exact kk H locs ls hP hS hl
theorem r_iushr {G : GT} {own : String} {cc : ByteArray} {n d : Nat} (C : Ru G own cc n d) {pc : Nat} {lv stk : List Value} {M : Mm_} {x y : Int32} {v : Int32} (hv : (x.toUInt32 >>> (y.toUInt32 &&& Int32.toUInt32 31)).toInt32 = v) (hd : decode cc pc = .ok (.iushr, 1)) (kk : G (pc + 1) lv (.int v :: stk) M) : G pc lv (.int y :: .int x :: stk) M := by
  obtain ⟨p, l, e, R, s, m, args, below, meth, c, cells, slots, Q, X, A, ⟨hx, hb, hml, hown, hts, hK, hA, hR1, hR2, hc, hs⟩, rfl⟩ := C
  intro H locs ls hP hS hl
  exact lv_iushr hx hb hd hv (kk H locs ls hP hS hl)
theorem r_iaddR {G : GT} {own : String} {cc : ByteArray} {n d : Nat} (C : Ru G own cc n d) {pc : Nat} {lv stk : List Value} {M : Mm_} {x y : Int32} (hd : decode cc pc = .ok (.iadd, 1)) (kk : G (pc + 1) lv (.int (x + y) :: stk) M) : G pc lv (.int y :: .int x :: stk) M := by
  obtain ⟨p, l, e, R, s, m, args, below, meth, c, cells, slots, Q, X, A, ⟨hx, hb, hml, hown, hts, hK, hA, hR1, hR2, hc, hs⟩, rfl⟩ := C
  intro H locs ls hP hS hl
  exact lv_iadd hx hb hd (kk H locs ls hP hS hl)
theorem r_isubR {G : GT} {own : String} {cc : ByteArray} {n d : Nat} (C : Ru G own cc n d) {pc : Nat} {lv stk : List Value} {M : Mm_} {x y : Int32} (hd : decode cc pc = .ok (.isub, 1)) (kk : G (pc + 1) lv (.int (x - y) :: stk) M) : G pc lv (.int y :: .int x :: stk) M := by
  obtain ⟨p, l, e, R, s, m, args, below, meth, c, cells, slots, Q, X, A, ⟨hx, hb, hml, hown, hts, hK, hA, hR1, hR2, hc, hs⟩, rfl⟩ := C
  intro H locs ls hP hS hl
  exact lv_isub hx hb hd (kk H locs ls hP hS hl)
theorem r_iandR {G : GT} {own : String} {cc : ByteArray} {n d : Nat} (C : Ru G own cc n d) {pc : Nat} {lv stk : List Value} {M : Mm_} {x y : Int32} (hd : decode cc pc = .ok (.iand, 1)) (kk : G (pc + 1) lv (.int (x &&& y) :: stk) M) : G pc lv (.int y :: .int x :: stk) M := by
  obtain ⟨p, l, e, R, s, m, args, below, meth, c, cells, slots, Q, X, A, ⟨hx, hb, hml, hown, hts, hK, hA, hR1, hR2, hc, hs⟩, rfl⟩ := C
  intro H locs ls hP hS hl
  exact lv_iand hx hb hd (kk H locs ls hP hS hl)
theorem r_ladd {G : GT} {own : String} {cc : ByteArray} {n d : Nat} (C : Ru G own cc n d) {pc : Nat} {lv stk : List Value} {M : Mm_} {x y : Int64} (hd : decode cc pc = .ok (.ladd, 1)) (kk : G (pc + 1) lv (.long (x + y) :: stk) M) : G pc lv (.long y :: .long x :: stk) M := by
  obtain ⟨p, l, e, R, s, m, args, below, meth, c, cells, slots, Q, X, A, ⟨hx, hb, hml, hown, hts, hK, hA, hR1, hR2, hc, hs⟩, rfl⟩ := C
  intro H locs ls hP hS hl
  exact lv_ladd hx hb hd (kk H locs ls hP hS hl)
theorem r_lsub {G : GT} {own : String} {cc : ByteArray} {n d : Nat} (C : Ru G own cc n d) {pc : Nat} {lv stk : List Value} {M : Mm_} {x y : Int64} (hd : decode cc pc = .ok (.lsub, 1)) (kk : G (pc + 1) lv (.long (x - y) :: stk) M) : G pc lv (.long y :: .long x :: stk) M := by
  obtain ⟨p, l, e, R, s, m, args, below, meth, c, cells, slots, Q, X, A, ⟨hx, hb, hml, hown, hts, hK, hA, hR1, hR2, hc, hs⟩, rfl⟩ := C
  intro H locs ls hP hS hl
  exact lv_lsub hx hb hd (kk H locs ls hP hS hl)
theorem r_lmul {G : GT} {own : String} {cc : ByteArray} {n d : Nat} (C : Ru G own cc n d) {pc : Nat} {lv stk : List Value} {M : Mm_} {x y : Int64} (hd : decode cc pc = .ok (.lmul, 1)) (kk : G (pc + 1) lv (.long (x * y) :: stk) M) : G pc lv (.long y :: .long x :: stk) M := by
  obtain ⟨p, l, e, R, s, m, args, below, meth, c, cells, slots, Q, X, A, ⟨hx, hb, hml, hown, hts, hK, hA, hR1, hR2, hc, hs⟩, rfl⟩ := C
  intro H locs ls hP hS hl
  exact lv_lmul hx hb hd (kk H locs ls hP hS hl)
theorem r_land {G : GT} {own : String} {cc : ByteArray} {n d : Nat} (C : Ru G own cc n d) {pc : Nat} {lv stk : List Value} {M : Mm_} {x y : Int64} (hd : decode cc pc = .ok (.land, 1)) (kk : G (pc + 1) lv (.long (x &&& y) :: stk) M) : G pc lv (.long y :: .long x :: stk) M := by
  obtain ⟨p, l, e, R, s, m, args, below, meth, c, cells, slots, Q, X, A, ⟨hx, hb, hml, hown, hts, hK, hA, hR1, hR2, hc, hs⟩, rfl⟩ := C
  intro H locs ls hP hS hl
  exact lv_land hx hb hd (kk H locs ls hP hS hl)
theorem r_lrem {G : GT} {own : String} {cc : ByteArray} {n d : Nat} (C : Ru G own cc n d) {pc : Nat} {lv stk : List Value} {M : Mm_} {x y : Int64} (hy : ¬ y = 0) (hd : decode cc pc = .ok (.lrem, 1)) (kk : G (pc + 1) lv (.long (x - x / y * y) :: stk) M) : G pc lv (.long y :: .long x :: stk) M := by
  obtain ⟨p, l, e, R, s, m, args, below, meth, c, cells, slots, Q, X, A, ⟨hx, hb, hml, hown, hts, hK, hA, hR1, hR2, hc, hs⟩, rfl⟩ := C
  intro H locs ls hP hS hl
  exact lv_lrem hx hb hd hy (kk H locs ls hP hS hl)
theorem r_i2l {G : GT} {own : String} {cc : ByteArray} {n d : Nat} (C : Ru G own cc n d) {pc : Nat} {lv stk : List Value} {M : Mm_} {x : Int32} (hd : decode cc pc = .ok (.i2l, 1)) (kk : G (pc + 1) lv (.long x.toInt64 :: stk) M) : G pc lv (.int x :: stk) M := by
  obtain ⟨p, l, e, R, s, m, args, below, meth, c, cells, slots, Q, X, A, ⟨hx, hb, hml, hown, hts, hK, hA, hR1, hR2, hc, hs⟩, rfl⟩ := C
  intro H locs ls hP hS hl
  exact lv_i2l hx hb hd rfl (kk H locs ls hP hS hl)
theorem r_l2i {G : GT} {own : String} {cc : ByteArray} {n d : Nat} (C : Ru G own cc n d) {pc : Nat} {lv stk : List Value} {M : Mm_} {x : Int64} (hd : decode cc pc = .ok (.l2i, 1)) (kk : G (pc + 1) lv (.int x.toInt32 :: stk) M) : G pc lv (.long x :: stk) M := by
  obtain ⟨p, l, e, R, s, m, args, below, meth, c, cells, slots, Q, X, A, ⟨hx, hb, hml, hown, hts, hK, hA, hR1, hR2, hc, hs⟩, rfl⟩ := C
  intro H locs ls hP hS hl
  exact lv_l2i hx hb hd rfl (kk H locs ls hP hS hl)
theorem r_i2c {G : GT} {own : String} {cc : ByteArray} {n d : Nat} (C : Ru G own cc n d) {pc : Nat} {lv stk : List Value} {M : Mm_} {x v : Int32} (hv : (x.toUInt32 % 65536).toInt32 = v) (hd : decode cc pc = .ok (.i2c, 1)) (kk : G (pc + 1) lv (.int v :: stk) M) : G pc lv (.int x :: stk) M := by
  obtain ⟨p, l, e, R, s, m, args, below, meth, c, cells, slots, Q, X, A, ⟨hx, hb, hml, hown, hts, hK, hA, hR1, hR2, hc, hs⟩, rfl⟩ := C
  intro H locs ls hP hS hl
  exact lv_i2c hx hb hd hv (kk H locs ls hP hS hl)
theorem r_lcmp {G : GT} {own : String} {cc : ByteArray} {n d : Nat} (C : Ru G own cc n d) {pc : Nat} {lv stk : List Value} {M : Mm_} {x y : Int64} (hd : decode cc pc = .ok (.lcmp, 1)) (kk : G (pc + 1) lv (.int (lg_cmp x y) :: stk) M) : G pc lv (.long y :: .long x :: stk) M := by
  obtain ⟨p, l, e, R, s, m, args, below, meth, c, cells, slots, Q, X, A, ⟨hx, hb, hml, hown, hts, hK, hA, hR1, hR2, hc, hs⟩, rfl⟩ := C
  intro H locs ls hP hS hl
  exact W.lcmp hx hb hd (kk H locs ls hP hS hl)
theorem r_dup {G : GT} {own : String} {cc : ByteArray} {n d : Nat} (C : Ru G own cc n d) {pc : Nat} {lv stk : List Value} {M : Mm_} {v : Value} (hv : v.category = 1) (hd : decode cc pc = .ok (.dup, 1)) (kk : G (pc + 1) lv (v :: v :: stk) M) : G pc lv (v :: stk) M := by
  obtain ⟨p, l, e, R, s, m, args, below, meth, c, cells, slots, Q, X, A, ⟨hx, hb, hml, hown, hts, hK, hA, hR1, hR2, hc, hs⟩, rfl⟩ := C
  intro H locs ls hP hS hl
  exact lv_dup hx hb hd (by rw [rN_cat]; exact hv) (kk H locs ls hP hS hl)
theorem r_pop {G : GT} {own : String} {cc : ByteArray} {n d : Nat} (C : Ru G own cc n d) {pc : Nat} {lv stk : List Value} {M : Mm_} {v : Value} (hv : v.category = 1) (hd : decode cc pc = .ok (.pop, 1)) (kk : G (pc + 1) lv (stk) M) : G pc lv (v :: stk) M := by
  obtain ⟨p, l, e, R, s, m, args, below, meth, c, cells, slots, Q, X, A, ⟨hx, hb, hml, hown, hts, hK, hA, hR1, hR2, hc, hs⟩, rfl⟩ := C
  intro H locs ls hP hS hl
  exact lv_pop hx hb hd (by rw [rN_cat]; exact hv) (kk H locs ls hP hS hl)
theorem r_dup2 {G : GT} {own : String} {cc : ByteArray} {n d : Nat} (C : Ru G own cc n d) {pc : Nat} {lv stk : List Value} {M : Mm_} {v u : Value} (hv : v.category = 1) (hu : u.category = 1) (hd : decode cc pc = .ok (.dup2, 1)) (kk : G (pc + 1) lv (v :: u :: v :: u :: stk) M) : G pc lv (v :: u :: stk) M := by
  obtain ⟨p, l, e, R, s, m, args, below, meth, c, cells, slots, Q, X, A, ⟨hx, hb, hml, hown, hts, hK, hA, hR1, hR2, hc, hs⟩, rfl⟩ := C
  intro H locs ls hP hS hl
  exact lv_dup2_11 hx hb hd (by rw [rN_cat]; exact hv) (by rw [rN_cat]; exact hu) (kk H locs ls hP hS hl)
theorem r_icmp_eq {G : GT} {own : String} {cc : ByteArray} {n d : Nat} (C : Ru G own cc n d) {pc : Nat} {lv stk : List Value} {M : Mm_} {a b : Int} {off : Int} {tgt : Nat} (hd : decode cc pc = .ok (.if_icmp .eq off, 3)) (ht : (pc : Int) + off = (tgt : Int)) (ha : rg a) (hb2 : rg b) (kt : a = b → G tgt lv stk M) (kf : ¬ (a = b) → G (pc + 3) lv stk M) : G pc lv (.int (zI b) :: .int (zI a) :: stk) M := by
  obtain ⟨p, l, e, R, s, m, args, below, meth, c, cells, slots, Q, X, A, ⟨hx, hb, hml, hown, hts, hK, hA, hR1, hR2, hc, hs⟩, rfl⟩ := C
  intro H locs ls hP hS hl
  have hi := zI_eq ha hb2
  exact lv_icmp_eq hx hb hd ht (fun q => kt (hi.mp q) H locs ls hP hS hl) (fun q => kf (fun z => q (hi.mpr z)) H locs ls hP hS hl)
theorem r_if_eq {G : GT} {own : String} {cc : ByteArray} {n d : Nat} (C : Ru G own cc n d) {pc : Nat} {lv stk : List Value} {M : Mm_} {a : Int} {off : Int} {tgt : Nat} (hd : decode cc pc = .ok (.ifCond .eq off, 3)) (ht : (pc : Int) + off = (tgt : Int)) (ha : rg a) (kt : a = 0 → G tgt lv stk M) (kf : ¬ (a = 0) → G (pc + 3) lv stk M) : G pc lv (.int (zI a) :: stk) M := by
  obtain ⟨p, l, e, R, s, m, args, below, meth, c, cells, slots, Q, X, A, ⟨hx, hb, hml, hown, hts, hK, hA, hR1, hR2, hc, hs⟩, rfl⟩ := C
  intro H locs ls hP hS hl
  have hi := zI_eq ha rg0
  exact lv_if_eq hx hb hd ht (fun q => kt (hi.mp q) H locs ls hP hS hl) (fun q => kf (fun z => q (hi.mpr z)) H locs ls hP hS hl)
theorem r_icmp_ne {G : GT} {own : String} {cc : ByteArray} {n d : Nat} (C : Ru G own cc n d) {pc : Nat} {lv stk : List Value} {M : Mm_} {a b : Int} {off : Int} {tgt : Nat} (hd : decode cc pc = .ok (.if_icmp .ne off, 3)) (ht : (pc : Int) + off = (tgt : Int)) (ha : rg a) (hb2 : rg b) (kt : ¬ a = b → G tgt lv stk M) (kf : a = b → G (pc + 3) lv stk M) : G pc lv (.int (zI b) :: .int (zI a) :: stk) M := by
  obtain ⟨p, l, e, R, s, m, args, below, meth, c, cells, slots, Q, X, A, ⟨hx, hb, hml, hown, hts, hK, hA, hR1, hR2, hc, hs⟩, rfl⟩ := C
  intro H locs ls hP hS hl
  have hi := zI_eq ha hb2
  exact lv_icmp_ne hx hb hd ht (fun q => kt (fun z => q (hi.mpr z)) H locs ls hP hS hl) (fun q => kf (hi.mp q) H locs ls hP hS hl)
theorem r_if_ne {G : GT} {own : String} {cc : ByteArray} {n d : Nat} (C : Ru G own cc n d) {pc : Nat} {lv stk : List Value} {M : Mm_} {a : Int} {off : Int} {tgt : Nat} (hd : decode cc pc = .ok (.ifCond .ne off, 3)) (ht : (pc : Int) + off = (tgt : Int)) (ha : rg a) (kt : ¬ a = 0 → G tgt lv stk M) (kf : a = 0 → G (pc + 3) lv stk M) : G pc lv (.int (zI a) :: stk) M := by
  obtain ⟨p, l, e, R, s, m, args, below, meth, c, cells, slots, Q, X, A, ⟨hx, hb, hml, hown, hts, hK, hA, hR1, hR2, hc, hs⟩, rfl⟩ := C
  intro H locs ls hP hS hl
  have hi := zI_eq ha rg0
  exact lv_if_ne hx hb hd ht (fun q => kt (fun z => q (hi.mpr z)) H locs ls hP hS hl) (fun q => kf (hi.mp q) H locs ls hP hS hl)
theorem r_icmp_lt {G : GT} {own : String} {cc : ByteArray} {n d : Nat} (C : Ru G own cc n d) {pc : Nat} {lv stk : List Value} {M : Mm_} {a b : Int} {off : Int} {tgt : Nat} (hd : decode cc pc = .ok (.if_icmp .lt off, 3)) (ht : (pc : Int) + off = (tgt : Int)) (ha : rg a) (hb2 : rg b) (kt : a < b → G tgt lv stk M) (kf : ¬ (a < b) → G (pc + 3) lv stk M) : G pc lv (.int (zI b) :: .int (zI a) :: stk) M := by
  obtain ⟨p, l, e, R, s, m, args, below, meth, c, cells, slots, Q, X, A, ⟨hx, hb, hml, hown, hts, hK, hA, hR1, hR2, hc, hs⟩, rfl⟩ := C
  intro H locs ls hP hS hl
  have hi := zI_lt ha hb2
  exact lv_icmp_lt hx hb hd ht (fun q => kt (hi.mp q) H locs ls hP hS hl) (fun q => kf (fun z => q (hi.mpr z)) H locs ls hP hS hl)
theorem r_if_lt {G : GT} {own : String} {cc : ByteArray} {n d : Nat} (C : Ru G own cc n d) {pc : Nat} {lv stk : List Value} {M : Mm_} {a : Int} {off : Int} {tgt : Nat} (hd : decode cc pc = .ok (.ifCond .lt off, 3)) (ht : (pc : Int) + off = (tgt : Int)) (ha : rg a) (kt : a < 0 → G tgt lv stk M) (kf : ¬ (a < 0) → G (pc + 3) lv stk M) : G pc lv (.int (zI a) :: stk) M := by
  obtain ⟨p, l, e, R, s, m, args, below, meth, c, cells, slots, Q, X, A, ⟨hx, hb, hml, hown, hts, hK, hA, hR1, hR2, hc, hs⟩, rfl⟩ := C
  intro H locs ls hP hS hl
  have hi := zI_lt ha rg0
  exact lv_if_lt hx hb hd ht (fun q => kt (hi.mp q) H locs ls hP hS hl) (fun q => kf (fun z => q (hi.mpr z)) H locs ls hP hS hl)
theorem r_icmp_ge {G : GT} {own : String} {cc : ByteArray} {n d : Nat} (C : Ru G own cc n d) {pc : Nat} {lv stk : List Value} {M : Mm_} {a b : Int} {off : Int} {tgt : Nat} (hd : decode cc pc = .ok (.if_icmp .ge off, 3)) (ht : (pc : Int) + off = (tgt : Int)) (ha : rg a) (hb2 : rg b) (kt : b ≤ a → G tgt lv stk M) (kf : ¬ (b ≤ a) → G (pc + 3) lv stk M) : G pc lv (.int (zI b) :: .int (zI a) :: stk) M := by
  obtain ⟨p, l, e, R, s, m, args, below, meth, c, cells, slots, Q, X, A, ⟨hx, hb, hml, hown, hts, hK, hA, hR1, hR2, hc, hs⟩, rfl⟩ := C
  intro H locs ls hP hS hl
  have hi := zI_le hb2 ha
  exact lv_icmp_ge hx hb hd ht (fun q => kt (hi.mp q) H locs ls hP hS hl) (fun q => kf (fun z => q (hi.mpr z)) H locs ls hP hS hl)
theorem r_if_ge {G : GT} {own : String} {cc : ByteArray} {n d : Nat} (C : Ru G own cc n d) {pc : Nat} {lv stk : List Value} {M : Mm_} {a : Int} {off : Int} {tgt : Nat} (hd : decode cc pc = .ok (.ifCond .ge off, 3)) (ht : (pc : Int) + off = (tgt : Int)) (ha : rg a) (kt : 0 ≤ a → G tgt lv stk M) (kf : ¬ (0 ≤ a) → G (pc + 3) lv stk M) : G pc lv (.int (zI a) :: stk) M := by
  obtain ⟨p, l, e, R, s, m, args, below, meth, c, cells, slots, Q, X, A, ⟨hx, hb, hml, hown, hts, hK, hA, hR1, hR2, hc, hs⟩, rfl⟩ := C
  intro H locs ls hP hS hl
  have hi := zI_le rg0 ha
  exact lv_if_ge hx hb hd ht (fun q => kt (hi.mp q) H locs ls hP hS hl) (fun q => kf (fun z => q (hi.mpr z)) H locs ls hP hS hl)
theorem r_icmp_gt {G : GT} {own : String} {cc : ByteArray} {n d : Nat} (C : Ru G own cc n d) {pc : Nat} {lv stk : List Value} {M : Mm_} {a b : Int} {off : Int} {tgt : Nat} (hd : decode cc pc = .ok (.if_icmp .gt off, 3)) (ht : (pc : Int) + off = (tgt : Int)) (ha : rg a) (hb2 : rg b) (kt : b < a → G tgt lv stk M) (kf : ¬ (b < a) → G (pc + 3) lv stk M) : G pc lv (.int (zI b) :: .int (zI a) :: stk) M := by
  obtain ⟨p, l, e, R, s, m, args, below, meth, c, cells, slots, Q, X, A, ⟨hx, hb, hml, hown, hts, hK, hA, hR1, hR2, hc, hs⟩, rfl⟩ := C
  intro H locs ls hP hS hl
  have hi := zI_lt hb2 ha
  exact lv_icmp_gt hx hb hd ht (fun q => kt (hi.mp q) H locs ls hP hS hl) (fun q => kf (fun z => q (hi.mpr z)) H locs ls hP hS hl)
theorem r_if_gt {G : GT} {own : String} {cc : ByteArray} {n d : Nat} (C : Ru G own cc n d) {pc : Nat} {lv stk : List Value} {M : Mm_} {a : Int} {off : Int} {tgt : Nat} (hd : decode cc pc = .ok (.ifCond .gt off, 3)) (ht : (pc : Int) + off = (tgt : Int)) (ha : rg a) (kt : 0 < a → G tgt lv stk M) (kf : ¬ (0 < a) → G (pc + 3) lv stk M) : G pc lv (.int (zI a) :: stk) M := by
  obtain ⟨p, l, e, R, s, m, args, below, meth, c, cells, slots, Q, X, A, ⟨hx, hb, hml, hown, hts, hK, hA, hR1, hR2, hc, hs⟩, rfl⟩ := C
  intro H locs ls hP hS hl
  have hi := zI_lt rg0 ha
  exact lv_if_gt hx hb hd ht (fun q => kt (hi.mp q) H locs ls hP hS hl) (fun q => kf (fun z => q (hi.mpr z)) H locs ls hP hS hl)
theorem r_icmp_le {G : GT} {own : String} {cc : ByteArray} {n d : Nat} (C : Ru G own cc n d) {pc : Nat} {lv stk : List Value} {M : Mm_} {a b : Int} {off : Int} {tgt : Nat} (hd : decode cc pc = .ok (.if_icmp .le off, 3)) (ht : (pc : Int) + off = (tgt : Int)) (ha : rg a) (hb2 : rg b) (kt : a ≤ b → G tgt lv stk M) (kf : ¬ (a ≤ b) → G (pc + 3) lv stk M) : G pc lv (.int (zI b) :: .int (zI a) :: stk) M := by
  obtain ⟨p, l, e, R, s, m, args, below, meth, c, cells, slots, Q, X, A, ⟨hx, hb, hml, hown, hts, hK, hA, hR1, hR2, hc, hs⟩, rfl⟩ := C
  intro H locs ls hP hS hl
  have hi := zI_le ha hb2
  exact lv_icmp_le hx hb hd ht (fun q => kt (hi.mp q) H locs ls hP hS hl) (fun q => kf (fun z => q (hi.mpr z)) H locs ls hP hS hl)
theorem r_if_le {G : GT} {own : String} {cc : ByteArray} {n d : Nat} (C : Ru G own cc n d) {pc : Nat} {lv stk : List Value} {M : Mm_} {a : Int} {off : Int} {tgt : Nat} (hd : decode cc pc = .ok (.ifCond .le off, 3)) (ht : (pc : Int) + off = (tgt : Int)) (ha : rg a) (kt : a ≤ 0 → G tgt lv stk M) (kf : ¬ (a ≤ 0) → G (pc + 3) lv stk M) : G pc lv (.int (zI a) :: stk) M := by
  obtain ⟨p, l, e, R, s, m, args, below, meth, c, cells, slots, Q, X, A, ⟨hx, hb, hml, hown, hts, hK, hA, hR1, hR2, hc, hs⟩, rfl⟩ := C
  intro H locs ls hP hS hl
  have hi := zI_le ha rg0
  exact lv_if_le hx hb hd ht (fun q => kt (hi.mp q) H locs ls hP hS hl) (fun q => kf (fun z => q (hi.mpr z)) H locs ls hP hS hl)
theorem r_goto {G : GT} {own : String} {cc : ByteArray} {n d : Nat} (C : Ru G own cc n d) {pc : Nat} {lv stk : List Value} {M : Mm_} {off : Int} {tgt : Nat} (hd : decode cc pc = .ok (.goto off, 3)) (ht : (pc : Int) + off = (tgt : Int)) (kk : G tgt lv stk M) : G pc lv stk M := by
  obtain ⟨p, l, e, R, s, m, args, below, meth, c, cells, slots, Q, X, A, ⟨hx, hb, hml, hown, hts, hK, hA, hR1, hR2, hc, hs⟩, rfl⟩ := C
  intro H locs ls hP hS hl
  exact lv_goto hx hb hd ht (kk H locs ls hP hS hl)
theorem r_tout {G : GT} {own : String} {cc : ByteArray} {n d : Nat} (C : Ru G own cc n d) {pc : Nat} {lv stk : List Value} {M : Mm_} {a : Int} {df lo hi : Int} {offs : Array Int} {len tgt : Nat} (hd : decode cc pc = .ok (.tableswitch df lo hi offs, len)) (ra : rg a) (h : a < lo ∨ hi < a) (ht : (pc : Int) + df = (tgt : Int)) (kk : G tgt lv stk M) : G pc lv (.int (zI a) :: stk) M := by
  obtain ⟨p, l, e, R, s, m, args, below, meth, c, cells, slots, Q, X, A, ⟨hx, hb, hml, hown, hts, hK, hA, hR1, hR2, hc, hs⟩, rfl⟩ := C
  intro H locs ls hP hS hl
  exact lv_tableOut hx hb hd (by rw [zI_toInt ra]; exact h) ht (kk H locs ls hP hS hl)
theorem r_tin {G : GT} {own : String} {cc : ByteArray} {n d : Nat} (C : Ru G own cc n d) {pc : Nat} {lv stk : List Value} {M : Mm_} {a : Int} {df lo hi : Int} {offs : Array Int} {off : Int} {len tgt : Nat} (hd : decode cc pc = .ok (.tableswitch df lo hi offs, len)) (ra : rg a) (h1 : ¬ a < lo) (h2 : ¬ hi < a) (ho : offs[(a - lo).toNat]? = some off) (ht : (pc : Int) + off = (tgt : Int)) (kk : G tgt lv stk M) : G pc lv (.int (zI a) :: stk) M := by
  obtain ⟨p, l, e, R, s, m, args, below, meth, c, cells, slots, Q, X, A, ⟨hx, hb, hml, hown, hts, hK, hA, hR1, hR2, hc, hs⟩, rfl⟩ := C
  intro H locs ls hP hS hl
  exact lv_tableIn hx hb hd (by rw [zI_toInt ra]; exact h1) (by rw [zI_toInt ra]; exact h2) (by rw [zI_toInt ra]; exact ho) ht (kk H locs ls hP hS hl)
theorem r_look {G : GT} {own : String} {cc : ByteArray} {n d : Nat} (C : Ru G own cc n d) {pc : Nat} {lv stk : List Value} {M : Mm_} {a : Int} {df : Int} {ps : Array (Int × Int)} {off : Int} {len tgt : Nat} (hd : decode cc pc = .ok (.lookupswitch df ps, len)) (ra : rg a) (hp : (ps.toList.zip (ps.toList.drop 1)).all (fun (a, next) => a.1 < next.1) = true) (ho : Op.lookupswitch.offset ps.toList df a = off) (ht : (pc : Int) + off = (tgt : Int)) (kk : G tgt lv stk M) : G pc lv (.int (zI a) :: stk) M := by
  obtain ⟨p, l, e, R, s, m, args, below, meth, c, cells, slots, Q, X, A, ⟨hx, hb, hml, hown, hts, hK, hA, hR1, hR2, hc, hs⟩, rfl⟩ := C
  intro H locs ls hP hS hl
  exact lv_lookup hx hb hd hp (by rw [zI_toInt ra]; exact ho) ht (kk H locs ls hP hS hl)

/-- a class by its number: its name, table, slots, types -/
def cT : Nat → String × u_T × Nat × (Nat → FieldType)
  | 0 => (RX0, TX0, 6, tyX0)
  | 1 => (RX1, TX1, 2, tyX1)
  | 2 => (RX2, TX2, 4, tyX2)
  | 3 => (RX3, TX3, 11, tyX3)
  | 4 => (RX5, TX5, 6, tyX5)
  | 5 => (RX6, TX6, 9, tyX6)
  | _ => (RX7, TX7, 40, tyX7)
theorem cT_ok {ci : Nat} (h : ci < 7) : vwCl[ci]? = some ((cT ci).1, (cT ci).2.1, (cT ci).2.2.1) ∧ (∀ w ∈ u_ws (cT ci).1 (cT ci).2.1 (cT ci).2.2.1, w ∈ TB) ∧ (∀ k, k < (cT ci).2.2.1 → parseFieldDescriptor ((cT ci).2.1 k).2.2.1 = some ((cT ci).2.2.2 k)) ∧ (∀ a, a < (cT ci).2.2.1 → ∀ b, b < (cT ci).2.2.1 → a ≠ b → ((cT ci).2.1 a).2.1 ≠ ((cT ci).2.1 b).2.1) := by
  rcases (show ci = 0 ∨ ci = 1 ∨ ci = 2 ∨ ci = 3 ∨ ci = 4 ∨ ci = 5 ∨ ci = 6 by omega) with rfl | rfl | rfl | rfl | rfl | rfl | rfl
  · exact ⟨rfl, by decide +kernel, tyX0_ok, nmX0⟩
  · exact ⟨rfl, by decide +kernel, tyX1_ok, nmX1⟩
  · exact ⟨rfl, by decide +kernel, tyX2_ok, nmX2⟩
  · exact ⟨rfl, by decide +kernel, tyX3_ok, nmX3⟩
  · exact ⟨rfl, by decide +kernel, tyX5_ok, nmX5⟩
  · exact ⟨rfl, by decide +kernel, tyX6_ok, nmX6⟩
  · exact ⟨rfl, by decide +kernel, tyX7_ok, nmX7⟩
theorem lyT_ci {i ci : Nat} {cs : List Nat} (h : lyT[i]? = some (1, ci, cs)) : ci < 7 ∧ cs.length = (cT ci).2.2.1 := by
  have hq : ∀ j, j < 69 → (lyT.getD j (0, 0, [])).1 = 1 → (lyT.getD j (0, 0, [])).2.1 < 7 ∧ (lyT.getD j (0, 0, [])).2.2.length = (cT (lyT.getD j (0, 0, [])).2.1).2.2.1 := by decide +kernel
  have h1 := hq i (lyT_lt h)
  rw [show lyT.getD i (0, 0, []) = (1, ci, cs) by simp [List.getD, h]] at h1
  exact h1 rfl
/-- the link of a field: own's entry idx is field k of class ci -/
def FL (own : String) (idx ci k : Nat) : Prop := k < (cT ci).2.2.1 ∧ (Cond.fieldLink own idx ((cT ci).2.1 k).1 ((cT ci).2.1 k).2.1 ((cT ci).2.1 k).2.2.1 ∈ TB ∨ Cond.fieldLinkNest own idx ((cT ci).2.1 k).1 ((cT ci).2.1 k).2.1 ((cT ci).2.1 k).2.2.1 "GrudgeRennet" ∈ nsT)
theorem fL_at {X : Lt_} {M : Mm_} {i k c : Nat} {cs : List Nat} (hk : cs[k]? = some c) : ((fL M i 0 cs).map (rN X.2.1))[k]? = some (rN X.2.1 (fV M i k c)) := by
  rw [List.getElem?_map, fL_get, hk]
  simp

theorem r_get {G : GT} {own : String} {cc : ByteArray} {n d : Nat} (C : Ru G own cc n d) {pc : Nat} {lv stk : List Value} {M : Mm_} {idx i ci k cd : Nat} {cs : List Nat} (hd : decode cc pc = .ok (.getfield idx, 3)) (hf : FL own idx ci k) (hi : lyT[i]? = some (1, ci, cs)) (hk : cs[k]? = some cd) (kk : G (pc + 3) lv (fV M i k cd :: stk) M) : G pc lv (.ref i :: stk) M := by
  obtain ⟨p, l, e, R, s, m, args, below, meth, c, cells, slots, Q, X, A, ⟨hx, hb, hml, hown, hts, hK, hA, hR1, hR2, hc, hs⟩, rfl⟩ := C
  intro H locs ls hP hS hl
  obtain ⟨h1, h2, h3, h4⟩ := cT_ok (lyT_ci hi).1
  obtain ⟨hkN, hw | hw⟩ := hf
  · exact va_get (Ts := TB) hx hb hts h2 hown hK.2.1 hP i (wO_get hi) h1 k hkN (hts _ hw) (fun _ h9 => h9) (fL_at hk) hd (kk H locs ls hP hS hl)
  · exact va_getN (Ts := TB) hx hb hts h2 hown hK.2.1 hP i (wO_get hi) h1 k hkN (va_Nw.use rfl (hK.2.2.1 _ hw)) (fun _ h9 => h9) (fL_at hk) hd (kk H locs ls hP hS hl)
theorem r_geti {G : GT} {own : String} {cc : ByteArray} {n d : Nat} (C : Ru G own cc n d) {pc : Nat} {lv stk : List Value} {M : Mm_} {idx i ci k : Nat} {cs : List Nat} (hd : decode cc pc = .ok (.getfield idx, 3)) (hf : FL own idx ci k) (hi : lyT[i]? = some (1, ci, cs)) (hk : cs[k]? = some 0) (kk : G (pc + 3) lv (.int (zI (M.1 i k)) :: stk) M) : G pc lv (.ref i :: stk) M := r_get C hd hf hi hk kk
theorem r_getr {G : GT} {own : String} {cc : ByteArray} {n d : Nat} (C : Ru G own cc n d) {pc : Nat} {lv stk : List Value} {M : Mm_} {idx i ci k j : Nat} {cs : List Nat} (hd : decode cc pc = .ok (.getfield idx, 3)) (hf : FL own idx ci k) (hi : lyT[i]? = some (1, ci, cs)) (hk : cs[k]? = some (j + 2)) (kk : G (pc + 3) lv (.ref j :: stk) M) : G pc lv (.ref i :: stk) M := r_get C hd hf hi hk kk
theorem r_getl {G : GT} {own : String} {cc : ByteArray} {n d : Nat} (C : Ru G own cc n d) {pc : Nat} {lv stk : List Value} {M : Mm_} {idx i ci k : Nat} {cs : List Nat} (hd : decode cc pc = .ok (.getfield idx, 3)) (hf : FL own idx ci k) (hi : lyT[i]? = some (1, ci, cs)) (hk : cs[k]? = some 1) (kk : G (pc + 3) lv (.long M.2 :: stk) M) : G pc lv (.ref i :: stk) M := r_get C hd hf hi hk kk
theorem r_put {G : GT} {own : String} {cc : ByteArray} {n d : Nat} (C : Ru G own cc n d) {pc : Nat} {lv stk : List Value} {M : Mm_} {idx i ci k : Nat} {z : Int} {cs : List Nat} (hd : decode cc pc = .ok (.putfield idx, 3)) (hf : FL own idx ci k) (hfin : ((cT ci).2.1 k).2.2.2 = false) (hty : (cT ci).2.2.2 k = .int ∨ ((cT ci).2.2.2 k = .boolean ∧ (z = 0 ∨ z = 1))) (hi : lyT[i]? = some (1, ci, cs)) (hk : cs[k]? = some 0) (kk : G (pc + 3) lv stk (mU M i k z)) : G pc lv (.int (zI z) :: .ref i :: stk) M := by
  obtain ⟨p, l, e, R, s, m, args, below, meth, c, cells, slots, Q, X, A, ⟨hx, hb, hml, hown, hts, hK, hA, hR1, hR2, hc, hs⟩, rfl⟩ := C
  intro H locs ls hP hS hl
  obtain ⟨h1, h2, h3, h4⟩ := cT_ok (lyT_ci hi).1
  have hD : va_D A (wO X M) := wO_D hK.1 hA
  have hlen : k < ((fL M i 0 cs).map (rN X.2.1)).length := by rw [List.length_map, fL_len]; exact (List.getElem?_eq_some_iff.mp hk).1
  have hnf : narrow ((cT ci).2.2.2 k) (.int (zI z)) = .int (zI z) ∧ fits ((cT ci).2.2.2 k) (.int (zI z)) = true := by
    rcases hty with e | ⟨e, rfl | rfl⟩ <;> rw [e] <;> exact ⟨rfl, rfl⟩
  have fin : ∀ (H1 : Heap) (locs1 : List Loc), va_P X.1 vwCl ((wO X M).set i (X.2.1 i, .inr (ci, ((fL M i 0 cs).map (rN X.2.1)).set k (.int (zI z))))) H1 → va_D A ((wO X M).set i (X.2.1 i, .inr (ci, ((fL M i 0 cs).map (rN X.2.1)).set k (.int (zI z))))) → va_S A s.heap H1 locs1 → W p l e R s m args below meth c H1 locs1 cells slots Q (F0 m (pc + 3) ls (stk.map (rN X.2.1))) := by
    intro H1 locs1 q1 _ q3
    rw [wO_setf hi hk] at q1
    exact kk H1 locs1 ls q1 q3 hl
  obtain ⟨hkN, hw | hw⟩ := hf
  · exact va_put (Ts := TB) hx hb hts h2 _ h3 h4 hown hK.2.1 hP hD hS i (wO_get hi) h1 k hkN (hts _ hw) (fun _ h9 => h9) hfin (h3 k hkN) hnf.1 hnf.2 hlen hd fin
  · exact va_putN (Ts := TB) hx hb hts h2 _ h3 h4 hown hK.2.1 hP hD hS i (wO_get hi) h1 k hkN (va_Nw.use rfl (hK.2.2.1 _ hw)) (fun _ h9 => h9) hfin (h3 k hkN) hnf.1 hnf.2 hlen hd fin
theorem r_putL {G : GT} {own : String} {cc : ByteArray} {n d : Nat} (C : Ru G own cc n d) {pc : Nat} {lv stk : List Value} {M : Mm_} {idx : Nat} {x : Int64} (hd : decode cc pc = .ok (.putfield idx, 3)) (hf : FL own idx 6 39) (kk : G (pc + 3) lv stk (M.1, x)) : G pc lv (.long x :: .ref 48 :: stk) M := by
  obtain ⟨p, l, e, R, s, m, args, below, meth, c, cells, slots, Q, X, A, ⟨hx, hb, hml, hown, hts, hK, hA, hR1, hR2, hc, hs⟩, rfl⟩ := C
  intro H locs ls hP hS hl
  have hi : lyT[48]? = some (1, 6, (lyT.getD 48 (0, 0, [])).2.2) := by decide +kernel
  obtain ⟨h1, h2, h3, h4⟩ := cT_ok (show 6 < 7 by decide)
  have hD : va_D A (wO X M) := wO_D hK.1 hA
  have hlen : 39 < ((fL M 48 0 (lyT.getD 48 (0, 0, [])).2.2).map (rN X.2.1)).length := by rw [List.length_map, fL_len]; decide
  have fin : ∀ (H1 : Heap) (locs1 : List Loc), va_P X.1 vwCl ((wO X M).set 48 (X.2.1 48, .inr (6, ((fL M 48 0 (lyT.getD 48 (0, 0, [])).2.2).map (rN X.2.1)).set 39 (.long x)))) H1 → va_D A ((wO X M).set 48 (X.2.1 48, .inr (6, ((fL M 48 0 (lyT.getD 48 (0, 0, [])).2.2).map (rN X.2.1)).set 39 (.long x)))) → va_S A s.heap H1 locs1 → W p l e R s m args below meth c H1 locs1 cells slots Q (F0 m (pc + 3) ls (stk.map (rN X.2.1))) := by
    intro H1 locs1 q1 _ q3
    rw [wO_setl hi] at q1
    exact kk H1 locs1 ls q1 q3 hl
  obtain ⟨hkN, hw | hw⟩ := hf
  · exact va_put (Ts := TB) hx hb hts h2 _ h3 h4 hown hK.2.1 hP hD hS 48 (wO_get hi) h1 39 hkN (hts _ hw) (fun _ h9 => h9) rfl (h3 39 hkN) rfl rfl hlen hd fin
  · exact va_putN (Ts := TB) hx hb hts h2 _ h3 h4 hown hK.2.1 hP hD hS 48 (wO_get hi) h1 39 hkN (va_Nw.use rfl (hK.2.2.1 _ hw)) (fun _ h9 => h9) rfl (h3 39 hkN) rfl rfl hlen hd fin
theorem lyT_n {i n : Nat} {cs : List Nat} (h : lyT[i]? = some (0, n, cs)) : n < 2147483648 := by
  have hq : ∀ j, j < 69 → (lyT.getD j (0, 0, [])).2.1 < 100 := by decide +kernel
  have h1 := hq i (lyT_lt h)
  rw [show lyT.getD i (0, 0, []) = (0, n, cs) by simp [List.getD, h]] at h1
  exact Nat.lt_trans h1 (by decide)
theorem lyT_m {i n : Nat} {cs : List Nat} (h : lyT[i]? = some (0, n, cs)) : n < 100 := by
  have hq : ∀ j, j < 69 → (lyT.getD j (0, 0, [])).2.1 < 100 := by decide +kernel
  have h1 := hq i (lyT_lt h)
  rw [show lyT.getD i (0, 0, []) = (0, n, cs) by simp [List.getD, h]] at h1
  exact h1
theorem r_iald {G : GT} {own : String} {cc : ByteArray} {n d : Nat} (C : Ru G own cc n d) {pc : Nat} {lv stk : List Value} {M : Mm_} {i k N : Nat} {z : Int} {cs : List Nat} (hd : decode cc pc = .ok (.iaload, 1)) (hi : lyT[i]? = some (0, N, cs)) (hz : z = k) (hk : k < N) (kk : G (pc + 1) lv (.int (zI (M.1 i k)) :: stk) M) : G pc lv (.int (zI z) :: .ref i :: stk) M := by
  obtain ⟨p, l, e, R, s, m, args, below, meth, c, cells, slots, Q, X, A, ⟨hx, hb, hml, hown, hts, hK, hA, hR1, hR2, hc, hs⟩, rfl⟩ := C
  intro H locs ls hP hS hl
  refine va_iald hx hb hK.2.1 hP i 0 (wO_get hi) rfl (zI_inj_in hz hk (lyT_n hi)) hd ?_
  rw [zI_clamp hz hk (lyT_n hi)]
  exact kk H locs ls hP hS hl
theorem r_iast {G : GT} {own : String} {cc : ByteArray} {n d : Nat} (C : Ru G own cc n d) {pc : Nat} {lv stk : List Value} {M : Mm_} {i k N : Nat} {z x : Int} {cs : List Nat} (hd : decode cc pc = .ok (.iastore, 1)) (hi : lyT[i]? = some (0, N, cs)) (hz : z = k) (hk : k < N) (kk : G (pc + 1) lv stk (mU M i k x)) : G pc lv (.int (zI x) :: .int (zI z) :: .ref i :: stk) M := by
  obtain ⟨p, l, e, R, s, m, args, below, meth, c, cells, slots, Q, X, A, ⟨hx, hb, hml, hown, hts, hK, hA, hR1, hR2, hc, hs⟩, rfl⟩ := C
  intro H locs ls hP hS hl
  have hD : va_D A (wO X M) := wO_D hK.1 hA
  refine va_iast hx hb hK.2.1 hP hD hS i 0 (wO_get hi) rfl (zI_inj_in hz hk (lyT_n hi)) hd (fun H1 locs1 q1 _ q3 => ?_)
  rw [zI_clamp hz hk (lyT_n hi), wO_seta hi] at q1
  exact kk H1 locs1 ls q1 q3 hl
theorem r_alen {G : GT} {own : String} {cc : ByteArray} {n d : Nat} (C : Ru G own cc n d) {pc : Nat} {lv stk : List Value} {M : Mm_} {i N : Nat} {cs : List Nat} (hd : decode cc pc = .ok (.arraylength, 1)) (hi : lyT[i]? = some (0, N, cs)) (kk : G (pc + 1) lv (.int (zI (N : Int)) :: stk) M) : G pc lv (.ref i :: stk) M := by
  obtain ⟨p, l, e, R, s, m, args, below, meth, c, cells, slots, Q, X, A, ⟨hx, hb, hml, hown, hts, hK, hA, hR1, hR2, hc, hs⟩, rfl⟩ := C
  intro H locs ls hP hS hl
  exact va_alen hx hb hK.2.1 hP i 0 (wO_get hi) rfl (zI_nat N).symm hd (kk H locs ls hP hS hl)
theorem r_aald {G : GT} {own : String} {cc : ByteArray} {n d : Nat} (C : Ru G own cc n d) {pc : Nat} {lv stk : List Value} {M : Mm_} {i k N a : Nat} {z : Int} {cs : List Nat} (hd : decode cc pc = .ok (.aaload, 1)) (hi : lyT[i]? = some (2, N, cs)) (hN : N < 100) (hz : z = k) (hk : k < N) (hc2 : cs[k]? = some a) (kk : G (pc + 1) lv (.ref a :: stk) M) : G pc lv (.int (zI z) :: .ref i :: stk) M := by
  obtain ⟨p, l, e, R, s, m, args, below, meth, c, cells, slots, Q, X, A, ⟨hx, hb, hml, hown, hts, hK, hA, hR1, hR2, hc, hs⟩, rfl⟩ := C
  intro H locs ls hP hS hl
  have hin := zI_inj_in hz hk (by omega)
  have hcl := zI_clamp hz hk (show N < 2147483648 by omega)
  have ha := wO_get (X := X) (M := M) hi
  refine W.aald (v := .ref (X.2.1 a)) (ty := .array .int) hx hb (hP i _ ha) ((hK.2.1.2 1 _ rfl).1 N (fun j => va_rf ((cs[j]?).map X.2.1))) rfl (fun q => by cases q) (by show ¬ (zI z < 0 ∨ (arrV _ _ _).slots.size ≤ _); rw [arrV_size]; exact hin) (by show (arrV _ _ _).slots[_]? = _; rw [arrV_read _ _ (by rw [hcl]; exact hk), hcl]; show some (va_rf ((cs[k]?).map X.2.1)) = _; rw [hc2]; rfl) rfl rfl hd (kk H locs ls hP hS hl)
theorem r_worths {G : GT} {own : String} {cc : ByteArray} {n d : Nat} (C : Ru G own cc n d) {pc : Nat} {lv stk : List Value} {M : Mm_} {idx : Nat} (hd : decode cc pc = .ok (.getstatic idx, 3)) (hw : Cond.fieldLinkNest own idx "GrudgeRennet" "WORTHS" "[I" "GrudgeRennet" ∈ nsT) (kk : G (pc + 3) lv (.ref 100 :: stk) M) : G pc lv stk M := by
  obtain ⟨p, l, e, R, s, m, args, below, meth, c, cells, slots, Q, X, A, ⟨hx, hb, hml, hown, hts, hK, hA, hR1, hR2, hc, hs⟩, rfl⟩ := C
  intro H locs ls hP hS hl
  exact va_getsN hx hb hK.2.2.2.1 hS hown (va_Nw.use rfl (hK.2.2.1 _ hw)) (fun _ h9 => h9) hd (kk H locs ls hP hS hl)
theorem r_wald {G : GT} {own : String} {cc : ByteArray} {n d : Nat} (C : Ru G own cc n d) {pc : Nat} {lv stk : List Value} {M : Mm_} {k : Nat} {z : Int} (hd : decode cc pc = .ok (.iaload, 1)) (hz : z = k) (hk : k < 3) (kk : G (pc + 1) lv (.int (zI (wrT k)) :: stk) M) : G pc lv (.int (zI z) :: .ref 100 :: stk) M := by
  obtain ⟨p, l, e, R, s, m, args, below, meth, c, cells, slots, Q, X, A, ⟨hx, hb, hml, hown, hts, hK, hA, hR1, hR2, hc, hs⟩, rfl⟩ := C
  intro H locs ls hP hS hl
  refine va_ti hx hb hK.2.2.2.2.1 hS (zI_inj_in hz hk (by decide)) (v := .int (zI (wrT k))) ?_ hd (kk H locs ls hP hS hl)
  rw [zI_clamp hz hk (by decide)]
theorem r_ldc {G : GT} {own : String} {cc : ByteArray} {n d : Nat} (C : Ru G own cc n d) {pc : Nat} {lv stk : List Value} {M : Mm_} {idx : Nat} {v : Int32} {z : Int} (hd : decode cc pc = .ok (.ldc idx, 2)) (hw : Cond.constant own idx v ∈ TB) (hv : v = zI z) (kk : G (pc + 2) lv (.int (zI z) :: stk) M) : G pc lv stk M := by
  obtain ⟨p, l, e, R, s, m, args, below, meth, c, cells, slots, Q, X, A, ⟨hx, hb, hml, hown, hts, hK, hA, hR1, hR2, hc, hs⟩, rfl⟩ := C
  intro H locs ls hP hS hl
  subst hv
  exact lv_ldc hx hb hown (hts _ hw) hd (kk H locs ls hP hS hl)
theorem r_ldcw {G : GT} {own : String} {cc : ByteArray} {n d : Nat} (C : Ru G own cc n d) {pc : Nat} {lv stk : List Value} {M : Mm_} {idx : Nat} {v : Int32} {z : Int} (hd : decode cc pc = .ok (.ldc_w idx, 3)) (hw : Cond.constant own idx v ∈ TB) (hv : v = zI z) (kk : G (pc + 3) lv (.int (zI z) :: stk) M) : G pc lv stk M := by
  obtain ⟨p, l, e, R, s, m, args, below, meth, c, cells, slots, Q, X, A, ⟨hx, hb, hml, hown, hts, hK, hA, hR1, hR2, hc, hs⟩, rfl⟩ := C
  intro H locs ls hP hS hl
  subst hv
  exact lv_ldcw hx hb hown (hts _ hw) hd (kk H locs ls hP hS hl)
theorem r_ldc2 {G : GT} {own : String} {cc : ByteArray} {n d : Nat} (C : Ru G own cc n d) {pc : Nat} {lv stk : List Value} {M : Mm_} {idx : Nat} {v : Int64} (hd : decode cc pc = .ok (.ldc2_w idx, 3)) (hw : Cond.constantLong own idx v ∈ TB) (kk : G (pc + 3) lv (.long v :: stk) M) : G pc lv stk M := by
  obtain ⟨p, l, e, R, s, m, args, below, meth, c, cells, slots, Q, X, A, ⟨hx, hb, hml, hown, hts, hK, hA, hR1, hR2, hc, hs⟩, rfl⟩ := C
  intro H locs ls hP hS hl
  exact lv_ldc2 hx hb hown (hts _ hw) hd (kk H locs ls hP hS hl)
theorem r_min {G : GT} {own : String} {cc : ByteArray} {n d : Nat} (C : Ru G own cc n d) {pc : Nat} {lv stk : List Value} {M : Mm_} {idx : Nat} {a b : Int} (hd : decode cc pc = .ok (.invokestatic idx, 3)) (hl9 : Cond.methodLink own idx Lib.Math.min.name ∈ TB) (hw2 : Cond.static Lib.Math.min.name ∈ TB) (hw3 : Cond.initialized "java/lang/Math" ∈ TB) (hw4 : Cond.code Lib.Math.min.name Lib.Math.min.code 2 (some .int) ∈ TB) (hd1 : 1 ≤ d) (hst : (stk.map fun v => v.category).sum ≤ 8) (ra : rg a) (rb : rg b) (kk : G (pc + 3) lv (.int (zI (if b < a then b else a)) :: stk) M) : G pc lv (.int (zI b) :: .int (zI a) :: stk) M := by
  obtain ⟨p, l, e, R, s, m, args, below, meth, c, cells, slots, Q, X, A, ⟨hx, hb, hml, hown, hts, hK, hA, hR1, hR2, hc, hs⟩, rfl⟩ := C
  intro H locs ls hP hS hl
  have hcat : ((stk.map (rN X.2.1)).map fun v => v.category).sum = (stk.map fun v => v.category).sum := by
    rw [List.map_map]; congr 1; apply List.map_congr_left; intro v _; exact rN_cat _ v
  refine va_mmin hx hb (hml.trans hl.1.symm) hown (hts _ hl9) (hts _ hw2) (hts _ hw3) (hts _ hw4) (by omega) (by rw [hcat]; omega) hc hs hd ?_
  have e9 := kk H locs ls hP hS hl
  have hi := zI_lt rb ra
  by_cases q : b < a
  · rw [if_pos q] at e9
    first | rw [if_pos (hi.mpr q)] | rw [if_neg (fun h => absurd (hi.mp h) (by omega))]
    exact e9
  · rw [if_neg q] at e9
    first | rw [if_neg (fun h => q (hi.mp h))] | rw [if_pos (hi.mpr (by omega))]
    exact e9
theorem r_max {G : GT} {own : String} {cc : ByteArray} {n d : Nat} (C : Ru G own cc n d) {pc : Nat} {lv stk : List Value} {M : Mm_} {idx : Nat} {a b : Int} (hd : decode cc pc = .ok (.invokestatic idx, 3)) (hl9 : Cond.methodLink own idx Lib.Math.max.name ∈ TB) (hw2 : Cond.static Lib.Math.max.name ∈ TB) (hw3 : Cond.initialized "java/lang/Math" ∈ TB) (hw4 : Cond.code Lib.Math.max.name Lib.Math.max.code 2 (some .int) ∈ TB) (hd1 : 1 ≤ d) (hst : (stk.map fun v => v.category).sum ≤ 8) (ra : rg a) (rb : rg b) (kk : G (pc + 3) lv (.int (zI (if a < b then b else a)) :: stk) M) : G pc lv (.int (zI b) :: .int (zI a) :: stk) M := by
  obtain ⟨p, l, e, R, s, m, args, below, meth, c, cells, slots, Q, X, A, ⟨hx, hb, hml, hown, hts, hK, hA, hR1, hR2, hc, hs⟩, rfl⟩ := C
  intro H locs ls hP hS hl
  have hcat : ((stk.map (rN X.2.1)).map fun v => v.category).sum = (stk.map fun v => v.category).sum := by
    rw [List.map_map]; congr 1; apply List.map_congr_left; intro v _; exact rN_cat _ v
  refine va_mmax hx hb (hml.trans hl.1.symm) hown (hts _ hl9) (hts _ hw2) (hts _ hw3) (hts _ hw4) (by omega) (by rw [hcat]; omega) hc hs hd ?_
  have e9 := kk H locs ls hP hS hl
  have hi := zI_lt ra rb
  by_cases q : a < b
  · rw [if_pos q] at e9
    first | rw [if_pos (hi.mpr q)] | rw [if_neg (fun h => absurd (hi.mp h) (by omega))]
    exact e9
  · rw [if_neg q] at e9
    first | rw [if_neg (fun h => q (hi.mp h))] | rw [if_pos (hi.mpr (by omega))]
    exact e9
theorem r_copy {G : GT} {own : String} {cc : ByteArray} {n d : Nat} (C : Ru G own cc n d) {pc : Nat} {lv stk : List Value} {M : Mm_} {idx i0 i1 n0 n1 sp dp k : Nat} {z1 z2 z3 : Int} {c0 c1 : List Nat} (hd : decode cc pc = .ok (.invokestatic idx, 3)) (hl9 : Cond.methodLink own idx arraycopyName ∈ TB) (hw1 : Cond.native arraycopyName ∈ TB) (hw2 : Cond.static arraycopyName ∈ TB) (hw3 : Cond.initialized "java/lang/System" ∈ TB) (hd1 : 1 ≤ d) (hst : (stk.map fun v => v.category).sum ≤ 8) (hi0 : lyT[i0]? = some (0, n0, c0)) (hi1 : lyT[i1]? = some (0, n1, c1)) (h1 : z1 = sp) (h2 : z2 = dp) (h3 : z3 = k) (h4 : sp + k ≤ n0) (h5 : dp + k ≤ n1) (kk : G (pc + 3) lv stk (mC M i0 i1 sp dp k)) : G pc lv (.int (zI z3) :: .int (zI z2) :: .ref i1 :: .int (zI z1) :: .ref i0 :: stk) M := by
  obtain ⟨p, l, e, R, s, m, args, below, meth, c, cells, slots, Q, X, A, ⟨hx, hb, hml, hown, hts, hK, hA, hR1, hR2, hc, hs⟩, rfl⟩ := C
  intro H locs ls hP hS hl
  have hcat : ((stk.map (rN X.2.1)).map fun v => v.category).sum = (stk.map fun v => v.category).sum := by
    rw [List.map_map]; congr 1; apply List.map_congr_left; intro v _; exact rN_cat _ v
  have hD : va_D A (wO X M) := wO_D hK.1 hA
  have hn0 := lyT_m hi0
  have hn1 := lyT_m hi1
  have nn : ∀ {z : Int} {q : Nat}, z = q → q < 2147483647 → ¬ zI z < 0 ∧ (zI z).toNatClampNeg = q := by
    intro z q e hq
    exact ⟨by rw [← zI_0, zI_lt ⟨by omega, by omega⟩ rg0]; omega, zI_clamp (N := q + 1) e (by omega) (by omega)⟩
  have hnw : nativeFrameWords "java/lang/System" "arraycopy" 5 ≤ 30 := by decide +kernel
  obtain ⟨a1, b1⟩ := nn h1 (by omega)
  obtain ⟨a2, b2⟩ := nn h2 (by omega)
  obtain ⟨a3, b3⟩ := nn h3 (by omega)
  refine va_copyi hx hb (hml.trans hl.1.symm) hown (hts _ hl9) (hts _ hw1) (hts _ hw2) (hts _ hw3) hK.2.1 hP hD hS i0 i1 0 0 (wO_get hi0) (wO_get hi1) rfl rfl rfl a1 a2 a3 (by rw [b1, b3]; exact h4) (by rw [b2, b3]; exact h5) (fun i _ => rfl) (by omega) (by rw [hcat]; omega) hd (fun H1 locs1 q1 _ q3 => ?_)
  rw [b1, b2, b3, wO_setc hi1] at q1
  exact kk H1 locs1 ls q1 q3 hl
end
section
/-! CALLS AND CONTRACTS -/
abbrev Ky_ : Type := MethodName × ByteArray × Nat × Option FieldType
def QC (X : Lt_) (Post : Option Value → Mm_ → Prop) : Array Value → State → Outcome → State → Prop := fun _ st oc t => (∃ (r : Option Value) (M' : Mm_), oc = .returned (r.map (rN X.2.1)) ∧ Post r M' ∧ va_P X.1 vwCl (wO X M') t.heap) ∧ va_F (AX X) st t
def wY (k : Ky_) : List Cond := .code k.1 k.2.1 k.2.2.1 k.2.2.2 :: TB
abbrev rmD (d : Nat) : Room := { frames := d, cells := 0, slots := 0, locals := 60 * d }
def PcX (X : Lt_) (as : List Value) (M : Mm_) : Array Value → State → Prop := va_Pc (as.map (rN X.2.1)) (fun U => Kn X (AX X) U U.heap ∧ va_P X.1 vwCl (wO X M) U.heap)
/-- THE CONTRACT of a method: with these arguments in this memory it answers, and Post holds of answer and memory -/
def Cn (d : Nat) (k : Ky_) (as : List Value) (M : Mm_) (Post : Option Value → Mm_ → Prop) : Prop :=
  ∀ (l : Launch) (X : Lt_), Met l k.1 (wY k) (rmD d) (PcX X as M) (QC X Post) 0 0 (AX X)
theorem PcX_blind {X : Lt_} {as : List Value} {M : Mm_} : FrameBlind (PcX X as M) := by
  intro a U g mk h
  exact ⟨h.1, Kn.calling g mk a h.2.1, h.2.2⟩
section GC
variable {p : Program} {l : Launch} {e : Env} {R : Room} {s : State} {m : MethodId} {args : Array Value} {below : List Frame} {meth : Method} {c : Code} {H : Heap} {locs : List Loc} {cells slots : Nat} {Q : State → Prop}
theorem gv_call {pc : Nat} {ls : Array Slot} {st0 rest : List Value} {X : Lt_} {A : Nat → Prop} {a : Array Value} {Post : Option Value → Mm_ → Prop} (hr : va_Run p l e R s m args below meth c H locs cells slots 0 0 (F0 m pc ls st0) rest (QC X Post a) (AX X)) (hS : va_S A s.heap H locs) (hA : ∀ q, AX X q → A q)
    (kk : ∀ (r : Option Value) (M' : Mm_) (H1 : Heap) (locs1 : List Loc), Post r M' → va_P X.1 vwCl (wO X M') H1 → va_S A s.heap H1 locs1 → W p l e R s m args below meth c H1 locs1 cells slots Q (F0 m (pc + 3) ls ((r.map (rN X.2.1)).toList ++ rest))) : W p l e R s m args below meth c H locs cells slots Q (F0 m pc ls st0) := by
  intro T hT X0
  obtain ⟨v, st₀, t, T', L, h0, X', hL, e1, e2, ⟨⟨r, M', hv, hp, hb⟩, hz, hk⟩, st⟩ := hr T hT X0
  have hv : v = r.map (rN X.2.1) := by injection hv
  subst hv
  rw [h0] at hz hk
  obtain ⟨t2, a1, b1⟩ := kk r M' T'.heap (locs ++ L) hp (by rw [e1]; exact hb)
    ⟨Nat.le_trans hS.1 (by rw [e1]; exact hz), fun q h1 h2 => by rw [e1, hk q (Nat.lt_of_lt_of_le h1 hS.1) (fun z => h2 (hA q z))]; exact hS.2.1 q h1 h2, fun q hq => by
      rcases List.mem_append.mp hq with h | h
      · exact hS.2.2 q h
      · exact hA _ (hL q h)⟩ T' rfl X'
  exact ⟨t2, st t2 a1, b1⟩
end GC
theorem map_cat (r : Nat → Nat) (st : List Value) : ((st.map (rN r)).map fun v => v.category).sum = (st.map fun v => v.category).sum := by
  rw [List.map_map]
  congr 1
  apply List.map_congr_left
  intro v _
  exact rN_cat _ v
/-- what a call by name needs of the tables: a method of an object; of a class -/
def VW (own : String) (idx : Nat) (k : Ky_) (n : Nat) : Prop := Cond.code k.1 k.2.1 k.2.2.1 k.2.2.2 ∈ TB ∧ Cond.methodLink own idx k.1 ∈ TB ∧ Cond.instanceMethod k.1 ∈ TB ∧ Cond.selects k.1.cls k.1 k.1 ∈ TB ∧ Cond.initialized k.1.cls ∈ TB ∧ k.2.2.1 ≤ 41 ∧ k.1.cls ≠ "java/lang/invoke/MethodHandle" ∧ k.1.cls ≠ "java/lang/invoke/VarHandle" ∧ (parseMethodDescriptor k.1.desc).map (fun d => d.parameters.length) = some n
def SW (own : String) (idx : Nat) (k : Ky_) (n : Nat) : Prop := Cond.code k.1 k.2.1 k.2.2.1 k.2.2.2 ∈ TB ∧ (Cond.methodLink own idx k.1 ∈ TB ∨ Cond.methodLinkNest own idx k.1 "GrudgeRennet" ∈ nsT) ∧ Cond.static k.1 ∈ TB ∧ Cond.initialized k.1.cls ∈ TB ∧ k.2.2.1 ≤ 41 ∧ k.1.cls ≠ "java/lang/invoke/MethodHandle" ∧ k.1.cls ≠ "java/lang/invoke/VarHandle" ∧ (parseMethodDescriptor k.1.desc).map (fun d => d.parameters.length) = some n
theorem wY_good {k : Ky_} (h : Cond.code k.1 k.2.1 k.2.2.1 k.2.2.2 ∈ TB) : GoodIn TB (wY k) := by
  intro w hw
  rcases List.mem_cons.mp hw with rfl | hw
  · exact TB_good _ h
  · exact TB_good _ hw
theorem r_callV {G : GT} {own : String} {cc : ByteArray} {n d : Nat} (C : Ru G own cc n d) {pc : Nat} {lv stk : List Value} {M : Mm_} {idx d' np b ci : Nat} {k : Ky_} {as rest : List Value} {cs : List Nat} {Post : Option Value → Mm_ → Prop} (hd : decode cc pc = .ok (.invokevirtual idx, 3)) (hw : VW own idx k np) (hC : Cn d' k (.ref b :: as) M Post) (hd' : d' < d) (hn : as.length = np) (hi : lyT[b]? = some (1, ci, cs)) (hcl : (cT ci).1 = k.1.cls) (hst : stk = as.reverse ++ .ref b :: rest) (hrs : (rest.map fun v => v.category).sum ≤ 8) (kk : ∀ (r : Option Value) (M' : Mm_), Post r M' → G (pc + 3) lv (r.toList ++ rest) M') : G pc lv stk M := by
  obtain ⟨p, l, e, R, s, m, args, below, meth, c, cells, slots, Q, X, A, ⟨hx, hb, hml, hown, hts, hK, hA, hR1, hR2, hc, hs⟩, rfl⟩ := C
  intro H locs ls hP hS hl
  obtain ⟨w1, w2, w3, w4, w5, w6, w7, w8, w9⟩ := hw
  obtain ⟨c1, c2, c3, c4⟩ := cT_ok (lyT_ci hi).1
  have hG := wY_good w1
  subst hst
  refine gv_call (rest := rest.map (rN X.2.1)) (va_runV (As := as.map (rN X.2.1)) (rest := rest.map (rN X.2.1)) (b := X.2.1 b) (n := np) (C := k.1.cls) ⟨hx, hb, hml, hown, hts⟩ (hC l X) ⟨⟨rfl, rfl, Nat.le_trans hd' hR1, ?_, pay_in hts hG, List.mem_cons_self, hts _ w1, hts _ w5, ⟨w7, w8⟩, ?_, hts _ w2⟩, hts _ w3, hts _ w4⟩ ⟨PcX_blind, ?_, ?_⟩ rfl (by rw [List.length_map]; exact hn) hl.1 ?_ (lv_room (by rw [map_cat]; exact hrs)) hd ⟨by omega, by omega⟩) hS hA (fun r M' H1 locs1 q1 q2 q3 => ?_)
  · show 8 + (k.2.2.1 + 11) + 60 * d' ≤ R.locals
    omega
  · intro sig h
    rw [h] at w9
    exact (Option.some.inj w9).symm
  · rw [← hcl]
    exact va_recv hK.2.1 hP c1 (wO_get hi)
  · intro U hU hW
    refine ⟨rfl, ?_, by rw [hU]; exact hP⟩
    rw [hU]
    exact Kn.warm hW (Kn.narrow (hK.kept hS.2.1) hA)
  · show List.map (rN X.2.1) (as.reverse ++ .ref b :: rest) = _
    rw [List.map_append, List.map_reverse]
    rfl
  · have h9 := kk r M' q1 H1 locs1 ls q2 q3 hl
    rw [List.map_append] at h9
    cases r <;> exact h9
theorem r_callS {G : GT} {own : String} {cc : ByteArray} {n d : Nat} (C : Ru G own cc n d) {pc : Nat} {lv stk : List Value} {M : Mm_} {idx d' np : Nat} {k : Ky_} {as rest : List Value} {Post : Option Value → Mm_ → Prop} (hd : decode cc pc = .ok (.invokestatic idx, 3)) (hw : SW own idx k np) (hC : Cn d' k as M Post) (hd' : d' < d) (hn : as.length = np) (hst : stk = as.reverse ++ rest) (hrs : (rest.map fun v => v.category).sum ≤ 8) (kk : ∀ (r : Option Value) (M' : Mm_), Post r M' → G (pc + 3) lv (r.toList ++ rest) M') : G pc lv stk M := by
  obtain ⟨p, l, e, R, s, m, args, below, meth, c, cells, slots, Q, X, A, ⟨hx, hb, hml, hown, hts, hK, hA, hR1, hR2, hc, hs⟩, rfl⟩ := C
  intro H locs ls hP hS hl
  obtain ⟨w1, w2, w3, w5, w6, w7, w8, w9⟩ := hw
  have hG := wY_good w1
  subst hst
  have hlo : 8 + (k.2.2.1 + 11) + 60 * d' ≤ R.locals := by omega
  have hsg : ∀ sig, parseMethodDescriptor k.1.desc = some sig → np = sig.parameters.length := by
    intro sig h
    rw [h] at w9
    exact (Option.some.inj w9).symm
  have hpre : PreS s H (PcX X as M) (as.map (rN X.2.1)) := by
    refine ⟨PcX_blind, fun U hU hW => ⟨rfl, ?_, by rw [hU]; exact hP⟩⟩
    rw [hU]
    exact Kn.warm hW (Kn.narrow (hK.kept hS.2.1) hA)
  have hstk : List.map (rN X.2.1) (as.reverse ++ rest) = (as.map (rN X.2.1)).reverse ++ rest.map (rN X.2.1) := by
    rw [List.map_append, List.map_reverse]
  have fin : ∀ (r : Option Value) (M' : Mm_) (H1 : Heap) (locs1 : List Loc), Post r M' → va_P X.1 vwCl (wO X M') H1 → va_S A s.heap H1 locs1 → W p l e R s m args below meth c H1 locs1 cells slots Q (F0 m (pc + 3) ls ((r.map (rN X.2.1)).toList ++ rest.map (rN X.2.1))) := by
    intro r M' H1 locs1 q1 q2 q3
    have h9 := kk r M' q1 H1 locs1 ls q2 q3 hl
    rw [List.map_append] at h9
    cases r <;> exact h9
  rcases w2 with w2 | w2
  · exact gv_call (rest := rest.map (rN X.2.1)) (va_runS (As := as.map (rN X.2.1)) (rest := rest.map (rN X.2.1)) ⟨hx, hb, hml, hown, hts⟩ (hC l X) ⟨⟨rfl, rfl, Nat.le_trans hd' hR1, hlo, pay_in hts hG, List.mem_cons_self, hts _ w1, hts _ w5, ⟨w7, w8⟩, hsg, hts _ w2⟩, hts _ w3⟩ hpre rfl (by rw [List.length_map]; exact hn) hl.1 hstk (lv_room (by rw [map_cat]; exact hrs)) hd ⟨by omega, by omega⟩) hS hA fin
  · exact gv_call (rest := rest.map (rN X.2.1)) (va_runSN (As := as.map (rN X.2.1)) (rest := rest.map (rN X.2.1)) ⟨hx, hb, hml, hown, hts⟩ (hC l X) ⟨⟨⟨rfl, rfl, Nat.le_trans hd' hR1, hlo, pay_in hts hG, List.mem_cons_self⟩, hts _ w1, hts _ w5, ⟨w7, w8⟩, hsg, va_Nw.use rfl (hK.2.2.1 _ w2)⟩, hts _ w3, trivial⟩ hpre rfl (by rw [List.length_map]; exact hn) hl.1 hstk (lv_room (by rw [map_cat]; exact hrs)) hd ⟨by omega, by omega⟩) hS hA fin
/-- the end of a method -/
def Re (G : GT) (cc : ByteArray) (ret : Option FieldType) (Post : Option Value → Mm_ → Prop) : Prop := ∃ (p : Program) (l : Launch) (e : Env) (R : Room) (s : State) (m : MethodId) (args : Array Value) (below : List Frame) (meth : Method) (c : Code) (X : Lt_) (n : Nat),
  (p.tables.exec = Jvm.exec ∧ c.code = cc ∧ meth.sig.returnType = ret ∧ meth.locks = false) ∧ G = Gd p l e R s m args below meth c 0 0 (MQ below (QC X Post) args s 0 0 (AX X)) X (AX X) n
theorem r_iret {G : GT} {cc : ByteArray} {Post : Option Value → Mm_ → Prop} (E : Re G cc (some .int) Post) {pc : Nat} {lv : List Value} {M : Mm_} {x : Int32} (hd : decode cc pc = .ok (.ireturn, 1)) (hp : Post (some (.int x)) M) : G pc lv [.int x] M := by
  obtain ⟨p, l, e, R, s, m, args, below, meth, c, X, n, ⟨hx, hb, hr, hlk⟩, rfl⟩ := E
  intro H locs ls hP hS hl
  exact W.iret hx hb hr (fun t ht _ => ⟨⟨some (.int x), M, rfl, hp, by rw [ht]; exact hP⟩, hS.F ht⟩) hS.2.2 hd hlk
theorem r_zret {G : GT} {cc : ByteArray} {Post : Option Value → Mm_ → Prop} (E : Re G cc (some .boolean) Post) {pc : Nat} {lv : List Value} {M : Mm_} {z : Int} (hd : decode cc pc = .ok (.ireturn, 1)) (hz : z = 0 ∨ z = 1) (hp : Post (some (.int (zI z))) M) : G pc lv [.int (zI z)] M := by
  obtain ⟨p, l, e, R, s, m, args, below, meth, c, X, n, ⟨hx, hb, hr, hlk⟩, rfl⟩ := E
  intro H locs ls hP hS hl
  exact W.zret hx hb hr (by rcases hz with rfl | rfl <;> rfl) (fun t ht _ => ⟨⟨some (.int (zI z)), M, rfl, hp, by rw [ht]; exact hP⟩, hS.F ht⟩) hS.2.2 hd hlk
theorem r_lret {G : GT} {cc : ByteArray} {Post : Option Value → Mm_ → Prop} (E : Re G cc (some .long) Post) {pc : Nat} {lv : List Value} {M : Mm_} {x : Int64} (hd : decode cc pc = .ok (.lreturn, 1)) (hp : Post (some (.long x)) M) : G pc lv [.long x] M := by
  obtain ⟨p, l, e, R, s, m, args, below, meth, c, X, n, ⟨hx, hb, hr, hlk⟩, rfl⟩ := E
  intro H locs ls hP hS hl
  exact W.lret hx hb hr (fun t ht _ => ⟨⟨some (.long x), M, rfl, hp, by rw [ht]; exact hP⟩, hS.F ht⟩) hS.2.2 hd hlk
theorem r_vret {G : GT} {cc : ByteArray} {Post : Option Value → Mm_ → Prop} (E : Re G cc none Post) {pc : Nat} {lv : List Value} {M : Mm_} (hd : decode cc pc = .ok (.return_, 1)) (hp : Post none M) : G pc lv [] M := by
  obtain ⟨p, l, e, R, s, m, args, below, meth, c, X, n, ⟨hx, hb, hr, hlk⟩, rfl⟩ := E
  intro H locs ls hP hS hl
  exact W.vret hx hb hr (fun t ht _ => ⟨⟨none, M, rfl, hp, by rw [ht]; exact hP⟩, hS.F ht⟩) hS.2.2 hd hlk
/-- the locals at a method's entry -/
def lvE : List Value → List Value
  | [] => []
  | v :: vs => if v.category = 2 then v :: .null :: lvE vs else v :: lvE vs
theorem lvE_has (r : Nat → Nat) : ∀ (vs : List Value) (i j : Nat) (v : Value), (lvE vs)[j]? = some v → v ≠ .null → (i + j, rN r v) ∈ lv_args i (vs.map (rN r))
  | [], _, _, _, h, _ => by simp [lvE] at h
  | u :: vs, i, j, v, h, hn => by
    by_cases hc : u.category = 2
    · rw [lvE, if_pos hc] at h
      have hc2 : (rN r u).category = 2 := by rw [rN_cat]; exact hc
      match j, h with
      | 0, h => cases h; exact List.mem_cons_self
      | 1, h => cases h; exact absurd rfl hn
      | j + 2, h =>
        refine List.mem_cons_of_mem _ ?_
        rw [if_pos hc2]
        have := lvE_has r vs (i + 2) j v h hn
        rw [show i + 2 + j = i + (j + 2) by omega] at this
        exact this
    · rw [lvE, if_neg hc] at h
      have hc2 : ¬ (rN r u).category = 2 := by rw [rN_cat]; exact hc
      match j, h with
      | 0, h => cases h; exact List.mem_cons_self
      | j + 1, h =>
        refine List.mem_cons_of_mem _ ?_
        rw [if_neg hc2]
        have := lvE_has r vs (i + 1) j v h hn
        rw [show i + 1 + j = i + (j + 1) by omega] at this
        exact this
theorem lvE_pad {l : List Value} {m j : Nat} {v : Value} (h : (l ++ List.replicate m .null)[j]? = some v) (hn : v ≠ .null) : l[j]? = some v := by
  by_cases hj : j < l.length
  · rw [List.getElem?_append_left hj] at h; exact h
  · rw [List.getElem?_append_right (by omega)] at h
    have := List.mem_of_getElem? h
    rw [List.mem_replicate] at this
    exact absurd this.2 hn
theorem lg_sl_len (vs : List Value) : (lg_sl vs).length = (lvE vs).length := by
  induction vs with
  | nil => rfl
  | cons v vs ih =>
    have e : lg_sl (v :: vs) = (if v.category = 2 then [Slot.val v, Slot.second] else [Slot.val v]) ++ lg_sl vs := by simp [lg_sl]
    rw [e, List.length_append, ih]
    by_cases hc : v.category = 2
    · simp [lvE, hc]; omega
    · simp [lvE, hc]; omega
theorem lvE_len (r : Nat → Nat) (vs : List Value) : (lvE (vs.map (rN r))).length = (lvE vs).length := by
  induction vs with
  | nil => rfl
  | cons v vs ih =>
    by_cases hc : v.category = 2
    · simp [lvE, hc, rN_cat, ih]
    · simp [lvE, hc, rN_cat, ih]
theorem Cn.of {d : Nat} {k : Ky_} {as : List Value} {M : Mm_} {Post : Option Value → Mm_ → Prop} (hpl : plainName k.1.cls = true) (hle : (lvE as).length ≤ k.2.2.1) (h : ∀ G : GT, Ru G k.1.cls k.2.1 k.2.2.1 d → Re G k.2.1 k.2.2.2 Post → G 0 (lvE as ++ List.replicate (k.2.2.1 - (lvE as).length) .null) [] M) : Cn d k as M Post := by
  intro l X
  refine Met.ofW (cc := k.2.1) (maxL := k.2.2.1) (ret := k.2.2.2) hpl rfl ?_
  intro p e s m args below meth c s₁ B hml hv
  obtain ⟨rfl, hK, hP⟩ := hv
  have hts := atoms_spec (ws := wY k) B.pre
  have hown : s.vm.findClass k.1.cls = some m.cls := findClass_of_methodNamed B.named
  have hlk := B.notSynchronized
  have h9 := h (Gd p l e (headSpec (wY k) (rmD d)).room s m (as.map (rN X.2.1)).toArray below meth c 0 0 (MQ below (QC X Post) (as.map (rN X.2.1)).toArray s 0 0 (AX X)) X (AX X) k.2.2.1)
    ⟨p, l, e, _, s, m, _, below, meth, c, 0, 0, _, X, AX X, ⟨B.exec, B.bytes, hml, hown, fun w hw => hts w (List.mem_cons_of_mem _ hw), hK, fun _ q => q, Nat.le_refl _, Nat.le_refl _, Nat.zero_le _, Nat.zero_le _⟩, rfl⟩
    ⟨p, l, e, _, s, m, _, below, meth, c, X, k.2.2.1, ⟨B.exec, B.bytes, B.returns, hlk⟩, rfl⟩
  have hln : (lg_sl (as.map (rN X.2.1))).length ≤ k.2.2.1 := by rw [lg_sl_len, lvE_len]; exact hle
  have hl := lv_entry (as.map (rN X.2.1)) (n := k.2.2.1) hln
  rw [lg_entry_eq]
  refine h9 s.heap [] _ hP va_S.rf ⟨hl.1, hl.2.1, fun i v hi hn => ?_⟩
  have := lvE_has X.2.1 as 0 i v (lvE_pad hi hn) hn
  rw [Nat.zero_add] at this
  exact hl.2.2 _ this
theorem Cn.mono {d : Nat} {k : Ky_} {as : List Value} {M : Mm_} {Post Post' : Option Value → Mm_ → Prop} (h : Cn d k as M Post) (hp : ∀ r M', Post r M' → Post' r M') : Cn d k as M Post' := by
  intro l X
  have h1 := h l X
  intro p e ha hc hk s m args below hf happ hpre hK
  obtain ⟨k2, o, a1, a2, a3, ⟨⟨⟨r, M', q1, q2, q3⟩, q4⟩, q5⟩⟩ := h1 p e ha hc hk s m args below hf happ hpre hK
  exact ⟨k2, o, a1, a2, a3, ⟨⟨r, M', q1, hp r M' q2, q3⟩, q4⟩, q5⟩
end
section
/-! LINKS: which entry of which class is which method or field (by a program, out of the tables) -/
def kX6_init : Ky_ := (yX6_init, cX6_init, 1, none)
theorem cw_X6_init : Cond.code kX6_init.1 kX6_init.2.1 kX6_init.2.2.1 kX6_init.2.2.2 ∈ TB := TB_mem (List.mem_of_getElem? (i := 76) (by decide +kernel)) rfl
def kX1_init : Ky_ := (yX1_init, cX1_init, 1, none)
theorem cw_X1_init : Cond.code kX1_init.1 kX1_init.2.1 kX1_init.2.2.1 kX1_init.2.2.2 ∈ TB := TB_mem (List.mem_of_getElem? (i := 84) (by decide +kernel)) rfl
def kX5_init : Ky_ := (yX5_init, cX5_init, 1, none)
theorem cw_X5_init : Cond.code kX5_init.1 kX5_init.2.1 kX5_init.2.2.1 kX5_init.2.2.2 ∈ TB := TB_mem (List.mem_of_getElem? (i := 100) (by decide +kernel)) rfl
def kX3_init : Ky_ := (yX3_init, cX3_init, 1, none)
theorem cw_X3_init : Cond.code kX3_init.1 kX3_init.2.1 kX3_init.2.2.1 kX3_init.2.2.2 ∈ TB := TB_mem (List.mem_of_getElem? (i := 132) (by decide +kernel)) rfl
def kX2_init : Ky_ := (yX2_init, cX2_init, 1, none)
theorem cw_X2_init : Cond.code kX2_init.1 kX2_init.2.1 kX2_init.2.2.1 kX2_init.2.2.2 ∈ TB := TB_mem (List.mem_of_getElem? (i := 138) (by decide +kernel)) rfl
def kX0_init : Ky_ := (yX0_init, cX0_init, 1, none)
theorem cw_X0_init : Cond.code kX0_init.1 kX0_init.2.1 kX0_init.2.2.1 kX0_init.2.2.2 ∈ TB := TB_mem (List.mem_of_getElem? (i := 207) (by decide +kernel)) rfl
def kX6_letter : Ky_ := (yX6_letter, cX6_letter, 2, (some .int))
theorem cw_X6_letter : Cond.code kX6_letter.1 kX6_letter.2.1 kX6_letter.2.2.1 kX6_letter.2.2.2 ∈ TB := TB_mem (List.mem_of_getElem? (i := 266) (by decide +kernel)) rfl
def kX1_add : Ky_ := (yX1_add, cX1_add, 2, none)
theorem cw_X1_add : Cond.code kX1_add.1 kX1_add.2.1 kX1_add.2.2.1 kX1_add.2.2.2 ∈ TB := TB_mem (List.mem_of_getElem? (i := 270) (by decide +kernel)) rfl
def kX6_blank : Ky_ := (yX6_blank, cX6_blank, 1, (some .int))
theorem cw_X6_blank : Cond.code kX6_blank.1 kX6_blank.2.1 kX6_blank.2.2.1 kX6_blank.2.2.2 ∈ TB := TB_mem (List.mem_of_getElem? (i := 274) (by decide +kernel)) rfl
def kX1_clear : Ky_ := (yX1_clear, cX1_clear, 2, (some .int))
theorem cw_X1_clear : Cond.code kX1_clear.1 kX1_clear.2.1 kX1_clear.2.2.1 kX1_clear.2.2.2 ∈ TB := TB_mem (List.mem_of_getElem? (i := 278) (by decide +kernel)) rfl
def kX6_fault : Ky_ := (yX6_fault, cX6_fault, 1, (some .int))
theorem cw_X6_fault : Cond.code kX6_fault.1 kX6_fault.2.1 kX6_fault.2.2.1 kX6_fault.2.2.2 ∈ TB := TB_mem (List.mem_of_getElem? (i := 282) (by decide +kernel)) rfl
def kX1_firstFault : Ky_ := (yX1_firstFault, cX1_firstFault, 4, (some .int))
theorem cw_X1_firstFault : Cond.code kX1_firstFault.1 kX1_firstFault.2.1 kX1_firstFault.2.2.1 kX1_firstFault.2.2.2 ∈ TB := TB_mem (List.mem_of_getElem? (i := 286) (by decide +kernel)) rfl
def kX1_markPlace : Ky_ := (yX1_markPlace, cX1_markPlace, 2, (some .int))
theorem cw_X1_markPlace : Cond.code kX1_markPlace.1 kX1_markPlace.2.1 kX1_markPlace.2.2.1 kX1_markPlace.2.2.2 ∈ TB := TB_mem (List.mem_of_getElem? (i := 290) (by decide +kernel)) rfl
def kX1_fitsPails : Ky_ := (yX1_fitsPails, cX1_fitsPails, 3, (some .boolean))
theorem cw_X1_fitsPails : Cond.code kX1_fitsPails.1 kX1_fitsPails.2.1 kX1_fitsPails.2.2.1 kX1_fitsPails.2.2.2 ∈ TB := TB_mem (List.mem_of_getElem? (i := 294) (by decide +kernel)) rfl
def kX1_isDigit : Ky_ := (yX1_isDigit, cX1_isDigit, 5, (some .boolean))
theorem cw_X1_isDigit : Cond.code kX1_isDigit.1 kX1_isDigit.2.1 kX1_isDigit.2.2.1 kX1_isDigit.2.2.2 ∈ TB := TB_mem (List.mem_of_getElem? (i := 298) (by decide +kernel)) rfl
def kX1_digitAt : Ky_ := (yX1_digitAt, cX1_digitAt, 2, (some .int))
theorem cw_X1_digitAt : Cond.code kX1_digitAt.1 kX1_digitAt.2.1 kX1_digitAt.2.2.1 kX1_digitAt.2.2.2 ∈ TB := TB_mem (List.mem_of_getElem? (i := 302) (by decide +kernel)) rfl
def kX1_codeAt : Ky_ := (yX1_codeAt, cX1_codeAt, 2, (some .int))
theorem cw_X1_codeAt : Cond.code kX1_codeAt.1 kX1_codeAt.2.1 kX1_codeAt.2.2.1 kX1_codeAt.2.2.2 ∈ TB := TB_mem (List.mem_of_getElem? (i := 306) (by decide +kernel)) rfl
def kX1_fitsPeople : Ky_ := (yX1_fitsPeople, cX1_fitsPeople, 2, (some .boolean))
theorem cw_X1_fitsPeople : Cond.code kX1_fitsPeople.1 kX1_fitsPeople.2.1 kX1_fitsPeople.2.2.1 kX1_fitsPeople.2.2.2 ∈ TB := TB_mem (List.mem_of_getElem? (i := 310) (by decide +kernel)) rfl
def kJ0_indexOf_0f7a4 : Ky_ := (yJ0_indexOf_0f7a4, cJ0_indexOf_0f7a4, 2, (some .int))
theorem cw_J0_indexOf_0f7a4 : Cond.code kJ0_indexOf_0f7a4.1 kJ0_indexOf_0f7a4.2.1 kJ0_indexOf_0f7a4.2.2.1 kJ0_indexOf_0f7a4.2.2.2 ∈ TB := TB_mem (List.mem_of_getElem? (i := 315) (by decide +kernel)) rfl
def kJ0_indexOf_7cf53 : Ky_ := (yJ0_indexOf_7cf53, cJ0_indexOf_7cf53, 3, (some .int))
theorem cw_J0_indexOf_7cf53 : Cond.code kJ0_indexOf_7cf53.1 kJ0_indexOf_7cf53.2.1 kJ0_indexOf_7cf53.2.2.1 kJ0_indexOf_7cf53.2.2.2 ∈ TB := TB_mem (List.mem_of_getElem? (i := 319) (by decide +kernel)) rfl
def kJ0_isLatin1_aae02 : Ky_ := (yJ0_isLatin1_aae02, cJ0_isLatin1_aae02, 1, (some .boolean))
theorem cw_J0_isLatin1_aae02 : Cond.code kJ0_isLatin1_aae02.1 kJ0_isLatin1_aae02.2.1 kJ0_isLatin1_aae02.2.2.1 kJ0_isLatin1_aae02.2.2.2 ∈ TB := TB_mem (List.mem_of_getElem? (i := 323) (by decide +kernel)) rfl
def kJ0_length_8abf5 : Ky_ := (yJ0_length_8abf5, cJ0_length_8abf5, 1, (some .int))
theorem cw_J0_length_8abf5 : Cond.code kJ0_length_8abf5.1 kJ0_length_8abf5.2.1 kJ0_length_8abf5.2.2.1 kJ0_length_8abf5.2.2.2 ∈ TB := TB_mem (List.mem_of_getElem? (i := 329) (by decide +kernel)) rfl
def kJ0_coder_7d493 : Ky_ := (yJ0_coder_7d493, cJ0_coder_7d493, 1, (some .byte))
theorem cw_J0_coder_7d493 : Cond.code kJ0_coder_7d493.1 kJ0_coder_7d493.2.1 kJ0_coder_7d493.2.2.1 kJ0_coder_7d493.2.2.2 ∈ TB := TB_mem (List.mem_of_getElem? (i := 333) (by decide +kernel)) rfl
def kJ1_indexOf_4cfef : Ky_ := (yJ1_indexOf_4cfef, cJ1_indexOf_4cfef, 4, (some .int))
theorem cw_J1_indexOf_4cfef : Cond.code kJ1_indexOf_4cfef.1 kJ1_indexOf_4cfef.2.1 kJ1_indexOf_4cfef.2.2.1 kJ1_indexOf_4cfef.2.2.2 ∈ TB := TB_mem (List.mem_of_getElem? (i := 336) (by decide +kernel)) rfl
def kJ1_canEncode_9a6ad : Ky_ := (yJ1_canEncode_9a6ad, cJ1_canEncode_9a6ad, 1, (some .boolean))
theorem cw_J1_canEncode_9a6ad : Cond.code kJ1_canEncode_9a6ad.1 kJ1_canEncode_9a6ad.2.1 kJ1_canEncode_9a6ad.2.2.1 kJ1_canEncode_9a6ad.2.2.2 ∈ TB := TB_mem (List.mem_of_getElem? (i := 339) (by decide +kernel)) rfl
def kJ9_max_7cf53 : Ky_ := (yJ9_max_7cf53, cJ9_max_7cf53, 2, (some .int))
theorem cw_J9_max_7cf53 : Cond.code kJ9_max_7cf53.1 kJ9_max_7cf53.2.1 kJ9_max_7cf53.2.2.1 kJ9_max_7cf53.2.2.2 ∈ TB := TB_mem (List.mem_of_getElem? (i := 342) (by decide +kernel)) rfl
def kJ9_min_7cf53 : Ky_ := (yJ9_min_7cf53, cJ9_min_7cf53, 2, (some .int))
theorem cw_J9_min_7cf53 : Cond.code kJ9_min_7cf53.1 kJ9_min_7cf53.2.1 kJ9_min_7cf53.2.2.1 kJ9_min_7cf53.2.2.2 ∈ TB := TB_mem (List.mem_of_getElem? (i := 345) (by decide +kernel)) rfl
def kJ1_indexOfChar_4cfef : Ky_ := (yJ1_indexOfChar_4cfef, cJ1_indexOfChar_4cfef, 6, (some .int))
theorem cw_J1_indexOfChar_4cfef : Cond.code kJ1_indexOfChar_4cfef.1 kJ1_indexOfChar_4cfef.2.1 kJ1_indexOfChar_4cfef.2.2.1 kJ1_indexOfChar_4cfef.2.2.2 ∈ TB := TB_mem (List.mem_of_getElem? (i := 348) (by decide +kernel)) rfl
def kJ2_indexOf_4cfef : Ky_ := (yJ2_indexOf_4cfef, cJ2_indexOf_4cfef, 4, (some .int))
theorem cw_J2_indexOf_4cfef : Cond.code kJ2_indexOf_4cfef.1 kJ2_indexOf_4cfef.2.1 kJ2_indexOf_4cfef.2.2.1 kJ2_indexOf_4cfef.2.2.2 ∈ TB := TB_mem (List.mem_of_getElem? (i := 351) (by decide +kernel)) rfl
def kJ2_indexOfChar_4cfef : Ky_ := (yJ2_indexOfChar_4cfef, cJ2_indexOfChar_4cfef, 4, (some .int))
theorem cw_J2_indexOfChar_4cfef : Cond.code kJ2_indexOfChar_4cfef.1 kJ2_indexOfChar_4cfef.2.1 kJ2_indexOfChar_4cfef.2.2.1 kJ2_indexOfChar_4cfef.2.2.2 ∈ TB := TB_mem (List.mem_of_getElem? (i := 357) (by decide +kernel)) rfl
def kJ2_checkBoundsBeginEnd_d044e : Ky_ := (yJ2_checkBoundsBeginEnd_d044e, cJ2_checkBoundsBeginEnd_d044e, 3, none)
theorem cw_J2_checkBoundsBeginEnd_d044e : Cond.code kJ2_checkBoundsBeginEnd_d044e.1 kJ2_checkBoundsBeginEnd_d044e.2.1 kJ2_checkBoundsBeginEnd_d044e.2.2.1 kJ2_checkBoundsBeginEnd_d044e.2.2.2 ∈ TB := TB_mem (List.mem_of_getElem? (i := 360) (by decide +kernel)) rfl
def kJ2_length_9d52b : Ky_ := (yJ2_length_9d52b, cJ2_length_9d52b, 1, (some .int))
theorem cw_J2_length_9d52b : Cond.code kJ2_length_9d52b.1 kJ2_length_9d52b.2.1 kJ2_length_9d52b.2.2.1 kJ2_length_9d52b.2.2.2 ∈ TB := TB_mem (List.mem_of_getElem? (i := 363) (by decide +kernel)) rfl
def kJ0_checkBoundsBeginEnd_23922 : Ky_ := (yJ0_checkBoundsBeginEnd_23922, cJ0_checkBoundsBeginEnd_23922, 3, none)
theorem cw_J0_checkBoundsBeginEnd_23922 : Cond.code kJ0_checkBoundsBeginEnd_23922.1 kJ0_checkBoundsBeginEnd_23922.2.1 kJ0_checkBoundsBeginEnd_23922.2.2.1 kJ0_checkBoundsBeginEnd_23922.2.2.2 ∈ TB := TB_mem (List.mem_of_getElem? (i := 366) (by decide +kernel)) rfl
def kJ3_checkFromToIndex_8c36e : Ky_ := (yJ3_checkFromToIndex_8c36e, cJ3_checkFromToIndex_8c36e, 4, (some .int))
theorem cw_J3_checkFromToIndex_8c36e : Cond.code kJ3_checkFromToIndex_8c36e.1 kJ3_checkFromToIndex_8c36e.2.1 kJ3_checkFromToIndex_8c36e.2.2.1 kJ3_checkFromToIndex_8c36e.2.2.2 ∈ TB := TB_mem (List.mem_of_getElem? (i := 371) (by decide +kernel)) rfl
def kJ2_indexOfCharUnsafe_4cfef : Ky_ := (yJ2_indexOfCharUnsafe_4cfef, cJ2_indexOfCharUnsafe_4cfef, 5, (some .int))
theorem cw_J2_indexOfCharUnsafe_4cfef : Cond.code kJ2_indexOfCharUnsafe_4cfef.1 kJ2_indexOfCharUnsafe_4cfef.2.1 kJ2_indexOfCharUnsafe_4cfef.2.2.1 kJ2_indexOfCharUnsafe_4cfef.2.2.2 ∈ TB := TB_mem (List.mem_of_getElem? (i := 374) (by decide +kernel)) rfl
def kJ2_getChar_3b067 : Ky_ := (yJ2_getChar_3b067, cJ2_getChar_3b067, 2, (some .char))
theorem cw_J2_getChar_3b067 : Cond.code kJ2_getChar_3b067.1 kJ2_getChar_3b067.2.1 kJ2_getChar_3b067.2.2.1 kJ2_getChar_3b067.2.2.2 ∈ TB := TB_mem (List.mem_of_getElem? (i := 377) (by decide +kernel)) rfl
def kJ2_indexOfSupplementary_4cfef : Ky_ := (yJ2_indexOfSupplementary_4cfef, cJ2_indexOfSupplementary_4cfef, 7, (some .int))
theorem cw_J2_indexOfSupplementary_4cfef : Cond.code kJ2_indexOfSupplementary_4cfef.1 kJ2_indexOfSupplementary_4cfef.2.1 kJ2_indexOfSupplementary_4cfef.2.2.1 kJ2_indexOfSupplementary_4cfef.2.2.2 ∈ TB := TB_mem (List.mem_of_getElem? (i := 386) (by decide +kernel)) rfl
def kJ11_isValidCodePoint_9a6ad : Ky_ := (yJ11_isValidCodePoint_9a6ad, cJ11_isValidCodePoint_9a6ad, 2, (some .boolean))
theorem cw_J11_isValidCodePoint_9a6ad : Cond.code kJ11_isValidCodePoint_9a6ad.1 kJ11_isValidCodePoint_9a6ad.2.1 kJ11_isValidCodePoint_9a6ad.2.2.1 kJ11_isValidCodePoint_9a6ad.2.2.2 ∈ TB := TB_mem (List.mem_of_getElem? (i := 389) (by decide +kernel)) rfl
def kJ11_highSurrogate_5068e : Ky_ := (yJ11_highSurrogate_5068e, cJ11_highSurrogate_5068e, 1, (some .char))
theorem cw_J11_highSurrogate_5068e : Cond.code kJ11_highSurrogate_5068e.1 kJ11_highSurrogate_5068e.2.1 kJ11_highSurrogate_5068e.2.2.1 kJ11_highSurrogate_5068e.2.2.2 ∈ TB := TB_mem (List.mem_of_getElem? (i := 392) (by decide +kernel)) rfl
def kJ11_lowSurrogate_5068e : Ky_ := (yJ11_lowSurrogate_5068e, cJ11_lowSurrogate_5068e, 1, (some .char))
theorem cw_J11_lowSurrogate_5068e : Cond.code kJ11_lowSurrogate_5068e.1 kJ11_lowSurrogate_5068e.2.1 kJ11_lowSurrogate_5068e.2.2.1 kJ11_lowSurrogate_5068e.2.2.2 ∈ TB := TB_mem (List.mem_of_getElem? (i := 396) (by decide +kernel)) rfl
def kX1_fitsBehindPeople : Ky_ := (yX1_fitsBehindPeople, cX1_fitsBehindPeople, 3, (some .boolean))
theorem cw_X1_fitsBehindPeople : Cond.code kX1_fitsBehindPeople.1 kX1_fitsBehindPeople.2.1 kX1_fitsBehindPeople.2.2.1 kX1_fitsBehindPeople.2.2.2 ∈ TB := TB_mem (List.mem_of_getElem? (i := 401) (by decide +kernel)) rfl
def kX6_valley : Ky_ := (yX6_valley, cX6_valley, 1, (some .int))
theorem cw_X6_valley : Cond.code kX6_valley.1 kX6_valley.2.1 kX6_valley.2.2.1 kX6_valley.2.2.2 ∈ TB := TB_mem (List.mem_of_getElem? (i := 406) (by decide +kernel)) rfl
def kX1_isValley : Ky_ := (yX1_isValley, cX1_isValley, 2, (some .boolean))
theorem cw_X1_isValley : Cond.code kX1_isValley.1 kX1_isValley.2.1 kX1_isValley.2.2.1 kX1_isValley.2.2.2 ∈ TB := TB_mem (List.mem_of_getElem? (i := 410) (by decide +kernel)) rfl
def kX3_clear : Ky_ := (yX3_clear, cX3_clear, 1, none)
theorem cw_X3_clear : Cond.code kX3_clear.1 kX3_clear.2.1 kX3_clear.2.2.1 kX3_clear.2.2.2 ∈ TB := TB_mem (List.mem_of_getElem? (i := 415) (by decide +kernel)) rfl
def kJ7_fill_53178 : Ky_ := (yJ7_fill_53178, cJ7_fill_53178, 4, none)
theorem cw_J7_fill_53178 : Cond.code kJ7_fill_53178.1 kJ7_fill_53178.2.1 kJ7_fill_53178.2.2.1 kJ7_fill_53178.2.2.2 ∈ TB := TB_mem (List.mem_of_getElem? (i := 418) (by decide +kernel)) rfl
def kX5_read : Ky_ := (yX5_read, cX5_read, 7, none)
theorem cw_X5_read : Cond.code kX5_read.1 kX5_read.2.1 kX5_read.2.2.1 kX5_read.2.2.2 ∈ TB := TB_mem (List.mem_of_getElem? (i := 422) (by decide +kernel)) rfl
def kX4_growthFromNone : Ky_ := (yX4_growthFromNone, cX4_growthFromNone, 5, (some .int))
theorem cw_X4_growthFromNone : Cond.code kX4_growthFromNone.1 kX4_growthFromNone.2.1 kX4_growthFromNone.2.2.1 kX4_growthFromNone.2.2.2 ∈ TB := TB_mem (List.mem_of_getElem? (i := 431) (by decide +kernel)) rfl
def kX6_isSlight : Ky_ := (yX6_isSlight, cX6_isSlight, 1, (some .boolean))
theorem cw_X6_isSlight : Cond.code kX6_isSlight.1 kX6_isSlight.2.1 kX6_isSlight.2.2.1 kX6_isSlight.2.2.2 ∈ TB := TB_mem (List.mem_of_getElem? (i := 434) (by decide +kernel)) rfl
def kX4_isOf : Ky_ := (yX4_isOf, cX4_isOf, 2, (some .boolean))
theorem cw_X4_isOf : Cond.code kX4_isOf.1 kX4_isOf.2.1 kX4_isOf.2.2.1 kX4_isOf.2.2.2 ∈ TB := TB_mem (List.mem_of_getElem? (i := 439) (by decide +kernel)) rfl
def kX6_person : Ky_ := (yX6_person, cX6_person, 3, (some .int))
theorem cw_X6_person : Cond.code kX6_person.1 kX6_person.2.1 kX6_person.2.2.1 kX6_person.2.2.2 ∈ TB := TB_mem (List.mem_of_getElem? (i := 443) (by decide +kernel)) rfl
def kX5_hasPerson : Ky_ := (yX5_hasPerson, cX5_hasPerson, 2, (some .boolean))
theorem cw_X5_hasPerson : Cond.code kX5_hasPerson.1 kX5_hasPerson.2.1 kX5_hasPerson.2.2.1 kX5_hasPerson.2.2.2 ∈ TB := TB_mem (List.mem_of_getElem? (i := 447) (by decide +kernel)) rfl
def kX6_isRowPlace : Ky_ := (yX6_isRowPlace, cX6_isRowPlace, 1, (some .boolean))
theorem cw_X6_isRowPlace : Cond.code kX6_isRowPlace.1 kX6_isRowPlace.2.1 kX6_isRowPlace.2.2.1 kX6_isRowPlace.2.2.2 ∈ TB := TB_mem (List.mem_of_getElem? (i := 450) (by decide +kernel)) rfl
def kX5_growth : Ky_ := (yX5_growth, cX5_growth, 3, (some .int))
theorem cw_X5_growth : Cond.code kX5_growth.1 kX5_growth.2.1 kX5_growth.2.2.1 kX5_growth.2.2.2 ∈ TB := TB_mem (List.mem_of_getElem? (i := 454) (by decide +kernel)) rfl
def kX5_hasSlight : Ky_ := (yX5_hasSlight, cX5_hasSlight, 2, (some .boolean))
theorem cw_X5_hasSlight : Cond.code kX5_hasSlight.1 kX5_hasSlight.2.1 kX5_hasSlight.2.2.1 kX5_hasSlight.2.2.2 ∈ TB := TB_mem (List.mem_of_getElem? (i := 458) (by decide +kernel)) rfl
def kX0_findSeat : Ky_ := (yX0_findSeat, cX0_findSeat, 7, (some .int))
theorem cw_X0_findSeat : Cond.code kX0_findSeat.1 kX0_findSeat.2.1 kX0_findSeat.2.2.1 kX0_findSeat.2.2.2 ∈ TB := TB_mem (List.mem_of_getElem? (i := 462) (by decide +kernel)) rfl
def kX3_copyForcesFrom : Ky_ := (yX3_copyForcesFrom, cX3_copyForcesFrom, 2, none)
theorem cw_X3_copyForcesFrom : Cond.code kX3_copyForcesFrom.1 kX3_copyForcesFrom.2.1 kX3_copyForcesFrom.2.2.1 kX3_copyForcesFrom.2.2.2 ∈ TB := TB_mem (List.mem_of_getElem? (i := 467) (by decide +kernel)) rfl
def kX5_allThatWouldSet : Ky_ := (yX5_allThatWouldSet, cX5_allThatWouldSet, 4, (some .int))
theorem cw_X5_allThatWouldSet : Cond.code kX5_allThatWouldSet.1 kX5_allThatWouldSet.2.1 kX5_allThatWouldSet.2.2.1 kX5_allThatWouldSet.2.2.2 ∈ TB := TB_mem (List.mem_of_getElem? (i := 474) (by decide +kernel)) rfl
def kX3_forceAt : Ky_ := (yX3_forceAt, cX3_forceAt, 4, (some .int))
theorem cw_X3_forceAt : Cond.code kX3_forceAt.1 kX3_forceAt.2.1 kX3_forceAt.2.2.1 kX3_forceAt.2.2.2 ∈ TB := TB_mem (List.mem_of_getElem? (i := 478) (by decide +kernel)) rfl
def kX3_reach : Ky_ := (yX3_reach, cX3_reach, 4, (some .int))
theorem cw_X3_reach : Cond.code kX3_reach.1 kX3_reach.2.1 kX3_reach.2.2.1 kX3_reach.2.2.2 ∈ TB := TB_mem (List.mem_of_getElem? (i := 481) (by decide +kernel)) rfl
def kJ6_bitCount_0f7a4 : Ky_ := (yJ6_bitCount_0f7a4, cJ6_bitCount_0f7a4, 1, (some .int))
theorem cw_J6_bitCount_0f7a4 : Cond.code kJ6_bitCount_0f7a4.1 kJ6_bitCount_0f7a4.2.1 kJ6_bitCount_0f7a4.2.2.1 kJ6_bitCount_0f7a4.2.2.2 ∈ TB := TB_mem (List.mem_of_getElem? (i := 484) (by decide +kernel)) rfl
def kX2_prides : Ky_ := (yX2_prides, cX2_prides, 5, (some .int))
theorem cw_X2_prides : Cond.code kX2_prides.1 kX2_prides.2.1 kX2_prides.2.2.1 kX2_prides.2.2.2 ∈ TB := TB_mem (List.mem_of_getElem? (i := 491) (by decide +kernel)) rfl
def kX2_allowsPride : Ky_ := (yX2_allowsPride, cX2_allowsPride, 5, (some .boolean))
theorem cw_X2_allowsPride : Cond.code kX2_allowsPride.1 kX2_allowsPride.2.1 kX2_allowsPride.2.2.1 kX2_allowsPride.2.2.2 ∈ TB := TB_mem (List.mem_of_getElem? (i := 495) (by decide +kernel)) rfl
def kX4_bestTry : Ky_ := (yX4_bestTry, cX4_bestTry, 6, (some .int))
theorem cw_X4_bestTry : Cond.code kX4_bestTry.1 kX4_bestTry.2.1 kX4_bestTry.2.2.1 kX4_bestTry.2.2.2 ∈ TB := TB_mem (List.mem_of_getElem? (i := 499) (by decide +kernel)) rfl
def kX4_mostLeft : Ky_ := (yX4_mostLeft, cX4_mostLeft, 6, (some .int))
theorem cw_X4_mostLeft : Cond.code kX4_mostLeft.1 kX4_mostLeft.2.1 kX4_mostLeft.2.2.1 kX4_mostLeft.2.2.2 ∈ TB := TB_mem (List.mem_of_getElem? (i := 502) (by decide +kernel)) rfl
def kX4_hasPride : Ky_ := (yX4_hasPride, cX4_hasPride, 2, (some .boolean))
theorem cw_X4_hasPride : Cond.code kX4_hasPride.1 kX4_hasPride.2.1 kX4_hasPride.2.2.1 kX4_hasPride.2.2.2 ∈ TB := TB_mem (List.mem_of_getElem? (i := 505) (by decide +kernel)) rfl
def kX4_likeOnes : Ky_ := (yX4_likeOnes, cX4_likeOnes, 6, (some .int))
theorem cw_X4_likeOnes : Cond.code kX4_likeOnes.1 kX4_likeOnes.2.1 kX4_likeOnes.2.2.1 kX4_likeOnes.2.2.2 ∈ TB := TB_mem (List.mem_of_getElem? (i := 509) (by decide +kernel)) rfl
def kX6_as : Ky_ := (yX6_as, cX6_as, 3, (some .int))
theorem cw_X6_as : Cond.code kX6_as.1 kX6_as.2.1 kX6_as.2.2.1 kX6_as.2.2.2 ∈ TB := TB_mem (List.mem_of_getElem? (i := 514) (by decide +kernel)) rfl
def kX6_pail : Ky_ := (yX6_pail, cX6_pail, 3, (some .int))
theorem cw_X6_pail : Cond.code kX6_pail.1 kX6_pail.2.1 kX6_pail.2.2.1 kX6_pail.2.2.2 ∈ TB := TB_mem (List.mem_of_getElem? (i := 519) (by decide +kernel)) rfl
def kX5_hasPail : Ky_ := (yX5_hasPail, cX5_hasPail, 2, (some .boolean))
theorem cw_X5_hasPail : Cond.code kX5_hasPail.1 kX5_hasPail.2.1 kX5_hasPail.2.2.1 kX5_hasPail.2.2.2 ∈ TB := TB_mem (List.mem_of_getElem? (i := 523) (by decide +kernel)) rfl
def kX3_isSet : Ky_ := (yX3_isSet, cX3_isSet, 2, (some .boolean))
theorem cw_X3_isSet : Cond.code kX3_isSet.1 kX3_isSet.2.1 kX3_isSet.2.2.1 kX3_isSet.2.2.2 ∈ TB := TB_mem (List.mem_of_getElem? (i := 528) (by decide +kernel)) rfl
def kX5_wouldSet : Ky_ := (yX5_wouldSet, cX5_wouldSet, 3, (some .boolean))
theorem cw_X5_wouldSet : Cond.code kX5_wouldSet.1 kX5_wouldSet.2.1 kX5_wouldSet.2.2.1 kX5_wouldSet.2.2.2 ∈ TB := TB_mem (List.mem_of_getElem? (i := 532) (by decide +kernel)) rfl
def kX6_bottlesFor : Ky_ := (yX6_bottlesFor, cX6_bottlesFor, 3, (some .int))
theorem cw_X6_bottlesFor : Cond.code kX6_bottlesFor.1 kX6_bottlesFor.2.1 kX6_bottlesFor.2.2.1 kX6_bottlesFor.2.2.2 ∈ TB := TB_mem (List.mem_of_getElem? (i := 537) (by decide +kernel)) rfl
def kX3_bottlesWorth : Ky_ := (yX3_bottlesWorth, cX3_bottlesWorth, 8, (some .int))
theorem cw_X3_bottlesWorth : Cond.code kX3_bottlesWorth.1 kX3_bottlesWorth.2.1 kX3_bottlesWorth.2.2.1 kX3_bottlesWorth.2.2.2 ∈ TB := TB_mem (List.mem_of_getElem? (i := 541) (by decide +kernel)) rfl
def kX3_fullBottles : Ky_ := (yX3_fullBottles, cX3_fullBottles, 3, (some .int))
theorem cw_X3_fullBottles : Cond.code kX3_fullBottles.1 kX3_fullBottles.2.1 kX3_fullBottles.2.2.1 kX3_fullBottles.2.2.2 ∈ TB := TB_mem (List.mem_of_getElem? (i := 545) (by decide +kernel)) rfl
def kX3_heldIn : Ky_ := (yX3_heldIn, cX3_heldIn, 4, (some .int))
theorem cw_X3_heldIn : Cond.code kX3_heldIn.1 kX3_heldIn.2.1 kX3_heldIn.2.2.1 kX3_heldIn.2.2.2 ∈ TB := TB_mem (List.mem_of_getElem? (i := 549) (by decide +kernel)) rfl
def kX6_odds : Ky_ := (yX6_odds, cX6_odds, 6, (some .int))
theorem cw_X6_odds : Cond.code kX6_odds.1 kX6_odds.2.1 kX6_odds.2.2.1 kX6_odds.2.2.2 ∈ TB := TB_mem (List.mem_of_getElem? (i := 554) (by decide +kernel)) rfl
def kX0_slightsThatSet : Ky_ := (yX0_slightsThatSet, cX0_slightsThatSet, 6, (some .int))
theorem cw_X0_slightsThatSet : Cond.code kX0_slightsThatSet.1 kX0_slightsThatSet.2.1 kX0_slightsThatSet.2.2.1 kX0_slightsThatSet.2.2.2 ∈ TB := TB_mem (List.mem_of_getElem? (i := 558) (by decide +kernel)) rfl
def kX5_slightNumbers : Ky_ := (yX5_slightNumbers, cX5_slightNumbers, 1, (some .int))
theorem cw_X5_slightNumbers : Cond.code kX5_slightNumbers.1 kX5_slightNumbers.2.1 kX5_slightNumbers.2.2.1 kX5_slightNumbers.2.2.2 ∈ TB := TB_mem (List.mem_of_getElem? (i := 562) (by decide +kernel)) rfl
def kX0_trySlight : Ky_ := (yX0_trySlight, cX0_trySlight, 4, none)
theorem cw_X0_trySlight : Cond.code kX0_trySlight.1 kX0_trySlight.2.1 kX0_trySlight.2.2.1 kX0_trySlight.2.2.2 ∈ TB := TB_mem (List.mem_of_getElem? (i := 566) (by decide +kernel)) rfl
def kX5_offend : Ky_ := (yX5_offend, cX5_offend, 4, none)
theorem cw_X5_offend : Cond.code kX5_offend.1 kX5_offend.2.1 kX5_offend.2.2.1 kX5_offend.2.2.2 ∈ TB := TB_mem (List.mem_of_getElem? (i := 570) (by decide +kernel)) rfl
def kX6_commonDivisor : Ky_ := (yX6_commonDivisor, cX6_commonDivisor, 6, (some .int))
theorem cw_X6_commonDivisor : Cond.code kX6_commonDivisor.1 kX6_commonDivisor.2.1 kX6_commonDivisor.2.2.1 kX6_commonDivisor.2.2.2 ∈ TB := TB_mem (List.mem_of_getElem? (i := 575) (by decide +kernel)) rfl
def kX6_slight : Ky_ := (yX6_slight, cX6_slight, 3, (some .int))
theorem cw_X6_slight : Cond.code kX6_slight.1 kX6_slight.2.1 kX6_slight.2.2.1 kX6_slight.2.2.2 ∈ TB := TB_mem (List.mem_of_getElem? (i := 579) (by decide +kernel)) rfl
def kX6_soothe : Ky_ := (yX6_soothe, cX6_soothe, 3, (some .int))
theorem cw_X6_soothe : Cond.code kX6_soothe.1 kX6_soothe.2.1 kX6_soothe.2.2.1 kX6_soothe.2.2.2 ∈ TB := TB_mem (List.mem_of_getElem? (i := 585) (by decide +kernel)) rfl
def kX6_sit : Ky_ := (yX6_sit, cX6_sit, 4, (some .int))
theorem cw_X6_sit : Cond.code kX6_sit.1 kX6_sit.2.1 kX6_sit.2.2.1 kX6_sit.2.2.2 ∈ TB := TB_mem (List.mem_of_getElem? (i := 589) (by decide +kernel)) rfl
def kX6_isPlace : Ky_ := (yX6_isPlace, cX6_isPlace, 1, (some .boolean))
theorem cw_X6_isPlace : Cond.code kX6_isPlace.1 kX6_isPlace.2.1 kX6_isPlace.2.2.1 kX6_isPlace.2.2.2 ∈ TB := TB_mem (List.mem_of_getElem? (i := 592) (by decide +kernel)) rfl
def kX6_night : Ky_ := (yX6_night, cX6_night, 1, (some .int))
theorem cw_X6_night : Cond.code kX6_night.1 kX6_night.2.1 kX6_night.2.2.1 kX6_night.2.2.2 ∈ TB := TB_mem (List.mem_of_getElem? (i := 596) (by decide +kernel)) rfl
def kX5_isThere : Ky_ := (yX5_isThere, cX5_isThere, 1, (some .boolean))
theorem cw_X5_isThere : Cond.code kX5_isThere.1 kX5_isThere.2.1 kX5_isThere.2.2.1 kX5_isThere.2.2.2 ∈ TB := TB_mem (List.mem_of_getElem? (i := 600) (by decide +kernel)) rfl
def kX5_passNight : Ky_ := (yX5_passNight, cX5_passNight, 3, none)
theorem cw_X5_passNight : Cond.code kX5_passNight.1 kX5_passNight.2.1 kX5_passNight.2.2.1 kX5_passNight.2.2.2 ∈ TB := TB_mem (List.mem_of_getElem? (i := 604) (by decide +kernel)) rfl
def kX4_overnight : Ky_ := (yX4_overnight, cX4_overnight, 2, (some .int))
theorem cw_X4_overnight : Cond.code kX4_overnight.1 kX4_overnight.2.1 kX4_overnight.2.2.1 kX4_overnight.2.2.2 ∈ TB := TB_mem (List.mem_of_getElem? (i := 607) (by decide +kernel)) rfl
def kX6_curdle : Ky_ := (yX6_curdle, cX6_curdle, 3, (some .int))
theorem cw_X6_curdle : Cond.code kX6_curdle.1 kX6_curdle.2.1 kX6_curdle.2.2.1 kX6_curdle.2.2.2 ∈ TB := TB_mem (List.mem_of_getElem? (i := 611) (by decide +kernel)) rfl
def kX6_fresh : Ky_ := (yX6_fresh, cX6_fresh, 3, (some .int))
theorem cw_X6_fresh : Cond.code kX6_fresh.1 kX6_fresh.2.1 kX6_fresh.2.2.1 kX6_fresh.2.2.2 ∈ TB := TB_mem (List.mem_of_getElem? (i := 617) (by decide +kernel)) rfl
def kX6_force : Ky_ := (yX6_force, cX6_force, 2, (some .int))
theorem cw_X6_force : Cond.code kX6_force.1 kX6_force.2.1 kX6_force.2.2.1 kX6_force.2.2.2 ∈ TB := TB_mem (List.mem_of_getElem? (i := 621) (by decide +kernel)) rfl
def kX6_keep : Ky_ := (yX6_keep, cX6_keep, 3, (some .int))
theorem cw_X6_keep : Cond.code kX6_keep.1 kX6_keep.2.1 kX6_keep.2.2.1 kX6_keep.2.2.2 ∈ TB := TB_mem (List.mem_of_getElem? (i := 625) (by decide +kernel)) rfl
def kX6_hasBottle : Ky_ := (yX6_hasBottle, cX6_hasBottle, 2, (some .boolean))
theorem cw_X6_hasBottle : Cond.code kX6_hasBottle.1 kX6_hasBottle.2.1 kX6_hasBottle.2.2.1 kX6_hasBottle.2.2.2 ∈ TB := TB_mem (List.mem_of_getElem? (i := 629) (by decide +kernel)) rfl
def kX6_pour : Ky_ := (yX6_pour, cX6_pour, 4, (some .int))
theorem cw_X6_pour : Cond.code kX6_pour.1 kX6_pour.2.1 kX6_pour.2.2.1 kX6_pour.2.2.2 ∈ TB := TB_mem (List.mem_of_getElem? (i := 633) (by decide +kernel)) rfl
def kX3_addDrop : Ky_ := (yX3_addDrop, cX3_addDrop, 3, none)
theorem cw_X3_addDrop : Cond.code kX3_addDrop.1 kX3_addDrop.2.1 kX3_addDrop.2.2.1 kX3_addDrop.2.2.2 ∈ TB := TB_mem (List.mem_of_getElem? (i := 637) (by decide +kernel)) rfl
def kX6_bottle : Ky_ := (yX6_bottle, cX6_bottle, 2, (some .int))
theorem cw_X6_bottle : Cond.code kX6_bottle.1 kX6_bottle.2.1 kX6_bottle.2.2.1 kX6_bottle.2.2.2 ∈ TB := TB_mem (List.mem_of_getElem? (i := 641) (by decide +kernel)) rfl
def kX6_would : Ky_ := (yX6_would, cX6_would, 1, (some .int))
theorem cw_X6_would : Cond.code kX6_would.1 kX6_would.2.1 kX6_would.2.2.1 kX6_would.2.2.2 ∈ TB := TB_mem (List.mem_of_getElem? (i := 645) (by decide +kernel)) rfl
def kX6_few : Ky_ := (yX6_few, cX6_few, 3, (some .int))
theorem cw_X6_few : Cond.code kX6_few.1 kX6_few.2.1 kX6_few.2.2.1 kX6_few.2.2.2 ∈ TB := TB_mem (List.mem_of_getElem? (i := 649) (by decide +kernel)) rfl
def kX5_arePails : Ky_ := (yX5_arePails, cX5_arePails, 2, (some .boolean))
theorem cw_X5_arePails : Cond.code kX5_arePails.1 kX5_arePails.2.1 kX5_arePails.2.2.1 kX5_arePails.2.2.2 ∈ TB := TB_mem (List.mem_of_getElem? (i := 653) (by decide +kernel)) rfl
def kX6_isRowTell : Ky_ := (yX6_isRowTell, cX6_isRowTell, 1, (some .boolean))
theorem cw_X6_isRowTell : Cond.code kX6_isRowTell.1 kX6_isRowTell.2.1 kX6_isRowTell.2.2.1 kX6_isRowTell.2.2.2 ∈ TB := TB_mem (List.mem_of_getElem? (i := 656) (by decide +kernel)) rfl
def kX0_findFew : Ky_ := (yX0_findFew, cX0_findFew, 5, none)
theorem cw_X0_findFew : Cond.code kX0_findFew.1 kX0_findFew.2.1 kX0_findFew.2.2.1 kX0_findFew.2.2.2 ∈ TB := TB_mem (List.mem_of_getElem? (i := 660) (by decide +kernel)) rfl
def kX0_rowSets : Ky_ := (yX0_rowSets, cX0_rowSets, 10, (some .boolean))
theorem cw_X0_rowSets : Cond.code kX0_rowSets.1 kX0_rowSets.2.1 kX0_rowSets.2.2.1 kX0_rowSets.2.2.2 ∈ TB := TB_mem (List.mem_of_getElem? (i := 664) (by decide +kernel)) rfl
def kX0_tell : Ky_ := (yX0_tell, cX0_tell, 4, (some .int))
theorem cw_X0_tell : Cond.code kX0_tell.1 kX0_tell.2.1 kX0_tell.2.2.1 kX0_tell.2.2.2 ∈ TB := TB_mem (List.mem_of_getElem? (i := 669) (by decide +kernel)) rfl
def kX6_week : Ky_ := (yX6_week, cX6_week, 3, (some .int))
theorem cw_X6_week : Cond.code kX6_week.1 kX6_week.2.1 kX6_week.2.2.1 kX6_week.2.2.2 ∈ TB := TB_mem (List.mem_of_getElem? (i := 673) (by decide +kernel)) rfl
def kX0_findWeek : Ky_ := (yX0_findWeek, cX0_findWeek, 4, none)
theorem cw_X0_findWeek : Cond.code kX0_findWeek.1 kX0_findWeek.2.1 kX0_findWeek.2.2.1 kX0_findWeek.2.2.2 ∈ TB := TB_mem (List.mem_of_getElem? (i := 677) (by decide +kernel)) rfl
def kX0_tryDay : Ky_ := (yX0_tryDay, cX0_tryDay, 8, none)
theorem cw_X0_tryDay : Cond.code kX0_tryDay.1 kX0_tryDay.2.1 kX0_tryDay.2.2.1 kX0_tryDay.2.2.2 ∈ TB := TB_mem (List.mem_of_getElem? (i := 681) (by decide +kernel)) rfl
def kX6_who : Ky_ := (yX6_who, cX6_who, 2, (some .int))
theorem cw_X6_who : Cond.code kX6_who.1 kX6_who.2.1 kX6_who.2.2.1 kX6_who.2.2.2 ∈ TB := TB_mem (List.mem_of_getElem? (i := 686) (by decide +kernel)) rfl
def kX0_slightsThatSetJust : Ky_ := (yX0_slightsThatSetJust, cX0_slightsThatSetJust, 6, (some .int))
theorem cw_X0_slightsThatSetJust : Cond.code kX0_slightsThatSetJust.1 kX0_slightsThatSetJust.2.1 kX0_slightsThatSetJust.2.2.1 kX0_slightsThatSetJust.2.2.2 ∈ TB := TB_mem (List.mem_of_getElem? (i := 690) (by decide +kernel)) rfl
def kX6_see : Ky_ := (yX6_see, cX6_see, 4, (some .int))
theorem cw_X6_see : Cond.code kX6_see.1 kX6_see.2.1 kX6_see.2.2.1 kX6_see.2.2.2 ∈ TB := TB_mem (List.mem_of_getElem? (i := 694) (by decide +kernel)) rfl
def kX2_add : Ky_ := (yX2_add, cX2_add, 4, none)
theorem cw_X2_add : Cond.code kX2_add.1 kX2_add.2.1 kX2_add.2.2.1 kX2_add.2.2.2 ∈ TB := TB_mem (List.mem_of_getElem? (i := 698) (by decide +kernel)) rfl
def kX6_forget : Ky_ := (yX6_forget, cX6_forget, 2, (some .int))
theorem cw_X6_forget : Cond.code kX6_forget.1 kX6_forget.2.1 kX6_forget.2.2.1 kX6_forget.2.2.2 ∈ TB := TB_mem (List.mem_of_getElem? (i := 702) (by decide +kernel)) rfl
def kX6_weeks : Ky_ := (yX6_weeks, cX6_weeks, 4, (some .int))
theorem cw_X6_weeks : Cond.code kX6_weeks.1 kX6_weeks.2.1 kX6_weeks.2.2.1 kX6_weeks.2.2.2 ∈ TB := TB_mem (List.mem_of_getElem? (i := 706) (by decide +kernel)) rfl
def kX0_runWeeks : Ky_ := (yX0_runWeeks, cX0_runWeeks, 8, none)
theorem cw_X0_runWeeks : Cond.code kX0_runWeeks.1 kX0_runWeeks.2.1 kX0_runWeeks.2.2.1 kX0_runWeeks.2.2.2 ∈ TB := TB_mem (List.mem_of_getElem? (i := 710) (by decide +kernel)) rfl
def kX0_draw : Ky_ := (yX0_draw, cX0_draw, 2, (some .int))
theorem cw_X0_draw : Cond.code kX0_draw.1 kX0_draw.2.1 kX0_draw.2.2.1 kX0_draw.2.2.2 ∈ TB := TB_mem (List.mem_of_getElem? (i := 714) (by decide +kernel)) rfl
def kX3_allGrudges : Ky_ := (yX3_allGrudges, cX3_allGrudges, 1, (some .int))
theorem cw_X3_allGrudges : Cond.code kX3_allGrudges.1 kX3_allGrudges.2.1 kX3_allGrudges.2.2.1 kX3_allGrudges.2.2.2 ∈ TB := TB_mem (List.mem_of_getElem? (i := 722) (by decide +kernel)) rfl
def kX3_sumOf : Ky_ := (yX3_sumOf, cX3_sumOf, 6, (some .int))
theorem cw_X3_sumOf : Cond.code kX3_sumOf.1 kX3_sumOf.2.1 kX3_sumOf.2.2.1 kX3_sumOf.2.2.2 ∈ TB := TB_mem (List.mem_of_getElem? (i := 725) (by decide +kernel)) rfl
def kX6_image : Ky_ := (yX6_image, cX6_image, 1, (some .int))
theorem cw_X6_image : Cond.code kX6_image.1 kX6_image.2.1 kX6_image.2.2.1 kX6_image.2.2.2 ∈ TB := TB_mem (List.mem_of_getElem? (i := 729) (by decide +kernel)) rfl
def kX3_copyFrom : Ky_ := (yX3_copyFrom, cX3_copyFrom, 2, none)
theorem cw_X3_copyFrom : Cond.code kX3_copyFrom.1 kX3_copyFrom.2.1 kX3_copyFrom.2.2.1 kX3_copyFrom.2.2.2 ∈ TB := TB_mem (List.mem_of_getElem? (i := 733) (by decide +kernel)) rfl
def kX2_copyFrom : Ky_ := (yX2_copyFrom, cX2_copyFrom, 2, none)
theorem cw_X2_copyFrom : Cond.code kX2_copyFrom.1 kX2_copyFrom.2.1 kX2_copyFrom.2.2.1 kX2_copyFrom.2.2.2 ∈ TB := TB_mem (List.mem_of_getElem? (i := 737) (by decide +kernel)) rfl
def kX6_restore : Ky_ := (yX6_restore, cX6_restore, 1, (some .int))
theorem cw_X6_restore : Cond.code kX6_restore.1 kX6_restore.2.1 kX6_restore.2.2.1 kX6_restore.2.2.2 ∈ TB := TB_mem (List.mem_of_getElem? (i := 743) (by decide +kernel)) rfl
def kX6_count : Ky_ := (yX6_count, cX6_count, 2, (some .int))
theorem cw_X6_count : Cond.code kX6_count.1 kX6_count.2.1 kX6_count.2.2.1 kX6_count.2.2.2 ∈ TB := TB_mem (List.mem_of_getElem? (i := 747) (by decide +kernel)) rfl
def kX3_allSlights : Ky_ := (yX3_allSlights, cX3_allSlights, 1, (some .int))
theorem cw_X3_allSlights : Cond.code kX3_allSlights.1 kX3_allSlights.2.1 kX3_allSlights.2.2.1 kX3_allSlights.2.2.2 ∈ TB := TB_mem (List.mem_of_getElem? (i := 752) (by decide +kernel)) rfl
def kX6_digest : Ky_ := (yX6_digest, cX6_digest, 5, (some .long))
theorem cw_X6_digest : Cond.code kX6_digest.1 kX6_digest.2.1 kX6_digest.2.2.1 kX6_digest.2.2.2 ∈ TB := TB_mem (List.mem_of_getElem? (i := 756) (by decide +kernel)) rfl
def kX7_init : Ky_ := (yX7_init, cX7_init, 1, none)
theorem cw_X7_init : Cond.code kX7_init.1 kX7_init.2.1 kX7_init.2.2.1 kX7_init.2.2.2 ∈ TB := TB_mem (List.mem_of_getElem? (i := 771) (by decide +kernel)) rfl
def kX7_letter : Ky_ := (yX7_letter, cX7_letter, 2, (some .int))
theorem cw_X7_letter : Cond.code kX7_letter.1 kX7_letter.2.1 kX7_letter.2.2.1 kX7_letter.2.2.2 ∈ TB := TB_mem (List.mem_of_getElem? (i := 897) (by decide +kernel)) rfl
def kX7_in : Ky_ := (yX7_in, cX7_in, 6, (some .boolean))
theorem cw_X7_in : Cond.code kX7_in.1 kX7_in.2.1 kX7_in.2.2.1 kX7_in.2.2.2 ∈ TB := TB_mem (List.mem_of_getElem? (i := 901) (by decide +kernel)) rfl
def kX7_blank : Ky_ := (yX7_blank, cX7_blank, 2, (some .int))
theorem cw_X7_blank : Cond.code kX7_blank.1 kX7_blank.2.1 kX7_blank.2.2.1 kX7_blank.2.2.2 ∈ TB := TB_mem (List.mem_of_getElem? (i := 905) (by decide +kernel)) rfl
def kX7_fault : Ky_ := (yX7_fault, cX7_fault, 1, (some .int))
theorem cw_X7_fault : Cond.code kX7_fault.1 kX7_fault.2.1 kX7_fault.2.2.1 kX7_fault.2.2.2 ∈ TB := TB_mem (List.mem_of_getElem? (i := 909) (by decide +kernel)) rfl
def kX7_faultOf : Ky_ := (yX7_faultOf, cX7_faultOf, 2, (some .int))
theorem cw_X7_faultOf : Cond.code kX7_faultOf.1 kX7_faultOf.2.1 kX7_faultOf.2.2.1 kX7_faultOf.2.2.2 ∈ TB := TB_mem (List.mem_of_getElem? (i := 913) (by decide +kernel)) rfl
def kX7_isGood : Ky_ := (yX7_isGood, cX7_isGood, 3, (some .boolean))
theorem cw_X7_isGood : Cond.code kX7_isGood.1 kX7_isGood.2.1 kX7_isGood.2.2.1 kX7_isGood.2.2.2 ∈ TB := TB_mem (List.mem_of_getElem? (i := 917) (by decide +kernel)) rfl
def kX7_isPersonLetter : Ky_ := (yX7_isPersonLetter, cX7_isPersonLetter, 3, (some .boolean))
theorem cw_X7_isPersonLetter : Cond.code kX7_isPersonLetter.1 kX7_isPersonLetter.2.1 kX7_isPersonLetter.2.2.1 kX7_isPersonLetter.2.2.2 ∈ TB := TB_mem (List.mem_of_getElem? (i := 923) (by decide +kernel)) rfl
def kX7_kindBy : Ky_ := (yX7_kindBy, cX7_kindBy, 1, (some .int))
theorem cw_X7_kindBy : Cond.code kX7_kindBy.1 kX7_kindBy.2.1 kX7_kindBy.2.2.1 kX7_kindBy.2.2.2 ∈ TB := TB_mem (List.mem_of_getElem? (i := 926) (by decide +kernel)) rfl
def kX7_valley : Ky_ := (yX7_valley, cX7_valley, 2, (some .int))
theorem cw_X7_valley : Cond.code kX7_valley.1 kX7_valley.2.1 kX7_valley.2.2.1 kX7_valley.2.2.2 ∈ TB := TB_mem (List.mem_of_getElem? (i := 932) (by decide +kernel)) rfl
def kX7_person : Ky_ := (yX7_person, cX7_person, 3, (some .int))
theorem cw_X7_person : Cond.code kX7_person.1 kX7_person.2.1 kX7_person.2.2.1 kX7_person.2.2.2 ∈ TB := TB_mem (List.mem_of_getElem? (i := 936) (by decide +kernel)) rfl
def kX7_isPerson : Ky_ := (yX7_isPerson, cX7_isPerson, 2, (some .boolean))
theorem cw_X7_isPerson : Cond.code kX7_isPerson.1 kX7_isPerson.2.1 kX7_isPerson.2.2.1 kX7_isPerson.2.2.2 ∈ TB := TB_mem (List.mem_of_getElem? (i := 940) (by decide +kernel)) rfl
def kX7_tellPerson : Ky_ := (yX7_tellPerson, cX7_tellPerson, 3, (some .int))
theorem cw_X7_tellPerson : Cond.code kX7_tellPerson.1 kX7_tellPerson.2.1 kX7_tellPerson.2.2.1 kX7_tellPerson.2.2.2 ∈ TB := TB_mem (List.mem_of_getElem? (i := 944) (by decide +kernel)) rfl
def kX7_growsOf : Ky_ := (yX7_growsOf, cX7_growsOf, 4, (some .int))
theorem cw_X7_growsOf : Cond.code kX7_growsOf.1 kX7_growsOf.2.1 kX7_growsOf.2.2.1 kX7_growsOf.2.2.2 ∈ TB := TB_mem (List.mem_of_getElem? (i := 950) (by decide +kernel)) rfl
def kX7_grievedBy : Ky_ := (yX7_grievedBy, cX7_grievedBy, 5, (some .int))
theorem cw_X7_grievedBy : Cond.code kX7_grievedBy.1 kX7_grievedBy.2.1 kX7_grievedBy.2.2.1 kX7_grievedBy.2.2.2 ∈ TB := TB_mem (List.mem_of_getElem? (i := 953) (by decide +kernel)) rfl
def kX7_topped : Ky_ := (yX7_topped, cX7_topped, 1, (some .int))
theorem cw_X7_topped : Cond.code kX7_topped.1 kX7_topped.2.1 kX7_topped.2.2.1 kX7_topped.2.2.2 ∈ TB := TB_mem (List.mem_of_getElem? (i := 956) (by decide +kernel)) rfl
def kX7_seatOf : Ky_ := (yX7_seatOf, cX7_seatOf, 8, (some .int))
theorem cw_X7_seatOf : Cond.code kX7_seatOf.1 kX7_seatOf.2.1 kX7_seatOf.2.2.1 kX7_seatOf.2.2.2 ∈ TB := TB_mem (List.mem_of_getElem? (i := 960) (by decide +kernel)) rfl
def kX7_wouldNow : Ky_ := (yX7_wouldNow, cX7_wouldNow, 1, (some .int))
theorem cw_X7_wouldNow : Cond.code kX7_wouldNow.1 kX7_wouldNow.2.1 kX7_wouldNow.2.2.1 kX7_wouldNow.2.2.2 ∈ TB := TB_mem (List.mem_of_getElem? (i := 964) (by decide +kernel)) rfl
def kX7_wouldOn : Ky_ := (yX7_wouldOn, cX7_wouldOn, 6, (some .int))
theorem cw_X7_wouldOn : Cond.code kX7_wouldOn.1 kX7_wouldOn.2.1 kX7_wouldOn.2.2.1 kX7_wouldOn.2.2.2 ∈ TB := TB_mem (List.mem_of_getElem? (i := 968) (by decide +kernel)) rfl
def kX7_forceOn : Ky_ := (yX7_forceOn, cX7_forceOn, 5, (some .int))
theorem cw_X7_forceOn : Cond.code kX7_forceOn.1 kX7_forceOn.2.1 kX7_forceOn.2.2.1 kX7_forceOn.2.2.2 ∈ TB := TB_mem (List.mem_of_getElem? (i := 972) (by decide +kernel)) rfl
def kX7_apart : Ky_ := (yX7_apart, cX7_apart, 2, (some .int))
theorem cw_X7_apart : Cond.code kX7_apart.1 kX7_apart.2.1 kX7_apart.2.2.1 kX7_apart.2.2.2 ∈ TB := TB_mem (List.mem_of_getElem? (i := 975) (by decide +kernel)) rfl
def kX7_forceBy : Ky_ := (yX7_forceBy, cX7_forceBy, 2, (some .int))
theorem cw_X7_forceBy : Cond.code kX7_forceBy.1 kX7_forceBy.2.1 kX7_forceBy.2.2.1 kX7_forceBy.2.2.2 ∈ TB := TB_mem (List.mem_of_getElem? (i := 978) (by decide +kernel)) rfl
def kX7_dropsAt : Ky_ := (yX7_dropsAt, cX7_dropsAt, 4, (some .int))
theorem cw_X7_dropsAt : Cond.code kX7_dropsAt.1 kX7_dropsAt.2.1 kX7_dropsAt.2.2.1 kX7_dropsAt.2.2.2 ∈ TB := TB_mem (List.mem_of_getElem? (i := 982) (by decide +kernel)) rfl
def kX7_ones : Ky_ := (yX7_ones, cX7_ones, 3, (some .int))
theorem cw_X7_ones : Cond.code kX7_ones.1 kX7_ones.2.1 kX7_ones.2.2.1 kX7_ones.2.2.2 ∈ TB := TB_mem (List.mem_of_getElem? (i := 985) (by decide +kernel)) rfl
def kX7_pridesOf : Ky_ := (yX7_pridesOf, cX7_pridesOf, 6, (some .int))
theorem cw_X7_pridesOf : Cond.code kX7_pridesOf.1 kX7_pridesOf.2.1 kX7_pridesOf.2.2.1 kX7_pridesOf.2.2.2 ∈ TB := TB_mem (List.mem_of_getElem? (i := 989) (by decide +kernel)) rfl
def kX7_tryOf : Ky_ := (yX7_tryOf, cX7_tryOf, 9, (some .int))
theorem cw_X7_tryOf : Cond.code kX7_tryOf.1 kX7_tryOf.2.1 kX7_tryOf.2.2.1 kX7_tryOf.2.2.2 ∈ TB := TB_mem (List.mem_of_getElem? (i := 993) (by decide +kernel)) rfl
def kX7_as : Ky_ := (yX7_as, cX7_as, 5, (some .int))
theorem cw_X7_as : Cond.code kX7_as.1 kX7_as.2.1 kX7_as.2.2.1 kX7_as.2.2.2 ∈ TB := TB_mem (List.mem_of_getElem? (i := 997) (by decide +kernel)) rfl
def kX7_pail : Ky_ := (yX7_pail, cX7_pail, 3, (some .int))
theorem cw_X7_pail : Cond.code kX7_pail.1 kX7_pail.2.1 kX7_pail.2.2.1 kX7_pail.2.2.2 ∈ TB := TB_mem (List.mem_of_getElem? (i := 1002) (by decide +kernel)) rfl
def kX7_isPail : Ky_ := (yX7_isPail, cX7_isPail, 2, (some .boolean))
theorem cw_X7_isPail : Cond.code kX7_isPail.1 kX7_isPail.2.1 kX7_isPail.2.2.1 kX7_isPail.2.2.2 ∈ TB := TB_mem (List.mem_of_getElem? (i := 1006) (by decide +kernel)) rfl
def kX7_tellPail : Ky_ := (yX7_tellPail, cX7_tellPail, 3, (some .int))
theorem cw_X7_tellPail : Cond.code kX7_tellPail.1 kX7_tellPail.2.1 kX7_tellPail.2.2.1 kX7_tellPail.2.2.2 ∈ TB := TB_mem (List.mem_of_getElem? (i := 1010) (by decide +kernel)) rfl
def kX7_forceAt : Ky_ := (yX7_forceAt, cX7_forceAt, 2, (some .int))
theorem cw_X7_forceAt : Cond.code kX7_forceAt.1 kX7_forceAt.2.1 kX7_forceAt.2.2.1 kX7_forceAt.2.2.2 ∈ TB := TB_mem (List.mem_of_getElem? (i := 1014) (by decide +kernel)) rfl
def kX7_pourOf : Ky_ := (yX7_pourOf, cX7_pourOf, 8, (some .int))
theorem cw_X7_pourOf : Cond.code kX7_pourOf.1 kX7_pourOf.2.1 kX7_pourOf.2.2.1 kX7_pourOf.2.2.2 ∈ TB := TB_mem (List.mem_of_getElem? (i := 1018) (by decide +kernel)) rfl
def kX7_isOfFull : Ky_ := (yX7_isOfFull, cX7_isOfFull, 4, (some .boolean))
theorem cw_X7_isOfFull : Cond.code kX7_isOfFull.1 kX7_isOfFull.2.1 kX7_isOfFull.2.2.1 kX7_isOfFull.2.2.2 ∈ TB := TB_mem (List.mem_of_getElem? (i := 1022) (by decide +kernel)) rfl
def kX7_inBottles : Ky_ := (yX7_inBottles, cX7_inBottles, 4, (some .int))
theorem cw_X7_inBottles : Cond.code kX7_inBottles.1 kX7_inBottles.2.1 kX7_inBottles.2.2.1 kX7_inBottles.2.2.2 ∈ TB := TB_mem (List.mem_of_getElem? (i := 1026) (by decide +kernel)) rfl
def kX7_oddsOf : Ky_ := (yX7_oddsOf, cX7_oddsOf, 5, (some .int))
theorem cw_X7_oddsOf : Cond.code kX7_oddsOf.1 kX7_oddsOf.2.1 kX7_oddsOf.2.2.1 kX7_oddsOf.2.2.2 ∈ TB := TB_mem (List.mem_of_getElem? (i := 1030) (by decide +kernel)) rfl
def kX7_oddsUp : Ky_ := (yX7_oddsUp, cX7_oddsUp, 4, (some .int))
theorem cw_X7_oddsUp : Cond.code kX7_oddsUp.1 kX7_oddsUp.2.1 kX7_oddsUp.2.2.1 kX7_oddsUp.2.2.2 ∈ TB := TB_mem (List.mem_of_getElem? (i := 1034) (by decide +kernel)) rfl
def kX7_copy : Ky_ := (yX7_copy, cX7_copy, 3, none)
theorem cw_X7_copy : Cond.code kX7_copy.1 kX7_copy.2.1 kX7_copy.2.2.1 kX7_copy.2.2.2 ∈ TB := TB_mem (List.mem_of_getElem? (i := 1037) (by decide +kernel)) rfl
def kX7_slightOn : Ky_ := (yX7_slightOn, cX7_slightOn, 4, none)
theorem cw_X7_slightOn : Cond.code kX7_slightOn.1 kX7_slightOn.2.1 kX7_slightOn.2.2.1 kX7_slightOn.2.2.2 ∈ TB := TB_mem (List.mem_of_getElem? (i := 1041) (by decide +kernel)) rfl
def kX7_common : Ky_ := (yX7_common, cX7_common, 5, (some .int))
theorem cw_X7_common : Cond.code kX7_common.1 kX7_common.2.1 kX7_common.2.2.1 kX7_common.2.2.2 ∈ TB := TB_mem (List.mem_of_getElem? (i := 1044) (by decide +kernel)) rfl
def kX7_slight : Ky_ := (yX7_slight, cX7_slight, 3, (some .int))
theorem cw_X7_slight : Cond.code kX7_slight.1 kX7_slight.2.1 kX7_slight.2.2.1 kX7_slight.2.2.2 ∈ TB := TB_mem (List.mem_of_getElem? (i := 1048) (by decide +kernel)) rfl
def kX7_soothe : Ky_ := (yX7_soothe, cX7_soothe, 3, (some .int))
theorem cw_X7_soothe : Cond.code kX7_soothe.1 kX7_soothe.2.1 kX7_soothe.2.2.1 kX7_soothe.2.2.2 ∈ TB := TB_mem (List.mem_of_getElem? (i := 1053) (by decide +kernel)) rfl
def kX7_sit : Ky_ := (yX7_sit, cX7_sit, 4, (some .int))
theorem cw_X7_sit : Cond.code kX7_sit.1 kX7_sit.2.1 kX7_sit.2.2.1 kX7_sit.2.2.2 ∈ TB := TB_mem (List.mem_of_getElem? (i := 1057) (by decide +kernel)) rfl
def kX7_isPlace : Ky_ := (yX7_isPlace, cX7_isPlace, 2, (some .boolean))
theorem cw_X7_isPlace : Cond.code kX7_isPlace.1 kX7_isPlace.2.1 kX7_isPlace.2.2.1 kX7_isPlace.2.2.2 ∈ TB := TB_mem (List.mem_of_getElem? (i := 1061) (by decide +kernel)) rfl
def kX7_lacks : Ky_ := (yX7_lacks, cX7_lacks, 1, (some .boolean))
theorem cw_X7_lacks : Cond.code kX7_lacks.1 kX7_lacks.2.1 kX7_lacks.2.2.1 kX7_lacks.2.2.2 ∈ TB := TB_mem (List.mem_of_getElem? (i := 1065) (by decide +kernel)) rfl
def kX7_night : Ky_ := (yX7_night, cX7_night, 1, (some .int))
theorem cw_X7_night : Cond.code kX7_night.1 kX7_night.2.1 kX7_night.2.2.1 kX7_night.2.2.2 ∈ TB := TB_mem (List.mem_of_getElem? (i := 1070) (by decide +kernel)) rfl
def kX7_nightOn : Ky_ := (yX7_nightOn, cX7_nightOn, 5, none)
theorem cw_X7_nightOn : Cond.code kX7_nightOn.1 kX7_nightOn.2.1 kX7_nightOn.2.2.1 kX7_nightOn.2.2.2 ∈ TB := TB_mem (List.mem_of_getElem? (i := 1074) (by decide +kernel)) rfl
def kX7_curdle : Ky_ := (yX7_curdle, cX7_curdle, 4, (some .int))
theorem cw_X7_curdle : Cond.code kX7_curdle.1 kX7_curdle.2.1 kX7_curdle.2.2.1 kX7_curdle.2.2.2 ∈ TB := TB_mem (List.mem_of_getElem? (i := 1078) (by decide +kernel)) rfl
def kX7_fresh : Ky_ := (yX7_fresh, cX7_fresh, 3, (some .int))
theorem cw_X7_fresh : Cond.code kX7_fresh.1 kX7_fresh.2.1 kX7_fresh.2.2.1 kX7_fresh.2.2.2 ∈ TB := TB_mem (List.mem_of_getElem? (i := 1082) (by decide +kernel)) rfl
def kX7_force : Ky_ := (yX7_force, cX7_force, 2, (some .int))
theorem cw_X7_force : Cond.code kX7_force.1 kX7_force.2.1 kX7_force.2.2.1 kX7_force.2.2.2 ∈ TB := TB_mem (List.mem_of_getElem? (i := 1086) (by decide +kernel)) rfl
def kX7_keep : Ky_ := (yX7_keep, cX7_keep, 3, (some .int))
theorem cw_X7_keep : Cond.code kX7_keep.1 kX7_keep.2.1 kX7_keep.2.2.1 kX7_keep.2.2.2 ∈ TB := TB_mem (List.mem_of_getElem? (i := 1090) (by decide +kernel)) rfl
def kX7_isBottle : Ky_ := (yX7_isBottle, cX7_isBottle, 2, (some .boolean))
theorem cw_X7_isBottle : Cond.code kX7_isBottle.1 kX7_isBottle.2.1 kX7_isBottle.2.2.1 kX7_isBottle.2.2.2 ∈ TB := TB_mem (List.mem_of_getElem? (i := 1094) (by decide +kernel)) rfl
def kX7_pour : Ky_ := (yX7_pour, cX7_pour, 4, (some .int))
theorem cw_X7_pour : Cond.code kX7_pour.1 kX7_pour.2.1 kX7_pour.2.2.1 kX7_pour.2.2.2 ∈ TB := TB_mem (List.mem_of_getElem? (i := 1099) (by decide +kernel)) rfl
def kX7_bottle : Ky_ := (yX7_bottle, cX7_bottle, 2, (some .int))
theorem cw_X7_bottle : Cond.code kX7_bottle.1 kX7_bottle.2.1 kX7_bottle.2.2.1 kX7_bottle.2.2.2 ∈ TB := TB_mem (List.mem_of_getElem? (i := 1103) (by decide +kernel)) rfl
def kX7_would : Ky_ := (yX7_would, cX7_would, 1, (some .int))
theorem cw_X7_would : Cond.code kX7_would.1 kX7_would.2.1 kX7_would.2.2.1 kX7_would.2.2.2 ∈ TB := TB_mem (List.mem_of_getElem? (i := 1107) (by decide +kernel)) rfl
def kX7_few : Ky_ := (yX7_few, cX7_few, 3, (some .int))
theorem cw_X7_few : Cond.code kX7_few.1 kX7_few.2.1 kX7_few.2.2.1 kX7_few.2.2.2 ∈ TB := TB_mem (List.mem_of_getElem? (i := 1111) (by decide +kernel)) rfl
def kX7_fewOf : Ky_ := (yX7_fewOf, cX7_fewOf, 4, (some .int))
theorem cw_X7_fewOf : Cond.code kX7_fewOf.1 kX7_fewOf.2.1 kX7_fewOf.2.2.1 kX7_fewOf.2.2.2 ∈ TB := TB_mem (List.mem_of_getElem? (i := 1115) (by decide +kernel)) rfl
def kX7_layFew : Ky_ := (yX7_layFew, cX7_layFew, 4, (some .int))
theorem cw_X7_layFew : Cond.code kX7_layFew.1 kX7_layFew.2.1 kX7_layFew.2.2.1 kX7_layFew.2.2.2 ∈ TB := TB_mem (List.mem_of_getElem? (i := 1119) (by decide +kernel)) rfl
def kX7_isEnough : Ky_ := (yX7_isEnough, cX7_isEnough, 4, (some .boolean))
theorem cw_X7_isEnough : Cond.code kX7_isEnough.1 kX7_isEnough.2.1 kX7_isEnough.2.2.1 kX7_isEnough.2.2.2 ∈ TB := TB_mem (List.mem_of_getElem? (i := 1123) (by decide +kernel)) rfl
def kX7_nextRow : Ky_ := (yX7_nextRow, cX7_nextRow, 4, (some .boolean))
theorem cw_X7_nextRow : Cond.code kX7_nextRow.1 kX7_nextRow.2.1 kX7_nextRow.2.2.1 kX7_nextRow.2.2.2 ∈ TB := TB_mem (List.mem_of_getElem? (i := 1127) (by decide +kernel)) rfl
def kX7_week : Ky_ := (yX7_week, cX7_week, 3, (some .int))
theorem cw_X7_week : Cond.code kX7_week.1 kX7_week.2.1 kX7_week.2.2.1 kX7_week.2.2.2 ∈ TB := TB_mem (List.mem_of_getElem? (i := 1131) (by decide +kernel)) rfl
def kX7_weekOf : Ky_ := (yX7_weekOf, cX7_weekOf, 9, (some .int))
theorem cw_X7_weekOf : Cond.code kX7_weekOf.1 kX7_weekOf.2.1 kX7_weekOf.2.2.1 kX7_weekOf.2.2.2 ∈ TB := TB_mem (List.mem_of_getElem? (i := 1135) (by decide +kernel)) rfl
def kX7_settingBy : Ky_ := (yX7_settingBy, cX7_settingBy, 8, (some .int))
theorem cw_X7_settingBy : Cond.code kX7_settingBy.1 kX7_settingBy.2.1 kX7_settingBy.2.2.1 kX7_settingBy.2.2.2 ∈ TB := TB_mem (List.mem_of_getElem? (i := 1139) (by decide +kernel)) rfl
def kX7_who : Ky_ := (yX7_who, cX7_who, 2, (some .int))
theorem cw_X7_who : Cond.code kX7_who.1 kX7_who.2.1 kX7_who.2.2.1 kX7_who.2.2.2 ∈ TB := TB_mem (List.mem_of_getElem? (i := 1143) (by decide +kernel)) rfl
def kX7_whoOf : Ky_ := (yX7_whoOf, cX7_whoOf, 4, (some .int))
theorem cw_X7_whoOf : Cond.code kX7_whoOf.1 kX7_whoOf.2.1 kX7_whoOf.2.2.1 kX7_whoOf.2.2.2 ∈ TB := TB_mem (List.mem_of_getElem? (i := 1147) (by decide +kernel)) rfl
def kX7_see : Ky_ := (yX7_see, cX7_see, 4, (some .int))
theorem cw_X7_see : Cond.code kX7_see.1 kX7_see.2.1 kX7_see.2.2.1 kX7_see.2.2.2 ∈ TB := TB_mem (List.mem_of_getElem? (i := 1151) (by decide +kernel)) rfl
def kX7_forget : Ky_ := (yX7_forget, cX7_forget, 2, (some .int))
theorem cw_X7_forget : Cond.code kX7_forget.1 kX7_forget.2.1 kX7_forget.2.2.1 kX7_forget.2.2.2 ∈ TB := TB_mem (List.mem_of_getElem? (i := 1156) (by decide +kernel)) rfl
def kX7_weeks : Ky_ := (yX7_weeks, cX7_weeks, 8, (some .int))
theorem cw_X7_weeks : Cond.code kX7_weeks.1 kX7_weeks.2.1 kX7_weeks.2.2.1 kX7_weeks.2.2.2 ∈ TB := TB_mem (List.mem_of_getElem? (i := 1160) (by decide +kernel)) rfl
def kX7_draw : Ky_ := (yX7_draw, cX7_draw, 2, (some .int))
theorem cw_X7_draw : Cond.code kX7_draw.1 kX7_draw.2.1 kX7_draw.2.2.1 kX7_draw.2.2.2 ∈ TB := TB_mem (List.mem_of_getElem? (i := 1165) (by decide +kernel)) rfl
def kX7_sumPeople : Ky_ := (yX7_sumPeople, cX7_sumPeople, 4, (some .int))
theorem cw_X7_sumPeople : Cond.code kX7_sumPeople.1 kX7_sumPeople.2.1 kX7_sumPeople.2.2.1 kX7_sumPeople.2.2.2 ∈ TB := TB_mem (List.mem_of_getElem? (i := 1173) (by decide +kernel)) rfl
def kX7_image : Ky_ := (yX7_image, cX7_image, 1, (some .int))
theorem cw_X7_image : Cond.code kX7_image.1 kX7_image.2.1 kX7_image.2.2.1 kX7_image.2.2.2 ∈ TB := TB_mem (List.mem_of_getElem? (i := 1177) (by decide +kernel)) rfl
def kX7_restore : Ky_ := (yX7_restore, cX7_restore, 1, (some .int))
theorem cw_X7_restore : Cond.code kX7_restore.1 kX7_restore.2.1 kX7_restore.2.2.1 kX7_restore.2.2.2 ∈ TB := TB_mem (List.mem_of_getElem? (i := 1181) (by decide +kernel)) rfl
def kX7_count : Ky_ := (yX7_count, cX7_count, 2, (some .int))
theorem cw_X7_count : Cond.code kX7_count.1 kX7_count.2.1 kX7_count.2.2.1 kX7_count.2.2.2 ∈ TB := TB_mem (List.mem_of_getElem? (i := 1185) (by decide +kernel)) rfl
def kX7_countOf : Ky_ := (yX7_countOf, cX7_countOf, 2, (some .int))
theorem cw_X7_countOf : Cond.code kX7_countOf.1 kX7_countOf.2.1 kX7_countOf.2.2.1 kX7_countOf.2.2.2 ∈ TB := TB_mem (List.mem_of_getElem? (i := 1189) (by decide +kernel)) rfl
def kX7_setNow : Ky_ := (yX7_setNow, cX7_setNow, 3, (some .int))
theorem cw_X7_setNow : Cond.code kX7_setNow.1 kX7_setNow.2.1 kX7_setNow.2.2.1 kX7_setNow.2.2.2 ∈ TB := TB_mem (List.mem_of_getElem? (i := 1193) (by decide +kernel)) rfl
def kX7_fullBottles : Ky_ := (yX7_fullBottles, cX7_fullBottles, 3, (some .int))
theorem cw_X7_fullBottles : Cond.code kX7_fullBottles.1 kX7_fullBottles.2.1 kX7_fullBottles.2.2.1 kX7_fullBottles.2.2.2 ∈ TB := TB_mem (List.mem_of_getElem? (i := 1197) (by decide +kernel)) rfl
def kX7_countMore : Ky_ := (yX7_countMore, cX7_countMore, 2, (some .int))
theorem cw_X7_countMore : Cond.code kX7_countMore.1 kX7_countMore.2.1 kX7_countMore.2.2.1 kX7_countMore.2.2.2 ∈ TB := TB_mem (List.mem_of_getElem? (i := 1201) (by decide +kernel)) rfl
def kX7_digest : Ky_ := (yX7_digest, cX7_digest, 3, (some .long))
theorem cw_X7_digest : Cond.code kX7_digest.1 kX7_digest.2.1 kX7_digest.2.2.1 kX7_digest.2.2.2 ∈ TB := TB_mem (List.mem_of_getElem? (i := 1205) (by decide +kernel)) rfl
def kX7_say : Ky_ := (yX7_say, cX7_say, 3, none)
theorem cw_X7_say : Cond.code kX7_say.1 kX7_say.2.1 kX7_say.2.2.1 kX7_say.2.2.2 ∈ TB := TB_mem (List.mem_of_getElem? (i := 1210) (by decide +kernel)) rfl
def kX7_sayValley : Ky_ := (yX7_sayValley, cX7_sayValley, 2, none)
theorem cw_X7_sayValley : Cond.code kX7_sayValley.1 kX7_sayValley.2.1 kX7_sayValley.2.2.1 kX7_sayValley.2.2.2 ∈ TB := TB_mem (List.mem_of_getElem? (i := 1215) (by decide +kernel)) rfl
theorem in_RL : Cond.initialized RL ∈ TB := TB_mem (List.mem_of_getElem? (i := 54) (by decide +kernel)) rfl
theorem in_RX6 : Cond.initialized RX6 ∈ TB := TB_mem (List.mem_of_getElem? (i := 55) (by decide +kernel)) rfl
theorem in_RX1 : Cond.initialized RX1 ∈ TB := TB_mem (List.mem_of_getElem? (i := 56) (by decide +kernel)) rfl
theorem in_RX5 : Cond.initialized RX5 ∈ TB := TB_mem (List.mem_of_getElem? (i := 57) (by decide +kernel)) rfl
theorem in_RX3 : Cond.initialized RX3 ∈ TB := TB_mem (List.mem_of_getElem? (i := 58) (by decide +kernel)) rfl
theorem in_RX2 : Cond.initialized RX2 ∈ TB := TB_mem (List.mem_of_getElem? (i := 59) (by decide +kernel)) rfl
theorem in_RX0 : Cond.initialized RX0 ∈ TB := TB_mem (List.mem_of_getElem? (i := 60) (by decide +kernel)) rfl
theorem in_RX7 : Cond.initialized RX7 ∈ TB := TB_mem (List.mem_of_getElem? (i := 61) (by decide +kernel)) rfl
theorem in_RJ0 : Cond.initialized RJ0 ∈ TB := TB_mem (List.mem_of_getElem? (i := 62) (by decide +kernel)) rfl
theorem in_RJ1 : Cond.initialized RJ1 ∈ TB := TB_mem (List.mem_of_getElem? (i := 63) (by decide +kernel)) rfl
theorem in_RJ9 : Cond.initialized RJ9 ∈ TB := TB_mem (List.mem_of_getElem? (i := 64) (by decide +kernel)) rfl
theorem in_RJ2 : Cond.initialized RJ2 ∈ TB := TB_mem (List.mem_of_getElem? (i := 65) (by decide +kernel)) rfl
theorem in_RJ3 : Cond.initialized RJ3 ∈ TB := TB_mem (List.mem_of_getElem? (i := 66) (by decide +kernel)) rfl
theorem in_RJ11 : Cond.initialized RJ11 ∈ TB := TB_mem (List.mem_of_getElem? (i := 67) (by decide +kernel)) rfl
theorem in_RJ7 : Cond.initialized RJ7 ∈ TB := TB_mem (List.mem_of_getElem? (i := 68) (by decide +kernel)) rfl
theorem in_RX4 : Cond.initialized RX4 ∈ TB := TB_mem (List.mem_of_getElem? (i := 69) (by decide +kernel)) rfl
theorem in_RJ10 : Cond.initialized RJ10 ∈ TB := TB_mem (List.mem_of_getElem? (i := 70) (by decide +kernel)) rfl
theorem in_RJ6 : Cond.initialized RJ6 ∈ TB := TB_mem (List.mem_of_getElem? (i := 71) (by decide +kernel)) rfl
theorem st_J1_indexOf_4cfef : Cond.static kJ1_indexOf_4cfef.1 ∈ TB := TB_mem (List.mem_of_getElem? (i := 335) (by decide +kernel)) rfl
theorem st_J1_canEncode_9a6ad : Cond.static kJ1_canEncode_9a6ad.1 ∈ TB := TB_mem (List.mem_of_getElem? (i := 338) (by decide +kernel)) rfl
theorem st_J9_max_7cf53 : Cond.static kJ9_max_7cf53.1 ∈ TB := TB_mem (List.mem_of_getElem? (i := 341) (by decide +kernel)) rfl
theorem st_J9_min_7cf53 : Cond.static kJ9_min_7cf53.1 ∈ TB := TB_mem (List.mem_of_getElem? (i := 344) (by decide +kernel)) rfl
theorem st_J1_indexOfChar_4cfef : Cond.static kJ1_indexOfChar_4cfef.1 ∈ TB := TB_mem (List.mem_of_getElem? (i := 347) (by decide +kernel)) rfl
theorem st_J2_indexOf_4cfef : Cond.static kJ2_indexOf_4cfef.1 ∈ TB := TB_mem (List.mem_of_getElem? (i := 350) (by decide +kernel)) rfl
theorem st_J2_indexOfChar_4cfef : Cond.static kJ2_indexOfChar_4cfef.1 ∈ TB := TB_mem (List.mem_of_getElem? (i := 356) (by decide +kernel)) rfl
theorem st_J2_checkBoundsBeginEnd_d044e : Cond.static kJ2_checkBoundsBeginEnd_d044e.1 ∈ TB := TB_mem (List.mem_of_getElem? (i := 359) (by decide +kernel)) rfl
theorem st_J2_length_9d52b : Cond.static kJ2_length_9d52b.1 ∈ TB := TB_mem (List.mem_of_getElem? (i := 362) (by decide +kernel)) rfl
theorem st_J0_checkBoundsBeginEnd_23922 : Cond.static kJ0_checkBoundsBeginEnd_23922.1 ∈ TB := TB_mem (List.mem_of_getElem? (i := 365) (by decide +kernel)) rfl
theorem st_J3_checkFromToIndex_8c36e : Cond.static kJ3_checkFromToIndex_8c36e.1 ∈ TB := TB_mem (List.mem_of_getElem? (i := 370) (by decide +kernel)) rfl
theorem st_J2_indexOfCharUnsafe_4cfef : Cond.static kJ2_indexOfCharUnsafe_4cfef.1 ∈ TB := TB_mem (List.mem_of_getElem? (i := 373) (by decide +kernel)) rfl
theorem st_J2_getChar_3b067 : Cond.static kJ2_getChar_3b067.1 ∈ TB := TB_mem (List.mem_of_getElem? (i := 376) (by decide +kernel)) rfl
theorem st_J2_indexOfSupplementary_4cfef : Cond.static kJ2_indexOfSupplementary_4cfef.1 ∈ TB := TB_mem (List.mem_of_getElem? (i := 385) (by decide +kernel)) rfl
theorem st_J11_isValidCodePoint_9a6ad : Cond.static kJ11_isValidCodePoint_9a6ad.1 ∈ TB := TB_mem (List.mem_of_getElem? (i := 388) (by decide +kernel)) rfl
theorem st_J11_highSurrogate_5068e : Cond.static kJ11_highSurrogate_5068e.1 ∈ TB := TB_mem (List.mem_of_getElem? (i := 391) (by decide +kernel)) rfl
theorem st_J11_lowSurrogate_5068e : Cond.static kJ11_lowSurrogate_5068e.1 ∈ TB := TB_mem (List.mem_of_getElem? (i := 395) (by decide +kernel)) rfl
theorem st_J7_fill_53178 : Cond.static kJ7_fill_53178.1 ∈ TB := TB_mem (List.mem_of_getElem? (i := 417) (by decide +kernel)) rfl
theorem st_X4_growthFromNone : Cond.static kX4_growthFromNone.1 ∈ TB := TB_mem (List.mem_of_getElem? (i := 430) (by decide +kernel)) rfl
theorem st_X6_isSlight : Cond.static kX6_isSlight.1 ∈ TB := TB_mem (List.mem_of_getElem? (i := 433) (by decide +kernel)) rfl
theorem st_X4_isOf : Cond.static kX4_isOf.1 ∈ TB := TB_mem (List.mem_of_getElem? (i := 438) (by decide +kernel)) rfl
theorem st_X6_isRowPlace : Cond.static kX6_isRowPlace.1 ∈ TB := TB_mem (List.mem_of_getElem? (i := 449) (by decide +kernel)) rfl
theorem st_X3_reach : Cond.static kX3_reach.1 ∈ TB := TB_mem (List.mem_of_getElem? (i := 480) (by decide +kernel)) rfl
theorem st_J6_bitCount_0f7a4 : Cond.static kJ6_bitCount_0f7a4.1 ∈ TB := TB_mem (List.mem_of_getElem? (i := 483) (by decide +kernel)) rfl
theorem st_X4_bestTry : Cond.static kX4_bestTry.1 ∈ TB := TB_mem (List.mem_of_getElem? (i := 498) (by decide +kernel)) rfl
theorem st_X4_mostLeft : Cond.static kX4_mostLeft.1 ∈ TB := TB_mem (List.mem_of_getElem? (i := 501) (by decide +kernel)) rfl
theorem st_X4_hasPride : Cond.static kX4_hasPride.1 ∈ TB := TB_mem (List.mem_of_getElem? (i := 504) (by decide +kernel)) rfl
theorem st_X4_likeOnes : Cond.static kX4_likeOnes.1 ∈ TB := TB_mem (List.mem_of_getElem? (i := 508) (by decide +kernel)) rfl
theorem st_X6_commonDivisor : Cond.static kX6_commonDivisor.1 ∈ TB := TB_mem (List.mem_of_getElem? (i := 574) (by decide +kernel)) rfl
theorem st_X6_isPlace : Cond.static kX6_isPlace.1 ∈ TB := TB_mem (List.mem_of_getElem? (i := 591) (by decide +kernel)) rfl
theorem st_X4_overnight : Cond.static kX4_overnight.1 ∈ TB := TB_mem (List.mem_of_getElem? (i := 606) (by decide +kernel)) rfl
theorem st_X6_isRowTell : Cond.static kX6_isRowTell.1 ∈ TB := TB_mem (List.mem_of_getElem? (i := 655) (by decide +kernel)) rfl
theorem st_X3_sumOf : Cond.static kX3_sumOf.1 ∈ TB := TB_mem (List.mem_of_getElem? (i := 724) (by decide +kernel)) rfl
theorem st_X7_in : Cond.static kX7_in.1 ∈ TB := TB_mem (List.mem_of_getElem? (i := 900) (by decide +kernel)) rfl
theorem st_X7_kindBy : Cond.static kX7_kindBy.1 ∈ TB := TB_mem (List.mem_of_getElem? (i := 925) (by decide +kernel)) rfl
theorem st_X7_grievedBy : Cond.static kX7_grievedBy.1 ∈ TB := TB_mem (List.mem_of_getElem? (i := 952) (by decide +kernel)) rfl
theorem st_X7_topped : Cond.static kX7_topped.1 ∈ TB := TB_mem (List.mem_of_getElem? (i := 955) (by decide +kernel)) rfl
theorem st_X7_apart : Cond.static kX7_apart.1 ∈ TB := TB_mem (List.mem_of_getElem? (i := 974) (by decide +kernel)) rfl
theorem st_X7_forceBy : Cond.static kX7_forceBy.1 ∈ TB := TB_mem (List.mem_of_getElem? (i := 977) (by decide +kernel)) rfl
theorem st_X7_ones : Cond.static kX7_ones.1 ∈ TB := TB_mem (List.mem_of_getElem? (i := 984) (by decide +kernel)) rfl
theorem st_X7_copy : Cond.static kX7_copy.1 ∈ TB := TB_mem (List.mem_of_getElem? (i := 1036) (by decide +kernel)) rfl
theorem st_X7_common : Cond.static kX7_common.1 ∈ TB := TB_mem (List.mem_of_getElem? (i := 1043) (by decide +kernel)) rfl
theorem im_X6_letter : Cond.instanceMethod kX6_letter.1 ∈ TB := TB_mem (List.mem_of_getElem? (i := 264) (by decide +kernel)) rfl
theorem im_X1_add : Cond.instanceMethod kX1_add.1 ∈ TB := TB_mem (List.mem_of_getElem? (i := 268) (by decide +kernel)) rfl
theorem im_X6_blank : Cond.instanceMethod kX6_blank.1 ∈ TB := TB_mem (List.mem_of_getElem? (i := 272) (by decide +kernel)) rfl
theorem im_X1_clear : Cond.instanceMethod kX1_clear.1 ∈ TB := TB_mem (List.mem_of_getElem? (i := 276) (by decide +kernel)) rfl
theorem im_X6_fault : Cond.instanceMethod kX6_fault.1 ∈ TB := TB_mem (List.mem_of_getElem? (i := 280) (by decide +kernel)) rfl
theorem im_X1_firstFault : Cond.instanceMethod kX1_firstFault.1 ∈ TB := TB_mem (List.mem_of_getElem? (i := 284) (by decide +kernel)) rfl
theorem im_X1_markPlace : Cond.instanceMethod kX1_markPlace.1 ∈ TB := TB_mem (List.mem_of_getElem? (i := 288) (by decide +kernel)) rfl
theorem im_X1_fitsPails : Cond.instanceMethod kX1_fitsPails.1 ∈ TB := TB_mem (List.mem_of_getElem? (i := 293) (by decide +kernel)) rfl
theorem im_X1_isDigit : Cond.instanceMethod kX1_isDigit.1 ∈ TB := TB_mem (List.mem_of_getElem? (i := 297) (by decide +kernel)) rfl
theorem im_X1_digitAt : Cond.instanceMethod kX1_digitAt.1 ∈ TB := TB_mem (List.mem_of_getElem? (i := 300) (by decide +kernel)) rfl
theorem im_X1_codeAt : Cond.instanceMethod kX1_codeAt.1 ∈ TB := TB_mem (List.mem_of_getElem? (i := 304) (by decide +kernel)) rfl
theorem im_X1_fitsPeople : Cond.instanceMethod kX1_fitsPeople.1 ∈ TB := TB_mem (List.mem_of_getElem? (i := 309) (by decide +kernel)) rfl
theorem im_J0_indexOf_0f7a4 : Cond.instanceMethod kJ0_indexOf_0f7a4.1 ∈ TB := TB_mem (List.mem_of_getElem? (i := 313) (by decide +kernel)) rfl
theorem im_J0_indexOf_7cf53 : Cond.instanceMethod kJ0_indexOf_7cf53.1 ∈ TB := TB_mem (List.mem_of_getElem? (i := 317) (by decide +kernel)) rfl
theorem im_J0_isLatin1_aae02 : Cond.instanceMethod kJ0_isLatin1_aae02.1 ∈ TB := TB_mem (List.mem_of_getElem? (i := 321) (by decide +kernel)) rfl
theorem im_J0_length_8abf5 : Cond.instanceMethod kJ0_length_8abf5.1 ∈ TB := TB_mem (List.mem_of_getElem? (i := 327) (by decide +kernel)) rfl
theorem im_J0_coder_7d493 : Cond.instanceMethod kJ0_coder_7d493.1 ∈ TB := TB_mem (List.mem_of_getElem? (i := 331) (by decide +kernel)) rfl
theorem im_X1_fitsBehindPeople : Cond.instanceMethod kX1_fitsBehindPeople.1 ∈ TB := TB_mem (List.mem_of_getElem? (i := 400) (by decide +kernel)) rfl
theorem im_X6_valley : Cond.instanceMethod kX6_valley.1 ∈ TB := TB_mem (List.mem_of_getElem? (i := 404) (by decide +kernel)) rfl
theorem im_X1_isValley : Cond.instanceMethod kX1_isValley.1 ∈ TB := TB_mem (List.mem_of_getElem? (i := 408) (by decide +kernel)) rfl
theorem im_X3_clear : Cond.instanceMethod kX3_clear.1 ∈ TB := TB_mem (List.mem_of_getElem? (i := 413) (by decide +kernel)) rfl
theorem im_X5_read : Cond.instanceMethod kX5_read.1 ∈ TB := TB_mem (List.mem_of_getElem? (i := 420) (by decide +kernel)) rfl
theorem im_X6_person : Cond.instanceMethod kX6_person.1 ∈ TB := TB_mem (List.mem_of_getElem? (i := 441) (by decide +kernel)) rfl
theorem im_X5_hasPerson : Cond.instanceMethod kX5_hasPerson.1 ∈ TB := TB_mem (List.mem_of_getElem? (i := 445) (by decide +kernel)) rfl
theorem im_X5_growth : Cond.instanceMethod kX5_growth.1 ∈ TB := TB_mem (List.mem_of_getElem? (i := 452) (by decide +kernel)) rfl
theorem im_X5_hasSlight : Cond.instanceMethod kX5_hasSlight.1 ∈ TB := TB_mem (List.mem_of_getElem? (i := 456) (by decide +kernel)) rfl
theorem im_X0_findSeat : Cond.instanceMethod kX0_findSeat.1 ∈ TB := TB_mem (List.mem_of_getElem? (i := 460) (by decide +kernel)) rfl
theorem im_X3_copyForcesFrom : Cond.instanceMethod kX3_copyForcesFrom.1 ∈ TB := TB_mem (List.mem_of_getElem? (i := 465) (by decide +kernel)) rfl
theorem im_X5_allThatWouldSet : Cond.instanceMethod kX5_allThatWouldSet.1 ∈ TB := TB_mem (List.mem_of_getElem? (i := 472) (by decide +kernel)) rfl
theorem im_X3_forceAt : Cond.instanceMethod kX3_forceAt.1 ∈ TB := TB_mem (List.mem_of_getElem? (i := 476) (by decide +kernel)) rfl
theorem im_X2_prides : Cond.instanceMethod kX2_prides.1 ∈ TB := TB_mem (List.mem_of_getElem? (i := 489) (by decide +kernel)) rfl
theorem im_X2_allowsPride : Cond.instanceMethod kX2_allowsPride.1 ∈ TB := TB_mem (List.mem_of_getElem? (i := 494) (by decide +kernel)) rfl
theorem im_X6_as : Cond.instanceMethod kX6_as.1 ∈ TB := TB_mem (List.mem_of_getElem? (i := 512) (by decide +kernel)) rfl
theorem im_X6_pail : Cond.instanceMethod kX6_pail.1 ∈ TB := TB_mem (List.mem_of_getElem? (i := 517) (by decide +kernel)) rfl
theorem im_X5_hasPail : Cond.instanceMethod kX5_hasPail.1 ∈ TB := TB_mem (List.mem_of_getElem? (i := 521) (by decide +kernel)) rfl
theorem im_X3_isSet : Cond.instanceMethod kX3_isSet.1 ∈ TB := TB_mem (List.mem_of_getElem? (i := 526) (by decide +kernel)) rfl
theorem im_X5_wouldSet : Cond.instanceMethod kX5_wouldSet.1 ∈ TB := TB_mem (List.mem_of_getElem? (i := 530) (by decide +kernel)) rfl
theorem im_X6_bottlesFor : Cond.instanceMethod kX6_bottlesFor.1 ∈ TB := TB_mem (List.mem_of_getElem? (i := 536) (by decide +kernel)) rfl
theorem im_X3_bottlesWorth : Cond.instanceMethod kX3_bottlesWorth.1 ∈ TB := TB_mem (List.mem_of_getElem? (i := 539) (by decide +kernel)) rfl
theorem im_X3_fullBottles : Cond.instanceMethod kX3_fullBottles.1 ∈ TB := TB_mem (List.mem_of_getElem? (i := 543) (by decide +kernel)) rfl
theorem im_X3_heldIn : Cond.instanceMethod kX3_heldIn.1 ∈ TB := TB_mem (List.mem_of_getElem? (i := 548) (by decide +kernel)) rfl
theorem im_X6_odds : Cond.instanceMethod kX6_odds.1 ∈ TB := TB_mem (List.mem_of_getElem? (i := 553) (by decide +kernel)) rfl
theorem im_X0_slightsThatSet : Cond.instanceMethod kX0_slightsThatSet.1 ∈ TB := TB_mem (List.mem_of_getElem? (i := 556) (by decide +kernel)) rfl
theorem im_X5_slightNumbers : Cond.instanceMethod kX5_slightNumbers.1 ∈ TB := TB_mem (List.mem_of_getElem? (i := 560) (by decide +kernel)) rfl
theorem im_X0_trySlight : Cond.instanceMethod kX0_trySlight.1 ∈ TB := TB_mem (List.mem_of_getElem? (i := 565) (by decide +kernel)) rfl
theorem im_X5_offend : Cond.instanceMethod kX5_offend.1 ∈ TB := TB_mem (List.mem_of_getElem? (i := 568) (by decide +kernel)) rfl
theorem im_X6_slight : Cond.instanceMethod kX6_slight.1 ∈ TB := TB_mem (List.mem_of_getElem? (i := 577) (by decide +kernel)) rfl
theorem im_X6_soothe : Cond.instanceMethod kX6_soothe.1 ∈ TB := TB_mem (List.mem_of_getElem? (i := 583) (by decide +kernel)) rfl
theorem im_X6_sit : Cond.instanceMethod kX6_sit.1 ∈ TB := TB_mem (List.mem_of_getElem? (i := 587) (by decide +kernel)) rfl
theorem im_X6_night : Cond.instanceMethod kX6_night.1 ∈ TB := TB_mem (List.mem_of_getElem? (i := 594) (by decide +kernel)) rfl
theorem im_X5_isThere : Cond.instanceMethod kX5_isThere.1 ∈ TB := TB_mem (List.mem_of_getElem? (i := 598) (by decide +kernel)) rfl
theorem im_X5_passNight : Cond.instanceMethod kX5_passNight.1 ∈ TB := TB_mem (List.mem_of_getElem? (i := 602) (by decide +kernel)) rfl
theorem im_X6_curdle : Cond.instanceMethod kX6_curdle.1 ∈ TB := TB_mem (List.mem_of_getElem? (i := 609) (by decide +kernel)) rfl
theorem im_X6_fresh : Cond.instanceMethod kX6_fresh.1 ∈ TB := TB_mem (List.mem_of_getElem? (i := 615) (by decide +kernel)) rfl
theorem im_X6_force : Cond.instanceMethod kX6_force.1 ∈ TB := TB_mem (List.mem_of_getElem? (i := 619) (by decide +kernel)) rfl
theorem im_X6_keep : Cond.instanceMethod kX6_keep.1 ∈ TB := TB_mem (List.mem_of_getElem? (i := 623) (by decide +kernel)) rfl
theorem im_X6_hasBottle : Cond.instanceMethod kX6_hasBottle.1 ∈ TB := TB_mem (List.mem_of_getElem? (i := 628) (by decide +kernel)) rfl
theorem im_X6_pour : Cond.instanceMethod kX6_pour.1 ∈ TB := TB_mem (List.mem_of_getElem? (i := 631) (by decide +kernel)) rfl
theorem im_X3_addDrop : Cond.instanceMethod kX3_addDrop.1 ∈ TB := TB_mem (List.mem_of_getElem? (i := 635) (by decide +kernel)) rfl
theorem im_X6_bottle : Cond.instanceMethod kX6_bottle.1 ∈ TB := TB_mem (List.mem_of_getElem? (i := 639) (by decide +kernel)) rfl
theorem im_X6_would : Cond.instanceMethod kX6_would.1 ∈ TB := TB_mem (List.mem_of_getElem? (i := 643) (by decide +kernel)) rfl
theorem im_X6_few : Cond.instanceMethod kX6_few.1 ∈ TB := TB_mem (List.mem_of_getElem? (i := 647) (by decide +kernel)) rfl
theorem im_X5_arePails : Cond.instanceMethod kX5_arePails.1 ∈ TB := TB_mem (List.mem_of_getElem? (i := 651) (by decide +kernel)) rfl
theorem im_X0_findFew : Cond.instanceMethod kX0_findFew.1 ∈ TB := TB_mem (List.mem_of_getElem? (i := 658) (by decide +kernel)) rfl
theorem im_X0_rowSets : Cond.instanceMethod kX0_rowSets.1 ∈ TB := TB_mem (List.mem_of_getElem? (i := 663) (by decide +kernel)) rfl
theorem im_X0_tell : Cond.instanceMethod kX0_tell.1 ∈ TB := TB_mem (List.mem_of_getElem? (i := 667) (by decide +kernel)) rfl
theorem im_X6_week : Cond.instanceMethod kX6_week.1 ∈ TB := TB_mem (List.mem_of_getElem? (i := 671) (by decide +kernel)) rfl
theorem im_X0_findWeek : Cond.instanceMethod kX0_findWeek.1 ∈ TB := TB_mem (List.mem_of_getElem? (i := 675) (by decide +kernel)) rfl
theorem im_X0_tryDay : Cond.instanceMethod kX0_tryDay.1 ∈ TB := TB_mem (List.mem_of_getElem? (i := 680) (by decide +kernel)) rfl
theorem im_X6_who : Cond.instanceMethod kX6_who.1 ∈ TB := TB_mem (List.mem_of_getElem? (i := 684) (by decide +kernel)) rfl
theorem im_X0_slightsThatSetJust : Cond.instanceMethod kX0_slightsThatSetJust.1 ∈ TB := TB_mem (List.mem_of_getElem? (i := 688) (by decide +kernel)) rfl
theorem im_X6_see : Cond.instanceMethod kX6_see.1 ∈ TB := TB_mem (List.mem_of_getElem? (i := 692) (by decide +kernel)) rfl
theorem im_X2_add : Cond.instanceMethod kX2_add.1 ∈ TB := TB_mem (List.mem_of_getElem? (i := 696) (by decide +kernel)) rfl
theorem im_X6_forget : Cond.instanceMethod kX6_forget.1 ∈ TB := TB_mem (List.mem_of_getElem? (i := 700) (by decide +kernel)) rfl
theorem im_X6_weeks : Cond.instanceMethod kX6_weeks.1 ∈ TB := TB_mem (List.mem_of_getElem? (i := 704) (by decide +kernel)) rfl
theorem im_X0_runWeeks : Cond.instanceMethod kX0_runWeeks.1 ∈ TB := TB_mem (List.mem_of_getElem? (i := 708) (by decide +kernel)) rfl
theorem im_X0_draw : Cond.instanceMethod kX0_draw.1 ∈ TB := TB_mem (List.mem_of_getElem? (i := 713) (by decide +kernel)) rfl
theorem im_X3_allGrudges : Cond.instanceMethod kX3_allGrudges.1 ∈ TB := TB_mem (List.mem_of_getElem? (i := 720) (by decide +kernel)) rfl
theorem im_X6_image : Cond.instanceMethod kX6_image.1 ∈ TB := TB_mem (List.mem_of_getElem? (i := 727) (by decide +kernel)) rfl
theorem im_X3_copyFrom : Cond.instanceMethod kX3_copyFrom.1 ∈ TB := TB_mem (List.mem_of_getElem? (i := 731) (by decide +kernel)) rfl
theorem im_X2_copyFrom : Cond.instanceMethod kX2_copyFrom.1 ∈ TB := TB_mem (List.mem_of_getElem? (i := 735) (by decide +kernel)) rfl
theorem im_X6_restore : Cond.instanceMethod kX6_restore.1 ∈ TB := TB_mem (List.mem_of_getElem? (i := 741) (by decide +kernel)) rfl
theorem im_X6_count : Cond.instanceMethod kX6_count.1 ∈ TB := TB_mem (List.mem_of_getElem? (i := 745) (by decide +kernel)) rfl
theorem im_X3_allSlights : Cond.instanceMethod kX3_allSlights.1 ∈ TB := TB_mem (List.mem_of_getElem? (i := 750) (by decide +kernel)) rfl
theorem im_X6_digest : Cond.instanceMethod kX6_digest.1 ∈ TB := TB_mem (List.mem_of_getElem? (i := 754) (by decide +kernel)) rfl
theorem im_X7_letter : Cond.instanceMethod kX7_letter.1 ∈ TB := TB_mem (List.mem_of_getElem? (i := 895) (by decide +kernel)) rfl
theorem im_X7_blank : Cond.instanceMethod kX7_blank.1 ∈ TB := TB_mem (List.mem_of_getElem? (i := 903) (by decide +kernel)) rfl
theorem im_X7_fault : Cond.instanceMethod kX7_fault.1 ∈ TB := TB_mem (List.mem_of_getElem? (i := 907) (by decide +kernel)) rfl
theorem im_X7_faultOf : Cond.instanceMethod kX7_faultOf.1 ∈ TB := TB_mem (List.mem_of_getElem? (i := 912) (by decide +kernel)) rfl
theorem im_X7_isGood : Cond.instanceMethod kX7_isGood.1 ∈ TB := TB_mem (List.mem_of_getElem? (i := 916) (by decide +kernel)) rfl
theorem im_X7_isPersonLetter : Cond.instanceMethod kX7_isPersonLetter.1 ∈ TB := TB_mem (List.mem_of_getElem? (i := 922) (by decide +kernel)) rfl
theorem im_X7_valley : Cond.instanceMethod kX7_valley.1 ∈ TB := TB_mem (List.mem_of_getElem? (i := 930) (by decide +kernel)) rfl
theorem im_X7_person : Cond.instanceMethod kX7_person.1 ∈ TB := TB_mem (List.mem_of_getElem? (i := 934) (by decide +kernel)) rfl
theorem im_X7_isPerson : Cond.instanceMethod kX7_isPerson.1 ∈ TB := TB_mem (List.mem_of_getElem? (i := 939) (by decide +kernel)) rfl
theorem im_X7_tellPerson : Cond.instanceMethod kX7_tellPerson.1 ∈ TB := TB_mem (List.mem_of_getElem? (i := 943) (by decide +kernel)) rfl
theorem im_X7_growsOf : Cond.instanceMethod kX7_growsOf.1 ∈ TB := TB_mem (List.mem_of_getElem? (i := 949) (by decide +kernel)) rfl
theorem im_X7_seatOf : Cond.instanceMethod kX7_seatOf.1 ∈ TB := TB_mem (List.mem_of_getElem? (i := 959) (by decide +kernel)) rfl
theorem im_X7_wouldNow : Cond.instanceMethod kX7_wouldNow.1 ∈ TB := TB_mem (List.mem_of_getElem? (i := 963) (by decide +kernel)) rfl
theorem im_X7_wouldOn : Cond.instanceMethod kX7_wouldOn.1 ∈ TB := TB_mem (List.mem_of_getElem? (i := 967) (by decide +kernel)) rfl
theorem im_X7_forceOn : Cond.instanceMethod kX7_forceOn.1 ∈ TB := TB_mem (List.mem_of_getElem? (i := 971) (by decide +kernel)) rfl
theorem im_X7_dropsAt : Cond.instanceMethod kX7_dropsAt.1 ∈ TB := TB_mem (List.mem_of_getElem? (i := 981) (by decide +kernel)) rfl
theorem im_X7_pridesOf : Cond.instanceMethod kX7_pridesOf.1 ∈ TB := TB_mem (List.mem_of_getElem? (i := 988) (by decide +kernel)) rfl
theorem im_X7_tryOf : Cond.instanceMethod kX7_tryOf.1 ∈ TB := TB_mem (List.mem_of_getElem? (i := 992) (by decide +kernel)) rfl
theorem im_X7_as : Cond.instanceMethod kX7_as.1 ∈ TB := TB_mem (List.mem_of_getElem? (i := 995) (by decide +kernel)) rfl
theorem im_X7_pail : Cond.instanceMethod kX7_pail.1 ∈ TB := TB_mem (List.mem_of_getElem? (i := 1000) (by decide +kernel)) rfl
theorem im_X7_isPail : Cond.instanceMethod kX7_isPail.1 ∈ TB := TB_mem (List.mem_of_getElem? (i := 1005) (by decide +kernel)) rfl
theorem im_X7_tellPail : Cond.instanceMethod kX7_tellPail.1 ∈ TB := TB_mem (List.mem_of_getElem? (i := 1009) (by decide +kernel)) rfl
theorem im_X7_forceAt : Cond.instanceMethod kX7_forceAt.1 ∈ TB := TB_mem (List.mem_of_getElem? (i := 1013) (by decide +kernel)) rfl
theorem im_X7_pourOf : Cond.instanceMethod kX7_pourOf.1 ∈ TB := TB_mem (List.mem_of_getElem? (i := 1017) (by decide +kernel)) rfl
theorem im_X7_isOfFull : Cond.instanceMethod kX7_isOfFull.1 ∈ TB := TB_mem (List.mem_of_getElem? (i := 1021) (by decide +kernel)) rfl
theorem im_X7_inBottles : Cond.instanceMethod kX7_inBottles.1 ∈ TB := TB_mem (List.mem_of_getElem? (i := 1025) (by decide +kernel)) rfl
theorem im_X7_oddsOf : Cond.instanceMethod kX7_oddsOf.1 ∈ TB := TB_mem (List.mem_of_getElem? (i := 1029) (by decide +kernel)) rfl
theorem im_X7_oddsUp : Cond.instanceMethod kX7_oddsUp.1 ∈ TB := TB_mem (List.mem_of_getElem? (i := 1033) (by decide +kernel)) rfl
theorem im_X7_slightOn : Cond.instanceMethod kX7_slightOn.1 ∈ TB := TB_mem (List.mem_of_getElem? (i := 1040) (by decide +kernel)) rfl
theorem im_X7_slight : Cond.instanceMethod kX7_slight.1 ∈ TB := TB_mem (List.mem_of_getElem? (i := 1046) (by decide +kernel)) rfl
theorem im_X7_soothe : Cond.instanceMethod kX7_soothe.1 ∈ TB := TB_mem (List.mem_of_getElem? (i := 1051) (by decide +kernel)) rfl
theorem im_X7_sit : Cond.instanceMethod kX7_sit.1 ∈ TB := TB_mem (List.mem_of_getElem? (i := 1055) (by decide +kernel)) rfl
theorem im_X7_isPlace : Cond.instanceMethod kX7_isPlace.1 ∈ TB := TB_mem (List.mem_of_getElem? (i := 1060) (by decide +kernel)) rfl
theorem im_X7_lacks : Cond.instanceMethod kX7_lacks.1 ∈ TB := TB_mem (List.mem_of_getElem? (i := 1064) (by decide +kernel)) rfl
theorem im_X7_night : Cond.instanceMethod kX7_night.1 ∈ TB := TB_mem (List.mem_of_getElem? (i := 1068) (by decide +kernel)) rfl
theorem im_X7_nightOn : Cond.instanceMethod kX7_nightOn.1 ∈ TB := TB_mem (List.mem_of_getElem? (i := 1073) (by decide +kernel)) rfl
theorem im_X7_curdle : Cond.instanceMethod kX7_curdle.1 ∈ TB := TB_mem (List.mem_of_getElem? (i := 1076) (by decide +kernel)) rfl
theorem im_X7_fresh : Cond.instanceMethod kX7_fresh.1 ∈ TB := TB_mem (List.mem_of_getElem? (i := 1080) (by decide +kernel)) rfl
theorem im_X7_force : Cond.instanceMethod kX7_force.1 ∈ TB := TB_mem (List.mem_of_getElem? (i := 1084) (by decide +kernel)) rfl
theorem im_X7_keep : Cond.instanceMethod kX7_keep.1 ∈ TB := TB_mem (List.mem_of_getElem? (i := 1088) (by decide +kernel)) rfl
theorem im_X7_isBottle : Cond.instanceMethod kX7_isBottle.1 ∈ TB := TB_mem (List.mem_of_getElem? (i := 1093) (by decide +kernel)) rfl
theorem im_X7_pour : Cond.instanceMethod kX7_pour.1 ∈ TB := TB_mem (List.mem_of_getElem? (i := 1097) (by decide +kernel)) rfl
theorem im_X7_bottle : Cond.instanceMethod kX7_bottle.1 ∈ TB := TB_mem (List.mem_of_getElem? (i := 1101) (by decide +kernel)) rfl
theorem im_X7_would : Cond.instanceMethod kX7_would.1 ∈ TB := TB_mem (List.mem_of_getElem? (i := 1105) (by decide +kernel)) rfl
theorem im_X7_few : Cond.instanceMethod kX7_few.1 ∈ TB := TB_mem (List.mem_of_getElem? (i := 1109) (by decide +kernel)) rfl
theorem im_X7_fewOf : Cond.instanceMethod kX7_fewOf.1 ∈ TB := TB_mem (List.mem_of_getElem? (i := 1114) (by decide +kernel)) rfl
theorem im_X7_layFew : Cond.instanceMethod kX7_layFew.1 ∈ TB := TB_mem (List.mem_of_getElem? (i := 1118) (by decide +kernel)) rfl
theorem im_X7_isEnough : Cond.instanceMethod kX7_isEnough.1 ∈ TB := TB_mem (List.mem_of_getElem? (i := 1122) (by decide +kernel)) rfl
theorem im_X7_nextRow : Cond.instanceMethod kX7_nextRow.1 ∈ TB := TB_mem (List.mem_of_getElem? (i := 1126) (by decide +kernel)) rfl
theorem im_X7_week : Cond.instanceMethod kX7_week.1 ∈ TB := TB_mem (List.mem_of_getElem? (i := 1129) (by decide +kernel)) rfl
theorem im_X7_weekOf : Cond.instanceMethod kX7_weekOf.1 ∈ TB := TB_mem (List.mem_of_getElem? (i := 1134) (by decide +kernel)) rfl
theorem im_X7_settingBy : Cond.instanceMethod kX7_settingBy.1 ∈ TB := TB_mem (List.mem_of_getElem? (i := 1138) (by decide +kernel)) rfl
theorem im_X7_who : Cond.instanceMethod kX7_who.1 ∈ TB := TB_mem (List.mem_of_getElem? (i := 1141) (by decide +kernel)) rfl
theorem im_X7_whoOf : Cond.instanceMethod kX7_whoOf.1 ∈ TB := TB_mem (List.mem_of_getElem? (i := 1146) (by decide +kernel)) rfl
theorem im_X7_see : Cond.instanceMethod kX7_see.1 ∈ TB := TB_mem (List.mem_of_getElem? (i := 1149) (by decide +kernel)) rfl
theorem im_X7_forget : Cond.instanceMethod kX7_forget.1 ∈ TB := TB_mem (List.mem_of_getElem? (i := 1154) (by decide +kernel)) rfl
theorem im_X7_weeks : Cond.instanceMethod kX7_weeks.1 ∈ TB := TB_mem (List.mem_of_getElem? (i := 1158) (by decide +kernel)) rfl
theorem im_X7_draw : Cond.instanceMethod kX7_draw.1 ∈ TB := TB_mem (List.mem_of_getElem? (i := 1164) (by decide +kernel)) rfl
theorem im_X7_sumPeople : Cond.instanceMethod kX7_sumPeople.1 ∈ TB := TB_mem (List.mem_of_getElem? (i := 1172) (by decide +kernel)) rfl
theorem im_X7_image : Cond.instanceMethod kX7_image.1 ∈ TB := TB_mem (List.mem_of_getElem? (i := 1175) (by decide +kernel)) rfl
theorem im_X7_restore : Cond.instanceMethod kX7_restore.1 ∈ TB := TB_mem (List.mem_of_getElem? (i := 1179) (by decide +kernel)) rfl
theorem im_X7_count : Cond.instanceMethod kX7_count.1 ∈ TB := TB_mem (List.mem_of_getElem? (i := 1183) (by decide +kernel)) rfl
theorem im_X7_countOf : Cond.instanceMethod kX7_countOf.1 ∈ TB := TB_mem (List.mem_of_getElem? (i := 1188) (by decide +kernel)) rfl
theorem im_X7_setNow : Cond.instanceMethod kX7_setNow.1 ∈ TB := TB_mem (List.mem_of_getElem? (i := 1192) (by decide +kernel)) rfl
theorem im_X7_fullBottles : Cond.instanceMethod kX7_fullBottles.1 ∈ TB := TB_mem (List.mem_of_getElem? (i := 1196) (by decide +kernel)) rfl
theorem im_X7_countMore : Cond.instanceMethod kX7_countMore.1 ∈ TB := TB_mem (List.mem_of_getElem? (i := 1200) (by decide +kernel)) rfl
theorem im_X7_digest : Cond.instanceMethod kX7_digest.1 ∈ TB := TB_mem (List.mem_of_getElem? (i := 1203) (by decide +kernel)) rfl
theorem im_X7_say : Cond.instanceMethod kX7_say.1 ∈ TB := TB_mem (List.mem_of_getElem? (i := 1209) (by decide +kernel)) rfl
theorem im_X7_sayValley : Cond.instanceMethod kX7_sayValley.1 ∈ TB := TB_mem (List.mem_of_getElem? (i := 1214) (by decide +kernel)) rfl
theorem se_X6_letter : Cond.selects kX6_letter.1.cls kX6_letter.1 kX6_letter.1 ∈ TB := TB_mem (List.mem_of_getElem? (i := 265) (by decide +kernel)) rfl
theorem se_X1_add : Cond.selects kX1_add.1.cls kX1_add.1 kX1_add.1 ∈ TB := TB_mem (List.mem_of_getElem? (i := 269) (by decide +kernel)) rfl
theorem se_X6_blank : Cond.selects kX6_blank.1.cls kX6_blank.1 kX6_blank.1 ∈ TB := TB_mem (List.mem_of_getElem? (i := 273) (by decide +kernel)) rfl
theorem se_X1_clear : Cond.selects kX1_clear.1.cls kX1_clear.1 kX1_clear.1 ∈ TB := TB_mem (List.mem_of_getElem? (i := 277) (by decide +kernel)) rfl
theorem se_X6_fault : Cond.selects kX6_fault.1.cls kX6_fault.1 kX6_fault.1 ∈ TB := TB_mem (List.mem_of_getElem? (i := 281) (by decide +kernel)) rfl
theorem se_X1_firstFault : Cond.selects kX1_firstFault.1.cls kX1_firstFault.1 kX1_firstFault.1 ∈ TB := TB_mem (List.mem_of_getElem? (i := 285) (by decide +kernel)) rfl
theorem se_X1_markPlace : Cond.selects kX1_markPlace.1.cls kX1_markPlace.1 kX1_markPlace.1 ∈ TB := TB_mem (List.mem_of_getElem? (i := 289) (by decide +kernel)) rfl
theorem se_X1_digitAt : Cond.selects kX1_digitAt.1.cls kX1_digitAt.1 kX1_digitAt.1 ∈ TB := TB_mem (List.mem_of_getElem? (i := 301) (by decide +kernel)) rfl
theorem se_X1_codeAt : Cond.selects kX1_codeAt.1.cls kX1_codeAt.1 kX1_codeAt.1 ∈ TB := TB_mem (List.mem_of_getElem? (i := 305) (by decide +kernel)) rfl
theorem se_J0_indexOf_0f7a4 : Cond.selects kJ0_indexOf_0f7a4.1.cls kJ0_indexOf_0f7a4.1 kJ0_indexOf_0f7a4.1 ∈ TB := TB_mem (List.mem_of_getElem? (i := 314) (by decide +kernel)) rfl
theorem se_J0_indexOf_7cf53 : Cond.selects kJ0_indexOf_7cf53.1.cls kJ0_indexOf_7cf53.1 kJ0_indexOf_7cf53.1 ∈ TB := TB_mem (List.mem_of_getElem? (i := 318) (by decide +kernel)) rfl
theorem se_J0_isLatin1_aae02 : Cond.selects kJ0_isLatin1_aae02.1.cls kJ0_isLatin1_aae02.1 kJ0_isLatin1_aae02.1 ∈ TB := TB_mem (List.mem_of_getElem? (i := 322) (by decide +kernel)) rfl
theorem se_J0_length_8abf5 : Cond.selects kJ0_length_8abf5.1.cls kJ0_length_8abf5.1 kJ0_length_8abf5.1 ∈ TB := TB_mem (List.mem_of_getElem? (i := 328) (by decide +kernel)) rfl
theorem se_J0_coder_7d493 : Cond.selects kJ0_coder_7d493.1.cls kJ0_coder_7d493.1 kJ0_coder_7d493.1 ∈ TB := TB_mem (List.mem_of_getElem? (i := 332) (by decide +kernel)) rfl
theorem se_X6_valley : Cond.selects kX6_valley.1.cls kX6_valley.1 kX6_valley.1 ∈ TB := TB_mem (List.mem_of_getElem? (i := 405) (by decide +kernel)) rfl
theorem se_X1_isValley : Cond.selects kX1_isValley.1.cls kX1_isValley.1 kX1_isValley.1 ∈ TB := TB_mem (List.mem_of_getElem? (i := 409) (by decide +kernel)) rfl
theorem se_X3_clear : Cond.selects kX3_clear.1.cls kX3_clear.1 kX3_clear.1 ∈ TB := TB_mem (List.mem_of_getElem? (i := 414) (by decide +kernel)) rfl
theorem se_X5_read : Cond.selects kX5_read.1.cls kX5_read.1 kX5_read.1 ∈ TB := TB_mem (List.mem_of_getElem? (i := 421) (by decide +kernel)) rfl
theorem se_X6_person : Cond.selects kX6_person.1.cls kX6_person.1 kX6_person.1 ∈ TB := TB_mem (List.mem_of_getElem? (i := 442) (by decide +kernel)) rfl
theorem se_X5_hasPerson : Cond.selects kX5_hasPerson.1.cls kX5_hasPerson.1 kX5_hasPerson.1 ∈ TB := TB_mem (List.mem_of_getElem? (i := 446) (by decide +kernel)) rfl
theorem se_X5_growth : Cond.selects kX5_growth.1.cls kX5_growth.1 kX5_growth.1 ∈ TB := TB_mem (List.mem_of_getElem? (i := 453) (by decide +kernel)) rfl
theorem se_X5_hasSlight : Cond.selects kX5_hasSlight.1.cls kX5_hasSlight.1 kX5_hasSlight.1 ∈ TB := TB_mem (List.mem_of_getElem? (i := 457) (by decide +kernel)) rfl
theorem se_X0_findSeat : Cond.selects kX0_findSeat.1.cls kX0_findSeat.1 kX0_findSeat.1 ∈ TB := TB_mem (List.mem_of_getElem? (i := 461) (by decide +kernel)) rfl
theorem se_X3_copyForcesFrom : Cond.selects kX3_copyForcesFrom.1.cls kX3_copyForcesFrom.1 kX3_copyForcesFrom.1 ∈ TB := TB_mem (List.mem_of_getElem? (i := 466) (by decide +kernel)) rfl
theorem se_X5_allThatWouldSet : Cond.selects kX5_allThatWouldSet.1.cls kX5_allThatWouldSet.1 kX5_allThatWouldSet.1 ∈ TB := TB_mem (List.mem_of_getElem? (i := 473) (by decide +kernel)) rfl
theorem se_X3_forceAt : Cond.selects kX3_forceAt.1.cls kX3_forceAt.1 kX3_forceAt.1 ∈ TB := TB_mem (List.mem_of_getElem? (i := 477) (by decide +kernel)) rfl
theorem se_X2_prides : Cond.selects kX2_prides.1.cls kX2_prides.1 kX2_prides.1 ∈ TB := TB_mem (List.mem_of_getElem? (i := 490) (by decide +kernel)) rfl
theorem se_X6_as : Cond.selects kX6_as.1.cls kX6_as.1 kX6_as.1 ∈ TB := TB_mem (List.mem_of_getElem? (i := 513) (by decide +kernel)) rfl
theorem se_X6_pail : Cond.selects kX6_pail.1.cls kX6_pail.1 kX6_pail.1 ∈ TB := TB_mem (List.mem_of_getElem? (i := 518) (by decide +kernel)) rfl
theorem se_X5_hasPail : Cond.selects kX5_hasPail.1.cls kX5_hasPail.1 kX5_hasPail.1 ∈ TB := TB_mem (List.mem_of_getElem? (i := 522) (by decide +kernel)) rfl
theorem se_X3_isSet : Cond.selects kX3_isSet.1.cls kX3_isSet.1 kX3_isSet.1 ∈ TB := TB_mem (List.mem_of_getElem? (i := 527) (by decide +kernel)) rfl
theorem se_X5_wouldSet : Cond.selects kX5_wouldSet.1.cls kX5_wouldSet.1 kX5_wouldSet.1 ∈ TB := TB_mem (List.mem_of_getElem? (i := 531) (by decide +kernel)) rfl
theorem se_X3_bottlesWorth : Cond.selects kX3_bottlesWorth.1.cls kX3_bottlesWorth.1 kX3_bottlesWorth.1 ∈ TB := TB_mem (List.mem_of_getElem? (i := 540) (by decide +kernel)) rfl
theorem se_X3_fullBottles : Cond.selects kX3_fullBottles.1.cls kX3_fullBottles.1 kX3_fullBottles.1 ∈ TB := TB_mem (List.mem_of_getElem? (i := 544) (by decide +kernel)) rfl
theorem se_X0_slightsThatSet : Cond.selects kX0_slightsThatSet.1.cls kX0_slightsThatSet.1 kX0_slightsThatSet.1 ∈ TB := TB_mem (List.mem_of_getElem? (i := 557) (by decide +kernel)) rfl
theorem se_X5_slightNumbers : Cond.selects kX5_slightNumbers.1.cls kX5_slightNumbers.1 kX5_slightNumbers.1 ∈ TB := TB_mem (List.mem_of_getElem? (i := 561) (by decide +kernel)) rfl
theorem se_X5_offend : Cond.selects kX5_offend.1.cls kX5_offend.1 kX5_offend.1 ∈ TB := TB_mem (List.mem_of_getElem? (i := 569) (by decide +kernel)) rfl
theorem se_X6_slight : Cond.selects kX6_slight.1.cls kX6_slight.1 kX6_slight.1 ∈ TB := TB_mem (List.mem_of_getElem? (i := 578) (by decide +kernel)) rfl
theorem se_X6_soothe : Cond.selects kX6_soothe.1.cls kX6_soothe.1 kX6_soothe.1 ∈ TB := TB_mem (List.mem_of_getElem? (i := 584) (by decide +kernel)) rfl
theorem se_X6_sit : Cond.selects kX6_sit.1.cls kX6_sit.1 kX6_sit.1 ∈ TB := TB_mem (List.mem_of_getElem? (i := 588) (by decide +kernel)) rfl
theorem se_X6_night : Cond.selects kX6_night.1.cls kX6_night.1 kX6_night.1 ∈ TB := TB_mem (List.mem_of_getElem? (i := 595) (by decide +kernel)) rfl
theorem se_X5_isThere : Cond.selects kX5_isThere.1.cls kX5_isThere.1 kX5_isThere.1 ∈ TB := TB_mem (List.mem_of_getElem? (i := 599) (by decide +kernel)) rfl
theorem se_X5_passNight : Cond.selects kX5_passNight.1.cls kX5_passNight.1 kX5_passNight.1 ∈ TB := TB_mem (List.mem_of_getElem? (i := 603) (by decide +kernel)) rfl
theorem se_X6_curdle : Cond.selects kX6_curdle.1.cls kX6_curdle.1 kX6_curdle.1 ∈ TB := TB_mem (List.mem_of_getElem? (i := 610) (by decide +kernel)) rfl
theorem se_X6_fresh : Cond.selects kX6_fresh.1.cls kX6_fresh.1 kX6_fresh.1 ∈ TB := TB_mem (List.mem_of_getElem? (i := 616) (by decide +kernel)) rfl
theorem se_X6_force : Cond.selects kX6_force.1.cls kX6_force.1 kX6_force.1 ∈ TB := TB_mem (List.mem_of_getElem? (i := 620) (by decide +kernel)) rfl
theorem se_X6_keep : Cond.selects kX6_keep.1.cls kX6_keep.1 kX6_keep.1 ∈ TB := TB_mem (List.mem_of_getElem? (i := 624) (by decide +kernel)) rfl
theorem se_X6_pour : Cond.selects kX6_pour.1.cls kX6_pour.1 kX6_pour.1 ∈ TB := TB_mem (List.mem_of_getElem? (i := 632) (by decide +kernel)) rfl
theorem se_X3_addDrop : Cond.selects kX3_addDrop.1.cls kX3_addDrop.1 kX3_addDrop.1 ∈ TB := TB_mem (List.mem_of_getElem? (i := 636) (by decide +kernel)) rfl
theorem se_X6_bottle : Cond.selects kX6_bottle.1.cls kX6_bottle.1 kX6_bottle.1 ∈ TB := TB_mem (List.mem_of_getElem? (i := 640) (by decide +kernel)) rfl
theorem se_X6_would : Cond.selects kX6_would.1.cls kX6_would.1 kX6_would.1 ∈ TB := TB_mem (List.mem_of_getElem? (i := 644) (by decide +kernel)) rfl
theorem se_X6_few : Cond.selects kX6_few.1.cls kX6_few.1 kX6_few.1 ∈ TB := TB_mem (List.mem_of_getElem? (i := 648) (by decide +kernel)) rfl
theorem se_X5_arePails : Cond.selects kX5_arePails.1.cls kX5_arePails.1 kX5_arePails.1 ∈ TB := TB_mem (List.mem_of_getElem? (i := 652) (by decide +kernel)) rfl
theorem se_X0_findFew : Cond.selects kX0_findFew.1.cls kX0_findFew.1 kX0_findFew.1 ∈ TB := TB_mem (List.mem_of_getElem? (i := 659) (by decide +kernel)) rfl
theorem se_X0_tell : Cond.selects kX0_tell.1.cls kX0_tell.1 kX0_tell.1 ∈ TB := TB_mem (List.mem_of_getElem? (i := 668) (by decide +kernel)) rfl
theorem se_X6_week : Cond.selects kX6_week.1.cls kX6_week.1 kX6_week.1 ∈ TB := TB_mem (List.mem_of_getElem? (i := 672) (by decide +kernel)) rfl
theorem se_X0_findWeek : Cond.selects kX0_findWeek.1.cls kX0_findWeek.1 kX0_findWeek.1 ∈ TB := TB_mem (List.mem_of_getElem? (i := 676) (by decide +kernel)) rfl
theorem se_X6_who : Cond.selects kX6_who.1.cls kX6_who.1 kX6_who.1 ∈ TB := TB_mem (List.mem_of_getElem? (i := 685) (by decide +kernel)) rfl
theorem se_X0_slightsThatSetJust : Cond.selects kX0_slightsThatSetJust.1.cls kX0_slightsThatSetJust.1 kX0_slightsThatSetJust.1 ∈ TB := TB_mem (List.mem_of_getElem? (i := 689) (by decide +kernel)) rfl
theorem se_X6_see : Cond.selects kX6_see.1.cls kX6_see.1 kX6_see.1 ∈ TB := TB_mem (List.mem_of_getElem? (i := 693) (by decide +kernel)) rfl
theorem se_X2_add : Cond.selects kX2_add.1.cls kX2_add.1 kX2_add.1 ∈ TB := TB_mem (List.mem_of_getElem? (i := 697) (by decide +kernel)) rfl
theorem se_X6_forget : Cond.selects kX6_forget.1.cls kX6_forget.1 kX6_forget.1 ∈ TB := TB_mem (List.mem_of_getElem? (i := 701) (by decide +kernel)) rfl
theorem se_X6_weeks : Cond.selects kX6_weeks.1.cls kX6_weeks.1 kX6_weeks.1 ∈ TB := TB_mem (List.mem_of_getElem? (i := 705) (by decide +kernel)) rfl
theorem se_X0_runWeeks : Cond.selects kX0_runWeeks.1.cls kX0_runWeeks.1 kX0_runWeeks.1 ∈ TB := TB_mem (List.mem_of_getElem? (i := 709) (by decide +kernel)) rfl
theorem se_X3_allGrudges : Cond.selects kX3_allGrudges.1.cls kX3_allGrudges.1 kX3_allGrudges.1 ∈ TB := TB_mem (List.mem_of_getElem? (i := 721) (by decide +kernel)) rfl
theorem se_X6_image : Cond.selects kX6_image.1.cls kX6_image.1 kX6_image.1 ∈ TB := TB_mem (List.mem_of_getElem? (i := 728) (by decide +kernel)) rfl
theorem se_X3_copyFrom : Cond.selects kX3_copyFrom.1.cls kX3_copyFrom.1 kX3_copyFrom.1 ∈ TB := TB_mem (List.mem_of_getElem? (i := 732) (by decide +kernel)) rfl
theorem se_X2_copyFrom : Cond.selects kX2_copyFrom.1.cls kX2_copyFrom.1 kX2_copyFrom.1 ∈ TB := TB_mem (List.mem_of_getElem? (i := 736) (by decide +kernel)) rfl
theorem se_X6_restore : Cond.selects kX6_restore.1.cls kX6_restore.1 kX6_restore.1 ∈ TB := TB_mem (List.mem_of_getElem? (i := 742) (by decide +kernel)) rfl
theorem se_X6_count : Cond.selects kX6_count.1.cls kX6_count.1 kX6_count.1 ∈ TB := TB_mem (List.mem_of_getElem? (i := 746) (by decide +kernel)) rfl
theorem se_X3_allSlights : Cond.selects kX3_allSlights.1.cls kX3_allSlights.1 kX3_allSlights.1 ∈ TB := TB_mem (List.mem_of_getElem? (i := 751) (by decide +kernel)) rfl
theorem se_X6_digest : Cond.selects kX6_digest.1.cls kX6_digest.1 kX6_digest.1 ∈ TB := TB_mem (List.mem_of_getElem? (i := 755) (by decide +kernel)) rfl
theorem se_X7_letter : Cond.selects kX7_letter.1.cls kX7_letter.1 kX7_letter.1 ∈ TB := TB_mem (List.mem_of_getElem? (i := 896) (by decide +kernel)) rfl
theorem se_X7_blank : Cond.selects kX7_blank.1.cls kX7_blank.1 kX7_blank.1 ∈ TB := TB_mem (List.mem_of_getElem? (i := 904) (by decide +kernel)) rfl
theorem se_X7_fault : Cond.selects kX7_fault.1.cls kX7_fault.1 kX7_fault.1 ∈ TB := TB_mem (List.mem_of_getElem? (i := 908) (by decide +kernel)) rfl
theorem se_X7_valley : Cond.selects kX7_valley.1.cls kX7_valley.1 kX7_valley.1 ∈ TB := TB_mem (List.mem_of_getElem? (i := 931) (by decide +kernel)) rfl
theorem se_X7_person : Cond.selects kX7_person.1.cls kX7_person.1 kX7_person.1 ∈ TB := TB_mem (List.mem_of_getElem? (i := 935) (by decide +kernel)) rfl
theorem se_X7_as : Cond.selects kX7_as.1.cls kX7_as.1 kX7_as.1 ∈ TB := TB_mem (List.mem_of_getElem? (i := 996) (by decide +kernel)) rfl
theorem se_X7_pail : Cond.selects kX7_pail.1.cls kX7_pail.1 kX7_pail.1 ∈ TB := TB_mem (List.mem_of_getElem? (i := 1001) (by decide +kernel)) rfl
theorem se_X7_slight : Cond.selects kX7_slight.1.cls kX7_slight.1 kX7_slight.1 ∈ TB := TB_mem (List.mem_of_getElem? (i := 1047) (by decide +kernel)) rfl
theorem se_X7_soothe : Cond.selects kX7_soothe.1.cls kX7_soothe.1 kX7_soothe.1 ∈ TB := TB_mem (List.mem_of_getElem? (i := 1052) (by decide +kernel)) rfl
theorem se_X7_sit : Cond.selects kX7_sit.1.cls kX7_sit.1 kX7_sit.1 ∈ TB := TB_mem (List.mem_of_getElem? (i := 1056) (by decide +kernel)) rfl
theorem se_X7_night : Cond.selects kX7_night.1.cls kX7_night.1 kX7_night.1 ∈ TB := TB_mem (List.mem_of_getElem? (i := 1069) (by decide +kernel)) rfl
theorem se_X7_curdle : Cond.selects kX7_curdle.1.cls kX7_curdle.1 kX7_curdle.1 ∈ TB := TB_mem (List.mem_of_getElem? (i := 1077) (by decide +kernel)) rfl
theorem se_X7_fresh : Cond.selects kX7_fresh.1.cls kX7_fresh.1 kX7_fresh.1 ∈ TB := TB_mem (List.mem_of_getElem? (i := 1081) (by decide +kernel)) rfl
theorem se_X7_force : Cond.selects kX7_force.1.cls kX7_force.1 kX7_force.1 ∈ TB := TB_mem (List.mem_of_getElem? (i := 1085) (by decide +kernel)) rfl
theorem se_X7_keep : Cond.selects kX7_keep.1.cls kX7_keep.1 kX7_keep.1 ∈ TB := TB_mem (List.mem_of_getElem? (i := 1089) (by decide +kernel)) rfl
theorem se_X7_pour : Cond.selects kX7_pour.1.cls kX7_pour.1 kX7_pour.1 ∈ TB := TB_mem (List.mem_of_getElem? (i := 1098) (by decide +kernel)) rfl
theorem se_X7_bottle : Cond.selects kX7_bottle.1.cls kX7_bottle.1 kX7_bottle.1 ∈ TB := TB_mem (List.mem_of_getElem? (i := 1102) (by decide +kernel)) rfl
theorem se_X7_would : Cond.selects kX7_would.1.cls kX7_would.1 kX7_would.1 ∈ TB := TB_mem (List.mem_of_getElem? (i := 1106) (by decide +kernel)) rfl
theorem se_X7_few : Cond.selects kX7_few.1.cls kX7_few.1 kX7_few.1 ∈ TB := TB_mem (List.mem_of_getElem? (i := 1110) (by decide +kernel)) rfl
theorem se_X7_week : Cond.selects kX7_week.1.cls kX7_week.1 kX7_week.1 ∈ TB := TB_mem (List.mem_of_getElem? (i := 1130) (by decide +kernel)) rfl
theorem se_X7_who : Cond.selects kX7_who.1.cls kX7_who.1 kX7_who.1 ∈ TB := TB_mem (List.mem_of_getElem? (i := 1142) (by decide +kernel)) rfl
theorem se_X7_see : Cond.selects kX7_see.1.cls kX7_see.1 kX7_see.1 ∈ TB := TB_mem (List.mem_of_getElem? (i := 1150) (by decide +kernel)) rfl
theorem se_X7_forget : Cond.selects kX7_forget.1.cls kX7_forget.1 kX7_forget.1 ∈ TB := TB_mem (List.mem_of_getElem? (i := 1155) (by decide +kernel)) rfl
theorem se_X7_weeks : Cond.selects kX7_weeks.1.cls kX7_weeks.1 kX7_weeks.1 ∈ TB := TB_mem (List.mem_of_getElem? (i := 1159) (by decide +kernel)) rfl
theorem se_X7_image : Cond.selects kX7_image.1.cls kX7_image.1 kX7_image.1 ∈ TB := TB_mem (List.mem_of_getElem? (i := 1176) (by decide +kernel)) rfl
theorem se_X7_restore : Cond.selects kX7_restore.1.cls kX7_restore.1 kX7_restore.1 ∈ TB := TB_mem (List.mem_of_getElem? (i := 1180) (by decide +kernel)) rfl
theorem se_X7_count : Cond.selects kX7_count.1.cls kX7_count.1 kX7_count.1 ∈ TB := TB_mem (List.mem_of_getElem? (i := 1184) (by decide +kernel)) rfl
theorem se_X7_digest : Cond.selects kX7_digest.1.cls kX7_digest.1 kX7_digest.1 ∈ TB := TB_mem (List.mem_of_getElem? (i := 1204) (by decide +kernel)) rfl
theorem se_X1_fitsPails : Cond.selects kX1_fitsPails.1.cls kX1_fitsPails.1 kX1_fitsPails.1 ∈ TB := TB_mem (List.mem_of_getElem? (i := 0) (by decide +kernel)) rfl
theorem se_X1_isDigit : Cond.selects kX1_isDigit.1.cls kX1_isDigit.1 kX1_isDigit.1 ∈ TB := TB_mem (List.mem_of_getElem? (i := 1) (by decide +kernel)) rfl
theorem se_X1_fitsPeople : Cond.selects kX1_fitsPeople.1.cls kX1_fitsPeople.1 kX1_fitsPeople.1 ∈ TB := TB_mem (List.mem_of_getElem? (i := 2) (by decide +kernel)) rfl
theorem se_X1_fitsBehindPeople : Cond.selects kX1_fitsBehindPeople.1.cls kX1_fitsBehindPeople.1 kX1_fitsBehindPeople.1 ∈ TB := TB_mem (List.mem_of_getElem? (i := 3) (by decide +kernel)) rfl
theorem se_X2_allowsPride : Cond.selects kX2_allowsPride.1.cls kX2_allowsPride.1 kX2_allowsPride.1 ∈ TB := TB_mem (List.mem_of_getElem? (i := 4) (by decide +kernel)) rfl
theorem se_X6_bottlesFor : Cond.selects kX6_bottlesFor.1.cls kX6_bottlesFor.1 kX6_bottlesFor.1 ∈ TB := TB_mem (List.mem_of_getElem? (i := 5) (by decide +kernel)) rfl
theorem se_X3_heldIn : Cond.selects kX3_heldIn.1.cls kX3_heldIn.1 kX3_heldIn.1 ∈ TB := TB_mem (List.mem_of_getElem? (i := 6) (by decide +kernel)) rfl
theorem se_X6_odds : Cond.selects kX6_odds.1.cls kX6_odds.1 kX6_odds.1 ∈ TB := TB_mem (List.mem_of_getElem? (i := 7) (by decide +kernel)) rfl
theorem se_X0_trySlight : Cond.selects kX0_trySlight.1.cls kX0_trySlight.1 kX0_trySlight.1 ∈ TB := TB_mem (List.mem_of_getElem? (i := 8) (by decide +kernel)) rfl
theorem se_X6_hasBottle : Cond.selects kX6_hasBottle.1.cls kX6_hasBottle.1 kX6_hasBottle.1 ∈ TB := TB_mem (List.mem_of_getElem? (i := 9) (by decide +kernel)) rfl
theorem se_X0_rowSets : Cond.selects kX0_rowSets.1.cls kX0_rowSets.1 kX0_rowSets.1 ∈ TB := TB_mem (List.mem_of_getElem? (i := 10) (by decide +kernel)) rfl
theorem se_X0_tryDay : Cond.selects kX0_tryDay.1.cls kX0_tryDay.1 kX0_tryDay.1 ∈ TB := TB_mem (List.mem_of_getElem? (i := 11) (by decide +kernel)) rfl
theorem se_X0_draw : Cond.selects kX0_draw.1.cls kX0_draw.1 kX0_draw.1 ∈ TB := TB_mem (List.mem_of_getElem? (i := 12) (by decide +kernel)) rfl
theorem se_X7_faultOf : Cond.selects kX7_faultOf.1.cls kX7_faultOf.1 kX7_faultOf.1 ∈ TB := TB_mem (List.mem_of_getElem? (i := 13) (by decide +kernel)) rfl
theorem se_X7_isGood : Cond.selects kX7_isGood.1.cls kX7_isGood.1 kX7_isGood.1 ∈ TB := TB_mem (List.mem_of_getElem? (i := 14) (by decide +kernel)) rfl
theorem se_X7_isPersonLetter : Cond.selects kX7_isPersonLetter.1.cls kX7_isPersonLetter.1 kX7_isPersonLetter.1 ∈ TB := TB_mem (List.mem_of_getElem? (i := 15) (by decide +kernel)) rfl
theorem se_X7_isPerson : Cond.selects kX7_isPerson.1.cls kX7_isPerson.1 kX7_isPerson.1 ∈ TB := TB_mem (List.mem_of_getElem? (i := 16) (by decide +kernel)) rfl
theorem se_X7_tellPerson : Cond.selects kX7_tellPerson.1.cls kX7_tellPerson.1 kX7_tellPerson.1 ∈ TB := TB_mem (List.mem_of_getElem? (i := 17) (by decide +kernel)) rfl
theorem se_X7_growsOf : Cond.selects kX7_growsOf.1.cls kX7_growsOf.1 kX7_growsOf.1 ∈ TB := TB_mem (List.mem_of_getElem? (i := 18) (by decide +kernel)) rfl
theorem se_X7_seatOf : Cond.selects kX7_seatOf.1.cls kX7_seatOf.1 kX7_seatOf.1 ∈ TB := TB_mem (List.mem_of_getElem? (i := 19) (by decide +kernel)) rfl
theorem se_X7_wouldNow : Cond.selects kX7_wouldNow.1.cls kX7_wouldNow.1 kX7_wouldNow.1 ∈ TB := TB_mem (List.mem_of_getElem? (i := 20) (by decide +kernel)) rfl
theorem se_X7_wouldOn : Cond.selects kX7_wouldOn.1.cls kX7_wouldOn.1 kX7_wouldOn.1 ∈ TB := TB_mem (List.mem_of_getElem? (i := 21) (by decide +kernel)) rfl
theorem se_X7_forceOn : Cond.selects kX7_forceOn.1.cls kX7_forceOn.1 kX7_forceOn.1 ∈ TB := TB_mem (List.mem_of_getElem? (i := 22) (by decide +kernel)) rfl
theorem se_X7_dropsAt : Cond.selects kX7_dropsAt.1.cls kX7_dropsAt.1 kX7_dropsAt.1 ∈ TB := TB_mem (List.mem_of_getElem? (i := 23) (by decide +kernel)) rfl
theorem se_X7_pridesOf : Cond.selects kX7_pridesOf.1.cls kX7_pridesOf.1 kX7_pridesOf.1 ∈ TB := TB_mem (List.mem_of_getElem? (i := 24) (by decide +kernel)) rfl
theorem se_X7_tryOf : Cond.selects kX7_tryOf.1.cls kX7_tryOf.1 kX7_tryOf.1 ∈ TB := TB_mem (List.mem_of_getElem? (i := 25) (by decide +kernel)) rfl
theorem se_X7_isPail : Cond.selects kX7_isPail.1.cls kX7_isPail.1 kX7_isPail.1 ∈ TB := TB_mem (List.mem_of_getElem? (i := 26) (by decide +kernel)) rfl
theorem se_X7_tellPail : Cond.selects kX7_tellPail.1.cls kX7_tellPail.1 kX7_tellPail.1 ∈ TB := TB_mem (List.mem_of_getElem? (i := 27) (by decide +kernel)) rfl
theorem se_X7_forceAt : Cond.selects kX7_forceAt.1.cls kX7_forceAt.1 kX7_forceAt.1 ∈ TB := TB_mem (List.mem_of_getElem? (i := 28) (by decide +kernel)) rfl
theorem se_X7_pourOf : Cond.selects kX7_pourOf.1.cls kX7_pourOf.1 kX7_pourOf.1 ∈ TB := TB_mem (List.mem_of_getElem? (i := 29) (by decide +kernel)) rfl
theorem se_X7_isOfFull : Cond.selects kX7_isOfFull.1.cls kX7_isOfFull.1 kX7_isOfFull.1 ∈ TB := TB_mem (List.mem_of_getElem? (i := 30) (by decide +kernel)) rfl
theorem se_X7_inBottles : Cond.selects kX7_inBottles.1.cls kX7_inBottles.1 kX7_inBottles.1 ∈ TB := TB_mem (List.mem_of_getElem? (i := 31) (by decide +kernel)) rfl
theorem se_X7_oddsOf : Cond.selects kX7_oddsOf.1.cls kX7_oddsOf.1 kX7_oddsOf.1 ∈ TB := TB_mem (List.mem_of_getElem? (i := 32) (by decide +kernel)) rfl
theorem se_X7_oddsUp : Cond.selects kX7_oddsUp.1.cls kX7_oddsUp.1 kX7_oddsUp.1 ∈ TB := TB_mem (List.mem_of_getElem? (i := 33) (by decide +kernel)) rfl
theorem se_X7_slightOn : Cond.selects kX7_slightOn.1.cls kX7_slightOn.1 kX7_slightOn.1 ∈ TB := TB_mem (List.mem_of_getElem? (i := 34) (by decide +kernel)) rfl
theorem se_X7_isPlace : Cond.selects kX7_isPlace.1.cls kX7_isPlace.1 kX7_isPlace.1 ∈ TB := TB_mem (List.mem_of_getElem? (i := 35) (by decide +kernel)) rfl
theorem se_X7_lacks : Cond.selects kX7_lacks.1.cls kX7_lacks.1 kX7_lacks.1 ∈ TB := TB_mem (List.mem_of_getElem? (i := 36) (by decide +kernel)) rfl
theorem se_X7_nightOn : Cond.selects kX7_nightOn.1.cls kX7_nightOn.1 kX7_nightOn.1 ∈ TB := TB_mem (List.mem_of_getElem? (i := 37) (by decide +kernel)) rfl
theorem se_X7_isBottle : Cond.selects kX7_isBottle.1.cls kX7_isBottle.1 kX7_isBottle.1 ∈ TB := TB_mem (List.mem_of_getElem? (i := 38) (by decide +kernel)) rfl
theorem se_X7_fewOf : Cond.selects kX7_fewOf.1.cls kX7_fewOf.1 kX7_fewOf.1 ∈ TB := TB_mem (List.mem_of_getElem? (i := 39) (by decide +kernel)) rfl
theorem se_X7_layFew : Cond.selects kX7_layFew.1.cls kX7_layFew.1 kX7_layFew.1 ∈ TB := TB_mem (List.mem_of_getElem? (i := 40) (by decide +kernel)) rfl
theorem se_X7_isEnough : Cond.selects kX7_isEnough.1.cls kX7_isEnough.1 kX7_isEnough.1 ∈ TB := TB_mem (List.mem_of_getElem? (i := 41) (by decide +kernel)) rfl
theorem se_X7_nextRow : Cond.selects kX7_nextRow.1.cls kX7_nextRow.1 kX7_nextRow.1 ∈ TB := TB_mem (List.mem_of_getElem? (i := 42) (by decide +kernel)) rfl
theorem se_X7_weekOf : Cond.selects kX7_weekOf.1.cls kX7_weekOf.1 kX7_weekOf.1 ∈ TB := TB_mem (List.mem_of_getElem? (i := 43) (by decide +kernel)) rfl
theorem se_X7_settingBy : Cond.selects kX7_settingBy.1.cls kX7_settingBy.1 kX7_settingBy.1 ∈ TB := TB_mem (List.mem_of_getElem? (i := 44) (by decide +kernel)) rfl
theorem se_X7_whoOf : Cond.selects kX7_whoOf.1.cls kX7_whoOf.1 kX7_whoOf.1 ∈ TB := TB_mem (List.mem_of_getElem? (i := 45) (by decide +kernel)) rfl
theorem se_X7_draw : Cond.selects kX7_draw.1.cls kX7_draw.1 kX7_draw.1 ∈ TB := TB_mem (List.mem_of_getElem? (i := 46) (by decide +kernel)) rfl
theorem se_X7_sumPeople : Cond.selects kX7_sumPeople.1.cls kX7_sumPeople.1 kX7_sumPeople.1 ∈ TB := TB_mem (List.mem_of_getElem? (i := 47) (by decide +kernel)) rfl
theorem se_X7_countOf : Cond.selects kX7_countOf.1.cls kX7_countOf.1 kX7_countOf.1 ∈ TB := TB_mem (List.mem_of_getElem? (i := 48) (by decide +kernel)) rfl
theorem se_X7_setNow : Cond.selects kX7_setNow.1.cls kX7_setNow.1 kX7_setNow.1 ∈ TB := TB_mem (List.mem_of_getElem? (i := 49) (by decide +kernel)) rfl
theorem se_X7_fullBottles : Cond.selects kX7_fullBottles.1.cls kX7_fullBottles.1 kX7_fullBottles.1 ∈ TB := TB_mem (List.mem_of_getElem? (i := 50) (by decide +kernel)) rfl
theorem se_X7_countMore : Cond.selects kX7_countMore.1.cls kX7_countMore.1 kX7_countMore.1 ∈ TB := TB_mem (List.mem_of_getElem? (i := 51) (by decide +kernel)) rfl
theorem se_X7_say : Cond.selects kX7_say.1.cls kX7_say.1 kX7_say.1 ∈ TB := TB_mem (List.mem_of_getElem? (i := 52) (by decide +kernel)) rfl
theorem se_X7_sayValley : Cond.selects kX7_sayValley.1.cls kX7_sayValley.1 kX7_sayValley.1 ∈ TB := TB_mem (List.mem_of_getElem? (i := 53) (by decide +kernel)) rfl
theorem vw_L_13 : VW RL 13 kX6_letter 1 := ⟨cw_X6_letter, TB_mem (List.mem_of_getElem? (i := 263) (by decide +kernel)) rfl, im_X6_letter, se_X6_letter, in_RX6, by decide, by decide, by decide, by decide +kernel⟩
theorem vw_X6_44 : VW RX6 44 kX1_add 1 := ⟨cw_X1_add, TB_mem (List.mem_of_getElem? (i := 267) (by decide +kernel)) rfl, im_X1_add, se_X1_add, in_RX1, by decide, by decide, by decide, by decide +kernel⟩
theorem vw_L_18 : VW RL 18 kX6_blank 0 := ⟨cw_X6_blank, TB_mem (List.mem_of_getElem? (i := 271) (by decide +kernel)) rfl, im_X6_blank, se_X6_blank, in_RX6, by decide, by decide, by decide, by decide +kernel⟩
theorem vw_X6_48 : VW RX6 48 kX1_clear 0 := ⟨cw_X1_clear, TB_mem (List.mem_of_getElem? (i := 275) (by decide +kernel)) rfl, im_X1_clear, se_X1_clear, in_RX1, by decide, by decide, by decide, by decide +kernel⟩
theorem vw_L_23 : VW RL 23 kX6_fault 0 := ⟨cw_X6_fault, TB_mem (List.mem_of_getElem? (i := 279) (by decide +kernel)) rfl, im_X6_fault, se_X6_fault, in_RX6, by decide, by decide, by decide, by decide +kernel⟩
theorem vw_X6_52 : VW RX6 52 kX1_firstFault 0 := ⟨cw_X1_firstFault, TB_mem (List.mem_of_getElem? (i := 283) (by decide +kernel)) rfl, im_X1_firstFault, se_X1_firstFault, in_RX1, by decide, by decide, by decide, by decide +kernel⟩
theorem vw_X1_23 : VW RX1 23 kX1_markPlace 0 := ⟨cw_X1_markPlace, TB_mem (List.mem_of_getElem? (i := 287) (by decide +kernel)) rfl, im_X1_markPlace, se_X1_markPlace, in_RX1, by decide, by decide, by decide, by decide +kernel⟩
theorem vw_X1_27 : VW RX1 27 kX1_fitsPails 2 := ⟨cw_X1_fitsPails, TB_mem (List.mem_of_getElem? (i := 291) (by decide +kernel)) rfl, im_X1_fitsPails, se_X1_fitsPails, in_RX1, by decide, by decide, by decide, by decide +kernel⟩
theorem vw_X1_45 : VW RX1 45 kX1_isDigit 3 := ⟨cw_X1_isDigit, TB_mem (List.mem_of_getElem? (i := 295) (by decide +kernel)) rfl, im_X1_isDigit, se_X1_isDigit, in_RX1, by decide, by decide, by decide, by decide +kernel⟩
theorem vw_X1_52 : VW RX1 52 kX1_digitAt 1 := ⟨cw_X1_digitAt, TB_mem (List.mem_of_getElem? (i := 299) (by decide +kernel)) rfl, im_X1_digitAt, se_X1_digitAt, in_RX1, by decide, by decide, by decide, by decide +kernel⟩
theorem vw_X1_19 : VW RX1 19 kX1_codeAt 1 := ⟨cw_X1_codeAt, TB_mem (List.mem_of_getElem? (i := 303) (by decide +kernel)) rfl, im_X1_codeAt, se_X1_codeAt, in_RX1, by decide, by decide, by decide, by decide +kernel⟩
theorem vw_X1_31 : VW RX1 31 kX1_fitsPeople 1 := ⟨cw_X1_fitsPeople, TB_mem (List.mem_of_getElem? (i := 307) (by decide +kernel)) rfl, im_X1_fitsPeople, se_X1_fitsPeople, in_RX1, by decide, by decide, by decide, by decide +kernel⟩
theorem vw_X1_40 : VW RX1 40 kJ0_indexOf_0f7a4 1 := ⟨cw_J0_indexOf_0f7a4, TB_mem (List.mem_of_getElem? (i := 312) (by decide +kernel)) rfl, im_J0_indexOf_0f7a4, se_J0_indexOf_0f7a4, in_RJ0, by decide, by decide, by decide, by decide +kernel⟩
theorem vw_J0_633 : VW RJ0 633 kJ0_indexOf_7cf53 2 := ⟨cw_J0_indexOf_7cf53, TB_mem (List.mem_of_getElem? (i := 316) (by decide +kernel)) rfl, im_J0_indexOf_7cf53, se_J0_indexOf_7cf53, in_RJ0, by decide, by decide, by decide, by decide +kernel⟩
theorem vw_J0_492 : VW RJ0 492 kJ0_isLatin1_aae02 0 := ⟨cw_J0_isLatin1_aae02, TB_mem (List.mem_of_getElem? (i := 320) (by decide +kernel)) rfl, im_J0_isLatin1_aae02, se_J0_isLatin1_aae02, in_RJ0, by decide, by decide, by decide, by decide +kernel⟩
theorem vw_J0_505 : VW RJ0 505 kJ0_length_8abf5 0 := ⟨cw_J0_length_8abf5, TB_mem (List.mem_of_getElem? (i := 326) (by decide +kernel)) rfl, im_J0_length_8abf5, se_J0_length_8abf5, in_RJ0, by decide, by decide, by decide, by decide +kernel⟩
theorem vw_J0_335 : VW RJ0 335 kJ0_coder_7d493 0 := ⟨cw_J0_coder_7d493, TB_mem (List.mem_of_getElem? (i := 330) (by decide +kernel)) rfl, im_J0_coder_7d493, se_J0_coder_7d493, in_RJ0, by decide, by decide, by decide, by decide +kernel⟩
theorem sw_J0_637 : SW RJ0 637 kJ1_indexOf_4cfef 4 := ⟨cw_J1_indexOf_4cfef, Or.inl (TB_mem (List.mem_of_getElem? (i := 334) (by decide +kernel)) rfl), st_J1_indexOf_4cfef, in_RJ1, by decide, by decide, by decide, by decide +kernel⟩
theorem sw_J1_88 : SW RJ1 88 kJ1_canEncode_9a6ad 1 := ⟨cw_J1_canEncode_9a6ad, Or.inl (TB_mem (List.mem_of_getElem? (i := 337) (by decide +kernel)) rfl), st_J1_canEncode_9a6ad, in_RJ1, by decide, by decide, by decide, by decide +kernel⟩
theorem sw_J1_92 : SW RJ1 92 kJ9_max_7cf53 2 := ⟨cw_J9_max_7cf53, Or.inl (TB_mem (List.mem_of_getElem? (i := 340) (by decide +kernel)) rfl), st_J9_max_7cf53, in_RJ9, by decide, by decide, by decide, by decide +kernel⟩
theorem sw_J1_38 : SW RJ1 38 kJ9_min_7cf53 2 := ⟨cw_J9_min_7cf53, Or.inl (TB_mem (List.mem_of_getElem? (i := 343) (by decide +kernel)) rfl), st_J9_min_7cf53, in_RJ9, by decide, by decide, by decide, by decide +kernel⟩
theorem sw_J1_95 : SW RJ1 95 kJ1_indexOfChar_4cfef 4 := ⟨cw_J1_indexOfChar_4cfef, Or.inl (TB_mem (List.mem_of_getElem? (i := 346) (by decide +kernel)) rfl), st_J1_indexOfChar_4cfef, in_RJ1, by decide, by decide, by decide, by decide +kernel⟩
theorem sw_J0_640 : SW RJ0 640 kJ2_indexOf_4cfef 4 := ⟨cw_J2_indexOf_4cfef, Or.inl (TB_mem (List.mem_of_getElem? (i := 349) (by decide +kernel)) rfl), st_J2_indexOf_4cfef, in_RJ2, by decide, by decide, by decide, by decide +kernel⟩
theorem sw_J2_224 : SW RJ2 224 kJ9_max_7cf53 2 := ⟨cw_J9_max_7cf53, Or.inl (TB_mem (List.mem_of_getElem? (i := 352) (by decide +kernel)) rfl), st_J9_max_7cf53, in_RJ9, by decide, by decide, by decide, by decide +kernel⟩
theorem sw_J2_183 : SW RJ2 183 kJ9_min_7cf53 2 := ⟨cw_J9_min_7cf53, Or.inl (TB_mem (List.mem_of_getElem? (i := 353) (by decide +kernel)) rfl), st_J9_min_7cf53, in_RJ9, by decide, by decide, by decide, by decide +kernel⟩
theorem sw_J2_228 : SW RJ2 228 kJ2_indexOfChar_4cfef 4 := ⟨cw_J2_indexOfChar_4cfef, Or.inl (TB_mem (List.mem_of_getElem? (i := 355) (by decide +kernel)) rfl), st_J2_indexOfChar_4cfef, in_RJ2, by decide, by decide, by decide, by decide +kernel⟩
theorem sw_J2_96 : SW RJ2 96 kJ2_checkBoundsBeginEnd_d044e 3 := ⟨cw_J2_checkBoundsBeginEnd_d044e, Or.inl (TB_mem (List.mem_of_getElem? (i := 358) (by decide +kernel)) rfl), st_J2_checkBoundsBeginEnd_d044e, in_RJ2, by decide, by decide, by decide, by decide +kernel⟩
theorem sw_J2_48 : SW RJ2 48 kJ2_length_9d52b 1 := ⟨cw_J2_length_9d52b, Or.inl (TB_mem (List.mem_of_getElem? (i := 361) (by decide +kernel)) rfl), st_J2_length_9d52b, in_RJ2, by decide, by decide, by decide, by decide +kernel⟩
theorem sw_J2_241 : SW RJ2 241 kJ0_checkBoundsBeginEnd_23922 3 := ⟨cw_J0_checkBoundsBeginEnd_23922, Or.inl (TB_mem (List.mem_of_getElem? (i := 364) (by decide +kernel)) rfl), st_J0_checkBoundsBeginEnd_23922, in_RJ0, by decide, by decide, by decide, by decide +kernel⟩
theorem sw_J0_1062 : SW RJ0 1062 kJ3_checkFromToIndex_8c36e 4 := ⟨cw_J3_checkFromToIndex_8c36e, Or.inl (TB_mem (List.mem_of_getElem? (i := 369) (by decide +kernel)) rfl), st_J3_checkFromToIndex_8c36e, in_RJ3, by decide, by decide, by decide, by decide +kernel⟩
theorem sw_J2_244 : SW RJ2 244 kJ2_indexOfCharUnsafe_4cfef 4 := ⟨cw_J2_indexOfCharUnsafe_4cfef, Or.inl (TB_mem (List.mem_of_getElem? (i := 372) (by decide +kernel)) rfl), st_J2_indexOfCharUnsafe_4cfef, in_RJ2, by decide, by decide, by decide, by decide +kernel⟩
theorem sw_J2_71 : SW RJ2 71 kJ2_getChar_3b067 2 := ⟨cw_J2_getChar_3b067, Or.inl (TB_mem (List.mem_of_getElem? (i := 375) (by decide +kernel)) rfl), st_J2_getChar_3b067, in_RJ2, by decide, by decide, by decide, by decide +kernel⟩
theorem sw_J2_232 : SW RJ2 232 kJ2_indexOfSupplementary_4cfef 4 := ⟨cw_J2_indexOfSupplementary_4cfef, Or.inl (TB_mem (List.mem_of_getElem? (i := 384) (by decide +kernel)) rfl), st_J2_indexOfSupplementary_4cfef, in_RJ2, by decide, by decide, by decide, by decide +kernel⟩
theorem sw_J2_164 : SW RJ2 164 kJ11_isValidCodePoint_9a6ad 1 := ⟨cw_J11_isValidCodePoint_9a6ad, Or.inl (TB_mem (List.mem_of_getElem? (i := 387) (by decide +kernel)) rfl), st_J11_isValidCodePoint_9a6ad, in_RJ11, by decide, by decide, by decide, by decide +kernel⟩
theorem sw_J2_157 : SW RJ2 157 kJ11_highSurrogate_5068e 1 := ⟨cw_J11_highSurrogate_5068e, Or.inl (TB_mem (List.mem_of_getElem? (i := 390) (by decide +kernel)) rfl), st_J11_highSurrogate_5068e, in_RJ11, by decide, by decide, by decide, by decide +kernel⟩
theorem sw_J2_161 : SW RJ2 161 kJ11_lowSurrogate_5068e 1 := ⟨cw_J11_lowSurrogate_5068e, Or.inl (TB_mem (List.mem_of_getElem? (i := 394) (by decide +kernel)) rfl), st_J11_lowSurrogate_5068e, in_RJ11, by decide, by decide, by decide, by decide +kernel⟩
theorem vw_X1_49 : VW RX1 49 kX1_fitsBehindPeople 2 := ⟨cw_X1_fitsBehindPeople, TB_mem (List.mem_of_getElem? (i := 398) (by decide +kernel)) rfl, im_X1_fitsBehindPeople, se_X1_fitsBehindPeople, in_RX1, by decide, by decide, by decide, by decide +kernel⟩
theorem vw_L_27 : VW RL 27 kX6_valley 0 := ⟨cw_X6_valley, TB_mem (List.mem_of_getElem? (i := 403) (by decide +kernel)) rfl, im_X6_valley, se_X6_valley, in_RX6, by decide, by decide, by decide, by decide +kernel⟩
theorem vw_X6_55 : VW RX6 55 kX1_isValley 0 := ⟨cw_X1_isValley, TB_mem (List.mem_of_getElem? (i := 407) (by decide +kernel)) rfl, im_X1_isValley, se_X1_isValley, in_RX1, by decide, by decide, by decide, by decide +kernel⟩
theorem vw_X1_35 : VW RX1 35 kX1_firstFault 0 := ⟨cw_X1_firstFault, TB_mem (List.mem_of_getElem? (i := 411) (by decide +kernel)) rfl, im_X1_firstFault, se_X1_firstFault, in_RX1, by decide, by decide, by decide, by decide +kernel⟩
theorem vw_X6_59 : VW RX6 59 kX3_clear 0 := ⟨cw_X3_clear, TB_mem (List.mem_of_getElem? (i := 412) (by decide +kernel)) rfl, im_X3_clear, se_X3_clear, in_RX3, by decide, by decide, by decide, by decide +kernel⟩
theorem sw_X3_37 : SW RX3 37 kJ7_fill_53178 2 := ⟨cw_J7_fill_53178, Or.inl (TB_mem (List.mem_of_getElem? (i := 416) (by decide +kernel)) rfl), st_J7_fill_53178, in_RJ7, by decide, by decide, by decide, by decide +kernel⟩
theorem vw_X6_61 : VW RX6 61 kX5_read 2 := ⟨cw_X5_read, TB_mem (List.mem_of_getElem? (i := 419) (by decide +kernel)) rfl, im_X5_read, se_X5_read, in_RX5, by decide, by decide, by decide, by decide +kernel⟩
theorem vw_X5_24 : VW RX5 24 kX1_markPlace 0 := ⟨cw_X1_markPlace, TB_mem (List.mem_of_getElem? (i := 423) (by decide +kernel)) rfl, im_X1_markPlace, se_X1_markPlace, in_RX1, by decide, by decide, by decide, by decide +kernel⟩
theorem sw_X5_30 : SW RX5 30 kJ9_min_7cf53 2 := ⟨cw_J9_min_7cf53, Or.inl (TB_mem (List.mem_of_getElem? (i := 424) (by decide +kernel)) rfl), st_J9_min_7cf53, in_RJ9, by decide, by decide, by decide, by decide +kernel⟩
theorem vw_X5_42 : VW RX5 42 kX1_codeAt 1 := ⟨cw_X1_codeAt, TB_mem (List.mem_of_getElem? (i := 426) (by decide +kernel)) rfl, im_X1_codeAt, se_X1_codeAt, in_RX1, by decide, by decide, by decide, by decide +kernel⟩
theorem vw_X5_46 : VW RX5 46 kJ0_indexOf_0f7a4 1 := ⟨cw_J0_indexOf_0f7a4, TB_mem (List.mem_of_getElem? (i := 427) (by decide +kernel)) rfl, im_J0_indexOf_0f7a4, se_J0_indexOf_0f7a4, in_RJ0, by decide, by decide, by decide, by decide +kernel⟩
theorem vw_X5_51 : VW RX5 51 kX1_digitAt 1 := ⟨cw_X1_digitAt, TB_mem (List.mem_of_getElem? (i := 428) (by decide +kernel)) rfl, im_X1_digitAt, se_X1_digitAt, in_RX1, by decide, by decide, by decide, by decide +kernel⟩
theorem sw_X5_59 : SW RX5 59 kX4_growthFromNone 3 := ⟨cw_X4_growthFromNone, Or.inl (TB_mem (List.mem_of_getElem? (i := 429) (by decide +kernel)) rfl), st_X4_growthFromNone, in_RX4, by decide, by decide, by decide, by decide +kernel⟩
theorem sw_X4_17 : SW RX4 17 kX4_isOf 2 := ⟨cw_X4_isOf, Or.inl (TB_mem (List.mem_of_getElem? (i := 437) (by decide +kernel)) rfl), st_X4_isOf, in_RX4, by decide, by decide, by decide, by decide +kernel⟩
theorem vw_L_31 : VW RL 31 kX6_person 2 := ⟨cw_X6_person, TB_mem (List.mem_of_getElem? (i := 440) (by decide +kernel)) rfl, im_X6_person, se_X6_person, in_RX6, by decide, by decide, by decide, by decide +kernel⟩
theorem vw_X6_75 : VW RX6 75 kX5_hasPerson 1 := ⟨cw_X5_hasPerson, TB_mem (List.mem_of_getElem? (i := 444) (by decide +kernel)) rfl, im_X5_hasPerson, se_X5_hasPerson, in_RX5, by decide, by decide, by decide, by decide +kernel⟩
theorem sw_X6_79 : SW RX6 79 kX6_isRowPlace 1 := ⟨cw_X6_isRowPlace, Or.inl (TB_mem (List.mem_of_getElem? (i := 448) (by decide +kernel)) rfl), st_X6_isRowPlace, in_RX6, by decide, by decide, by decide, by decide +kernel⟩
theorem vw_X6_82 : VW RX6 82 kX5_growth 2 := ⟨cw_X5_growth, TB_mem (List.mem_of_getElem? (i := 451) (by decide +kernel)) rfl, im_X5_growth, se_X5_growth, in_RX5, by decide, by decide, by decide, by decide +kernel⟩
theorem vw_X5_71 : VW RX5 71 kX5_hasSlight 1 := ⟨cw_X5_hasSlight, TB_mem (List.mem_of_getElem? (i := 455) (by decide +kernel)) rfl, im_X5_hasSlight, se_X5_hasSlight, in_RX5, by decide, by decide, by decide, by decide +kernel⟩
theorem vw_X6_102 : VW RX6 102 kX0_findSeat 3 := ⟨cw_X0_findSeat, TB_mem (List.mem_of_getElem? (i := 459) (by decide +kernel)) rfl, im_X0_findSeat, se_X0_findSeat, in_RX0, by decide, by decide, by decide, by decide +kernel⟩
theorem vw_X0_34 : VW RX0 34 kX5_hasPerson 1 := ⟨cw_X5_hasPerson, TB_mem (List.mem_of_getElem? (i := 463) (by decide +kernel)) rfl, im_X5_hasPerson, se_X5_hasPerson, in_RX5, by decide, by decide, by decide, by decide +kernel⟩
theorem vw_X0_40 : VW RX0 40 kX3_copyForcesFrom 1 := ⟨cw_X3_copyForcesFrom, TB_mem (List.mem_of_getElem? (i := 464) (by decide +kernel)) rfl, im_X3_copyForcesFrom, se_X3_copyForcesFrom, in_RX3, by decide, by decide, by decide, by decide +kernel⟩
theorem vw_X0_47 : VW RX0 47 kX5_allThatWouldSet 1 := ⟨cw_X5_allThatWouldSet, TB_mem (List.mem_of_getElem? (i := 471) (by decide +kernel)) rfl, im_X5_allThatWouldSet, se_X5_allThatWouldSet, in_RX5, by decide, by decide, by decide, by decide +kernel⟩
theorem vw_X5_84 : VW RX5 84 kX3_forceAt 1 := ⟨cw_X3_forceAt, TB_mem (List.mem_of_getElem? (i := 475) (by decide +kernel)) rfl, im_X3_forceAt, se_X3_forceAt, in_RX3, by decide, by decide, by decide, by decide +kernel⟩
theorem sw_X3_73 : SW RX3 73 kX3_reach 3 := ⟨cw_X3_reach, Or.inl (TB_mem (List.mem_of_getElem? (i := 479) (by decide +kernel)) rfl), st_X3_reach, in_RX3, by decide, by decide, by decide, by decide +kernel⟩
theorem sw_X0_51 : SW RX0 51 kJ6_bitCount_0f7a4 1 := ⟨cw_J6_bitCount_0f7a4, Or.inl (TB_mem (List.mem_of_getElem? (i := 482) (by decide +kernel)) rfl), st_J6_bitCount_0f7a4, in_RJ6, by decide, by decide, by decide, by decide +kernel⟩
theorem vw_X6_113 : VW RX6 113 kX2_prides 2 := ⟨cw_X2_prides, TB_mem (List.mem_of_getElem? (i := 488) (by decide +kernel)) rfl, im_X2_prides, se_X2_prides, in_RX2, by decide, by decide, by decide, by decide +kernel⟩
theorem vw_X2_31 : VW RX2 31 kX2_allowsPride 3 := ⟨cw_X2_allowsPride, TB_mem (List.mem_of_getElem? (i := 492) (by decide +kernel)) rfl, im_X2_allowsPride, se_X2_allowsPride, in_RX2, by decide, by decide, by decide, by decide +kernel⟩
theorem sw_X2_35 : SW RX2 35 kX4_growthFromNone 3 := ⟨cw_X4_growthFromNone, Or.inl (TB_mem (List.mem_of_getElem? (i := 496) (by decide +kernel)) rfl), st_X4_growthFromNone, in_RX4, by decide, by decide, by decide, by decide +kernel⟩
theorem sw_X6_118 : SW RX6 118 kX4_bestTry 2 := ⟨cw_X4_bestTry, Or.inl (TB_mem (List.mem_of_getElem? (i := 497) (by decide +kernel)) rfl), st_X4_bestTry, in_RX4, by decide, by decide, by decide, by decide +kernel⟩
theorem sw_X4_23 : SW RX4 23 kX4_mostLeft 3 := ⟨cw_X4_mostLeft, Or.inl (TB_mem (List.mem_of_getElem? (i := 500) (by decide +kernel)) rfl), st_X4_mostLeft, in_RX4, by decide, by decide, by decide, by decide +kernel⟩
theorem sw_X4_27 : SW RX4 27 kX4_hasPride 2 := ⟨cw_X4_hasPride, Or.inl (TB_mem (List.mem_of_getElem? (i := 503) (by decide +kernel)) rfl), st_X4_hasPride, in_RX4, by decide, by decide, by decide, by decide +kernel⟩
theorem sw_X4_30 : SW RX4 30 kX4_growthFromNone 3 := ⟨cw_X4_growthFromNone, Or.inl (TB_mem (List.mem_of_getElem? (i := 506) (by decide +kernel)) rfl), st_X4_growthFromNone, in_RX4, by decide, by decide, by decide, by decide +kernel⟩
theorem sw_X4_33 : SW RX4 33 kX4_likeOnes 4 := ⟨cw_X4_likeOnes, Or.inl (TB_mem (List.mem_of_getElem? (i := 507) (by decide +kernel)) rfl), st_X4_likeOnes, in_RX4, by decide, by decide, by decide, by decide +kernel⟩
theorem sw_X4_37 : SW RX4 37 kJ9_max_7cf53 2 := ⟨cw_J9_max_7cf53, Or.inl (TB_mem (List.mem_of_getElem? (i := 510) (by decide +kernel)) rfl), st_J9_max_7cf53, in_RJ9, by decide, by decide, by decide, by decide +kernel⟩
theorem vw_L_36 : VW RL 36 kX6_as 2 := ⟨cw_X6_as, TB_mem (List.mem_of_getElem? (i := 511) (by decide +kernel)) rfl, im_X6_as, se_X6_as, in_RX6, by decide, by decide, by decide, by decide +kernel⟩
theorem sw_X6_123 : SW RX6 123 kX4_isOf 2 := ⟨cw_X4_isOf, Or.inl (TB_mem (List.mem_of_getElem? (i := 515) (by decide +kernel)) rfl), st_X4_isOf, in_RX4, by decide, by decide, by decide, by decide +kernel⟩
theorem vw_L_40 : VW RL 40 kX6_pail 2 := ⟨cw_X6_pail, TB_mem (List.mem_of_getElem? (i := 516) (by decide +kernel)) rfl, im_X6_pail, se_X6_pail, in_RX6, by decide, by decide, by decide, by decide +kernel⟩
theorem vw_X6_127 : VW RX6 127 kX5_hasPail 1 := ⟨cw_X5_hasPail, TB_mem (List.mem_of_getElem? (i := 520) (by decide +kernel)) rfl, im_X5_hasPail, se_X5_hasPail, in_RX5, by decide, by decide, by decide, by decide +kernel⟩
theorem vw_X6_133 : VW RX6 133 kX3_forceAt 1 := ⟨cw_X3_forceAt, TB_mem (List.mem_of_getElem? (i := 524) (by decide +kernel)) rfl, im_X3_forceAt, se_X3_forceAt, in_RX3, by decide, by decide, by decide, by decide +kernel⟩
theorem vw_X6_137 : VW RX6 137 kX3_isSet 1 := ⟨cw_X3_isSet, TB_mem (List.mem_of_getElem? (i := 525) (by decide +kernel)) rfl, im_X3_isSet, se_X3_isSet, in_RX3, by decide, by decide, by decide, by decide +kernel⟩
theorem vw_X6_140 : VW RX6 140 kX5_wouldSet 2 := ⟨cw_X5_wouldSet, TB_mem (List.mem_of_getElem? (i := 529) (by decide +kernel)) rfl, im_X5_wouldSet, se_X5_wouldSet, in_RX5, by decide, by decide, by decide, by decide +kernel⟩
theorem vw_X5_81 : VW RX5 81 kX5_hasPail 1 := ⟨cw_X5_hasPail, TB_mem (List.mem_of_getElem? (i := 533) (by decide +kernel)) rfl, im_X5_hasPail, se_X5_hasPail, in_RX5, by decide, by decide, by decide, by decide +kernel⟩
theorem vw_X6_144 : VW RX6 144 kX6_bottlesFor 1 := ⟨cw_X6_bottlesFor, TB_mem (List.mem_of_getElem? (i := 534) (by decide +kernel)) rfl, im_X6_bottlesFor, se_X6_bottlesFor, in_RX6, by decide, by decide, by decide, by decide +kernel⟩
theorem vw_X6_281 : VW RX6 281 kX3_bottlesWorth 1 := ⟨cw_X3_bottlesWorth, TB_mem (List.mem_of_getElem? (i := 538) (by decide +kernel)) rfl, im_X3_bottlesWorth, se_X3_bottlesWorth, in_RX3, by decide, by decide, by decide, by decide +kernel⟩
theorem vw_X3_81 : VW RX3 81 kX3_fullBottles 0 := ⟨cw_X3_fullBottles, TB_mem (List.mem_of_getElem? (i := 542) (by decide +kernel)) rfl, im_X3_fullBottles, se_X3_fullBottles, in_RX3, by decide, by decide, by decide, by decide +kernel⟩
theorem vw_X3_85 : VW RX3 85 kX3_heldIn 1 := ⟨cw_X3_heldIn, TB_mem (List.mem_of_getElem? (i := 546) (by decide +kernel)) rfl, im_X3_heldIn, se_X3_heldIn, in_RX3, by decide, by decide, by decide, by decide +kernel⟩
theorem sw_X3_89 : SW RX3 89 kJ6_bitCount_0f7a4 1 := ⟨cw_J6_bitCount_0f7a4, Or.inl (TB_mem (List.mem_of_getElem? (i := 550) (by decide +kernel)) rfl), st_J6_bitCount_0f7a4, in_RJ6, by decide, by decide, by decide, by decide +kernel⟩
theorem vw_X6_147 : VW RX6 147 kX6_odds 2 := ⟨cw_X6_odds, TB_mem (List.mem_of_getElem? (i := 551) (by decide +kernel)) rfl, im_X6_odds, se_X6_odds, in_RX6, by decide, by decide, by decide, by decide +kernel⟩
theorem vw_X6_284 : VW RX6 284 kX0_slightsThatSet 3 := ⟨cw_X0_slightsThatSet, TB_mem (List.mem_of_getElem? (i := 555) (by decide +kernel)) rfl, im_X0_slightsThatSet, se_X0_slightsThatSet, in_RX0, by decide, by decide, by decide, by decide +kernel⟩
theorem vw_X0_61 : VW RX0 61 kX5_slightNumbers 0 := ⟨cw_X5_slightNumbers, TB_mem (List.mem_of_getElem? (i := 559) (by decide +kernel)) rfl, im_X5_slightNumbers, se_X5_slightNumbers, in_RX5, by decide, by decide, by decide, by decide +kernel⟩
theorem vw_X0_65 : VW RX0 65 kX0_trySlight 3 := ⟨cw_X0_trySlight, TB_mem (List.mem_of_getElem? (i := 563) (by decide +kernel)) rfl, im_X0_trySlight, se_X0_trySlight, in_RX0, by decide, by decide, by decide, by decide +kernel⟩
theorem vw_X0_57 : VW RX0 57 kX5_offend 2 := ⟨cw_X5_offend, TB_mem (List.mem_of_getElem? (i := 567) (by decide +kernel)) rfl, im_X5_offend, se_X5_offend, in_RX5, by decide, by decide, by decide, by decide +kernel⟩
theorem vw_X0_69 : VW RX0 69 kX5_wouldSet 2 := ⟨cw_X5_wouldSet, TB_mem (List.mem_of_getElem? (i := 571) (by decide +kernel)) rfl, im_X5_wouldSet, se_X5_wouldSet, in_RX5, by decide, by decide, by decide, by decide +kernel⟩
theorem vw_X6_287 : VW RX6 287 kX5_slightNumbers 0 := ⟨cw_X5_slightNumbers, TB_mem (List.mem_of_getElem? (i := 572) (by decide +kernel)) rfl, im_X5_slightNumbers, se_X5_slightNumbers, in_RX5, by decide, by decide, by decide, by decide +kernel⟩
theorem sw_X6_290 : SW RX6 290 kX6_commonDivisor 2 := ⟨cw_X6_commonDivisor, Or.inl (TB_mem (List.mem_of_getElem? (i := 573) (by decide +kernel)) rfl), st_X6_commonDivisor, in_RX6, by decide, by decide, by decide, by decide +kernel⟩
theorem vw_L_44 : VW RL 44 kX6_slight 2 := ⟨cw_X6_slight, TB_mem (List.mem_of_getElem? (i := 576) (by decide +kernel)) rfl, im_X6_slight, se_X6_slight, in_RX6, by decide, by decide, by decide, by decide +kernel⟩
theorem sw_X6_151 : SW RX6 151 kX6_isSlight 1 := ⟨cw_X6_isSlight, Or.inl (TB_mem (List.mem_of_getElem? (i := 580) (by decide +kernel)) rfl), st_X6_isSlight, in_RX6, by decide, by decide, by decide, by decide +kernel⟩
theorem vw_X6_154 : VW RX6 154 kX5_offend 2 := ⟨cw_X5_offend, TB_mem (List.mem_of_getElem? (i := 581) (by decide +kernel)) rfl, im_X5_offend, se_X5_offend, in_RX5, by decide, by decide, by decide, by decide +kernel⟩
theorem vw_L_48 : VW RL 48 kX6_soothe 1 := ⟨cw_X6_soothe, TB_mem (List.mem_of_getElem? (i := 582) (by decide +kernel)) rfl, im_X6_soothe, se_X6_soothe, in_RX6, by decide, by decide, by decide, by decide +kernel⟩
theorem vw_L_52 : VW RL 52 kX6_sit 2 := ⟨cw_X6_sit, TB_mem (List.mem_of_getElem? (i := 586) (by decide +kernel)) rfl, im_X6_sit, se_X6_sit, in_RX6, by decide, by decide, by decide, by decide +kernel⟩
theorem sw_X6_158 : SW RX6 158 kX6_isPlace 1 := ⟨cw_X6_isPlace, Or.inl (TB_mem (List.mem_of_getElem? (i := 590) (by decide +kernel)) rfl), st_X6_isPlace, in_RX6, by decide, by decide, by decide, by decide +kernel⟩
theorem vw_L_56 : VW RL 56 kX6_night 0 := ⟨cw_X6_night, TB_mem (List.mem_of_getElem? (i := 593) (by decide +kernel)) rfl, im_X6_night, se_X6_night, in_RX6, by decide, by decide, by decide, by decide +kernel⟩
theorem vw_X6_161 : VW RX6 161 kX5_isThere 0 := ⟨cw_X5_isThere, TB_mem (List.mem_of_getElem? (i := 597) (by decide +kernel)) rfl, im_X5_isThere, se_X5_isThere, in_RX5, by decide, by decide, by decide, by decide +kernel⟩
theorem vw_X6_167 : VW RX6 167 kX5_passNight 1 := ⟨cw_X5_passNight, TB_mem (List.mem_of_getElem? (i := 601) (by decide +kernel)) rfl, im_X5_passNight, se_X5_passNight, in_RX5, by decide, by decide, by decide, by decide +kernel⟩
theorem sw_X5_78 : SW RX5 78 kX4_overnight 2 := ⟨cw_X4_overnight, Or.inl (TB_mem (List.mem_of_getElem? (i := 605) (by decide +kernel)) rfl), st_X4_overnight, in_RX4, by decide, by decide, by decide, by decide +kernel⟩
theorem vw_L_60 : VW RL 60 kX6_curdle 0 := ⟨cw_X6_curdle, TB_mem (List.mem_of_getElem? (i := 608) (by decide +kernel)) rfl, im_X6_curdle, se_X6_curdle, in_RX6, by decide, by decide, by decide, by decide +kernel⟩
theorem vw_X6_171 : VW RX6 171 kX5_allThatWouldSet 1 := ⟨cw_X5_allThatWouldSet, TB_mem (List.mem_of_getElem? (i := 612) (by decide +kernel)) rfl, im_X5_allThatWouldSet, se_X5_allThatWouldSet, in_RX5, by decide, by decide, by decide, by decide +kernel⟩
theorem sw_X6_178 : SW RX6 178 kJ6_bitCount_0f7a4 1 := ⟨cw_J6_bitCount_0f7a4, Or.inl (TB_mem (List.mem_of_getElem? (i := 613) (by decide +kernel)) rfl), st_J6_bitCount_0f7a4, in_RJ6, by decide, by decide, by decide, by decide +kernel⟩
theorem vw_L_64 : VW RL 64 kX6_fresh 1 := ⟨cw_X6_fresh, TB_mem (List.mem_of_getElem? (i := 614) (by decide +kernel)) rfl, im_X6_fresh, se_X6_fresh, in_RX6, by decide, by decide, by decide, by decide +kernel⟩
theorem vw_L_68 : VW RL 68 kX6_force 1 := ⟨cw_X6_force, TB_mem (List.mem_of_getElem? (i := 618) (by decide +kernel)) rfl, im_X6_force, se_X6_force, in_RX6, by decide, by decide, by decide, by decide +kernel⟩
theorem vw_L_72 : VW RL 72 kX6_keep 2 := ⟨cw_X6_keep, TB_mem (List.mem_of_getElem? (i := 622) (by decide +kernel)) rfl, im_X6_keep, se_X6_keep, in_RX6, by decide, by decide, by decide, by decide +kernel⟩
theorem vw_X6_189 : VW RX6 189 kX6_hasBottle 1 := ⟨cw_X6_hasBottle, TB_mem (List.mem_of_getElem? (i := 626) (by decide +kernel)) rfl, im_X6_hasBottle, se_X6_hasBottle, in_RX6, by decide, by decide, by decide, by decide +kernel⟩
theorem vw_L_76 : VW RL 76 kX6_pour 2 := ⟨cw_X6_pour, TB_mem (List.mem_of_getElem? (i := 630) (by decide +kernel)) rfl, im_X6_pour, se_X6_pour, in_RX6, by decide, by decide, by decide, by decide +kernel⟩
theorem vw_X6_195 : VW RX6 195 kX3_addDrop 2 := ⟨cw_X3_addDrop, TB_mem (List.mem_of_getElem? (i := 634) (by decide +kernel)) rfl, im_X3_addDrop, se_X3_addDrop, in_RX3, by decide, by decide, by decide, by decide +kernel⟩
theorem vw_L_80 : VW RL 80 kX6_bottle 1 := ⟨cw_X6_bottle, TB_mem (List.mem_of_getElem? (i := 638) (by decide +kernel)) rfl, im_X6_bottle, se_X6_bottle, in_RX6, by decide, by decide, by decide, by decide +kernel⟩
theorem vw_L_84 : VW RL 84 kX6_would 0 := ⟨cw_X6_would, TB_mem (List.mem_of_getElem? (i := 642) (by decide +kernel)) rfl, im_X6_would, se_X6_would, in_RX6, by decide, by decide, by decide, by decide +kernel⟩
theorem vw_L_88 : VW RL 88 kX6_few 2 := ⟨cw_X6_few, TB_mem (List.mem_of_getElem? (i := 646) (by decide +kernel)) rfl, im_X6_few, se_X6_few, in_RX6, by decide, by decide, by decide, by decide +kernel⟩
theorem vw_X6_199 : VW RX6 199 kX5_arePails 1 := ⟨cw_X5_arePails, TB_mem (List.mem_of_getElem? (i := 650) (by decide +kernel)) rfl, im_X5_arePails, se_X5_arePails, in_RX5, by decide, by decide, by decide, by decide +kernel⟩
theorem sw_X6_202 : SW RX6 202 kX6_isRowTell 1 := ⟨cw_X6_isRowTell, Or.inl (TB_mem (List.mem_of_getElem? (i := 654) (by decide +kernel)) rfl), st_X6_isRowTell, in_RX6, by decide, by decide, by decide, by decide +kernel⟩
theorem vw_X6_208 : VW RX6 208 kX0_findFew 3 := ⟨cw_X0_findFew, TB_mem (List.mem_of_getElem? (i := 657) (by decide +kernel)) rfl, im_X0_findFew, se_X0_findFew, in_RX0, by decide, by decide, by decide, by decide +kernel⟩
theorem vw_X0_73 : VW RX0 73 kX0_rowSets 5 := ⟨cw_X0_rowSets, TB_mem (List.mem_of_getElem? (i := 661) (by decide +kernel)) rfl, im_X0_rowSets, se_X0_rowSets, in_RX0, by decide, by decide, by decide, by decide +kernel⟩
theorem vw_X6_212 : VW RX6 212 kX0_tell 2 := ⟨cw_X0_tell, TB_mem (List.mem_of_getElem? (i := 666) (by decide +kernel)) rfl, im_X0_tell, se_X0_tell, in_RX0, by decide, by decide, by decide, by decide +kernel⟩
theorem vw_L_92 : VW RL 92 kX6_week 2 := ⟨cw_X6_week, TB_mem (List.mem_of_getElem? (i := 670) (by decide +kernel)) rfl, im_X6_week, se_X6_week, in_RX6, by decide, by decide, by decide, by decide +kernel⟩
theorem vw_X6_218 : VW RX6 218 kX0_findWeek 3 := ⟨cw_X0_findWeek, TB_mem (List.mem_of_getElem? (i := 674) (by decide +kernel)) rfl, im_X0_findWeek, se_X0_findWeek, in_RX0, by decide, by decide, by decide, by decide +kernel⟩
theorem vw_X0_89 : VW RX0 89 kX0_tryDay 5 := ⟨cw_X0_tryDay, TB_mem (List.mem_of_getElem? (i := 678) (by decide +kernel)) rfl, im_X0_tryDay, se_X0_tryDay, in_RX0, by decide, by decide, by decide, by decide +kernel⟩
theorem vw_X0_96 : VW RX0 96 kX5_passNight 1 := ⟨cw_X5_passNight, TB_mem (List.mem_of_getElem? (i := 682) (by decide +kernel)) rfl, im_X5_passNight, se_X5_passNight, in_RX5, by decide, by decide, by decide, by decide +kernel⟩
theorem vw_L_96 : VW RL 96 kX6_who 1 := ⟨cw_X6_who, TB_mem (List.mem_of_getElem? (i := 683) (by decide +kernel)) rfl, im_X6_who, se_X6_who, in_RX6, by decide, by decide, by decide, by decide +kernel⟩
theorem vw_X6_221 : VW RX6 221 kX0_slightsThatSetJust 3 := ⟨cw_X0_slightsThatSetJust, TB_mem (List.mem_of_getElem? (i := 687) (by decide +kernel)) rfl, im_X0_slightsThatSetJust, se_X0_slightsThatSetJust, in_RX0, by decide, by decide, by decide, by decide +kernel⟩
theorem vw_L_100 : VW RL 100 kX6_see 3 := ⟨cw_X6_see, TB_mem (List.mem_of_getElem? (i := 691) (by decide +kernel)) rfl, im_X6_see, se_X6_see, in_RX6, by decide, by decide, by decide, by decide +kernel⟩
theorem vw_X6_225 : VW RX6 225 kX2_add 3 := ⟨cw_X2_add, TB_mem (List.mem_of_getElem? (i := 695) (by decide +kernel)) rfl, im_X2_add, se_X2_add, in_RX2, by decide, by decide, by decide, by decide +kernel⟩
theorem vw_L_105 : VW RL 105 kX6_forget 0 := ⟨cw_X6_forget, TB_mem (List.mem_of_getElem? (i := 699) (by decide +kernel)) rfl, im_X6_forget, se_X6_forget, in_RX6, by decide, by decide, by decide, by decide +kernel⟩
theorem vw_L_109 : VW RL 109 kX6_weeks 3 := ⟨cw_X6_weeks, TB_mem (List.mem_of_getElem? (i := 703) (by decide +kernel)) rfl, im_X6_weeks, se_X6_weeks, in_RX6, by decide, by decide, by decide, by decide +kernel⟩
theorem vw_X6_228 : VW RX6 228 kX0_runWeeks 4 := ⟨cw_X0_runWeeks, TB_mem (List.mem_of_getElem? (i := 707) (by decide +kernel)) rfl, im_X0_runWeeks, se_X0_runWeeks, in_RX0, by decide, by decide, by decide, by decide +kernel⟩
theorem vw_X0_105 : VW RX0 105 kX0_draw 1 := ⟨cw_X0_draw, TB_mem (List.mem_of_getElem? (i := 711) (by decide +kernel)) rfl, im_X0_draw, se_X0_draw, in_RX0, by decide, by decide, by decide, by decide +kernel⟩
theorem vw_X6_235 : VW RX6 235 kX3_allGrudges 0 := ⟨cw_X3_allGrudges, TB_mem (List.mem_of_getElem? (i := 719) (by decide +kernel)) rfl, im_X3_allGrudges, se_X3_allGrudges, in_RX3, by decide, by decide, by decide, by decide +kernel⟩
theorem sw_X3_77 : SW RX3 77 kX3_sumOf 1 := ⟨cw_X3_sumOf, Or.inl (TB_mem (List.mem_of_getElem? (i := 723) (by decide +kernel)) rfl), st_X3_sumOf, in_RX3, by decide, by decide, by decide, by decide +kernel⟩
theorem vw_L_113 : VW RL 113 kX6_image 0 := ⟨cw_X6_image, TB_mem (List.mem_of_getElem? (i := 726) (by decide +kernel)) rfl, im_X6_image, se_X6_image, in_RX6, by decide, by decide, by decide, by decide +kernel⟩
theorem vw_X6_241 : VW RX6 241 kX3_copyFrom 1 := ⟨cw_X3_copyFrom, TB_mem (List.mem_of_getElem? (i := 730) (by decide +kernel)) rfl, im_X3_copyFrom, se_X3_copyFrom, in_RX3, by decide, by decide, by decide, by decide +kernel⟩
theorem vw_X3_65 : VW RX3 65 kX2_copyFrom 1 := ⟨cw_X2_copyFrom, TB_mem (List.mem_of_getElem? (i := 734) (by decide +kernel)) rfl, im_X2_copyFrom, se_X2_copyFrom, in_RX2, by decide, by decide, by decide, by decide +kernel⟩
theorem vw_X3_69 : VW RX3 69 kX3_copyForcesFrom 1 := ⟨cw_X3_copyForcesFrom, TB_mem (List.mem_of_getElem? (i := 739) (by decide +kernel)) rfl, im_X3_copyForcesFrom, se_X3_copyForcesFrom, in_RX3, by decide, by decide, by decide, by decide +kernel⟩
theorem vw_L_117 : VW RL 117 kX6_restore 0 := ⟨cw_X6_restore, TB_mem (List.mem_of_getElem? (i := 740) (by decide +kernel)) rfl, im_X6_restore, se_X6_restore, in_RX6, by decide, by decide, by decide, by decide +kernel⟩
theorem vw_L_121 : VW RL 121 kX6_count 1 := ⟨cw_X6_count, TB_mem (List.mem_of_getElem? (i := 744) (by decide +kernel)) rfl, im_X6_count, se_X6_count, in_RX6, by decide, by decide, by decide, by decide +kernel⟩
theorem vw_X6_247 : VW RX6 247 kX3_fullBottles 0 := ⟨cw_X3_fullBottles, TB_mem (List.mem_of_getElem? (i := 748) (by decide +kernel)) rfl, im_X3_fullBottles, se_X3_fullBottles, in_RX3, by decide, by decide, by decide, by decide +kernel⟩
theorem vw_X6_250 : VW RX6 250 kX3_allSlights 0 := ⟨cw_X3_allSlights, TB_mem (List.mem_of_getElem? (i := 749) (by decide +kernel)) rfl, im_X3_allSlights, se_X3_allSlights, in_RX3, by decide, by decide, by decide, by decide +kernel⟩
theorem vw_L_125 : VW RL 125 kX6_digest 0 := ⟨cw_X6_digest, TB_mem (List.mem_of_getElem? (i := 753) (by decide +kernel)) rfl, im_X6_digest, se_X6_digest, in_RX6, by decide, by decide, by decide, by decide +kernel⟩
theorem vw_X6_257 : VW RX6 257 kX6_person 2 := ⟨cw_X6_person, TB_mem (List.mem_of_getElem? (i := 759) (by decide +kernel)) rfl, im_X6_person, se_X6_person, in_RX6, by decide, by decide, by decide, by decide +kernel⟩
theorem vw_X6_260 : VW RX6 260 kX6_pail 2 := ⟨cw_X6_pail, TB_mem (List.mem_of_getElem? (i := 760) (by decide +kernel)) rfl, im_X6_pail, se_X6_pail, in_RX6, by decide, by decide, by decide, by decide +kernel⟩
theorem vw_X6_263 : VW RX6 263 kX6_force 1 := ⟨cw_X6_force, TB_mem (List.mem_of_getElem? (i := 761) (by decide +kernel)) rfl, im_X6_force, se_X6_force, in_RX6, by decide, by decide, by decide, by decide +kernel⟩
theorem vw_X6_266 : VW RX6 266 kX6_bottle 1 := ⟨cw_X6_bottle, TB_mem (List.mem_of_getElem? (i := 762) (by decide +kernel)) rfl, im_X6_bottle, se_X6_bottle, in_RX6, by decide, by decide, by decide, by decide +kernel⟩
theorem vw_X6_269 : VW RX6 269 kX6_would 0 := ⟨cw_X6_would, TB_mem (List.mem_of_getElem? (i := 763) (by decide +kernel)) rfl, im_X6_would, se_X6_would, in_RX6, by decide, by decide, by decide, by decide +kernel⟩
theorem vw_X6_272 : VW RX6 272 kX6_who 1 := ⟨cw_X6_who, TB_mem (List.mem_of_getElem? (i := 764) (by decide +kernel)) rfl, im_X6_who, se_X6_who, in_RX6, by decide, by decide, by decide, by decide +kernel⟩
theorem vw_X6_275 : VW RX6 275 kX1_codeAt 1 := ⟨cw_X1_codeAt, TB_mem (List.mem_of_getElem? (i := 765) (by decide +kernel)) rfl, im_X1_codeAt, se_X1_codeAt, in_RX1, by decide, by decide, by decide, by decide +kernel⟩
theorem vw_X6_278 : VW RX6 278 kX6_count 1 := ⟨cw_X6_count, TB_mem (List.mem_of_getElem? (i := 766) (by decide +kernel)) rfl, im_X6_count, se_X6_count, in_RX6, by decide, by decide, by decide, by decide +kernel⟩
theorem vw_L_17 : VW RL 17 kX7_letter 1 := ⟨cw_X7_letter, TB_mem (List.mem_of_getElem? (i := 894) (by decide +kernel)) rfl, im_X7_letter, se_X7_letter, in_RX7, by decide, by decide, by decide, by decide +kernel⟩
theorem sw_X7_76 : SW RX7 76 kX7_in 3 := ⟨cw_X7_in, Or.inl (TB_mem (List.mem_of_getElem? (i := 899) (by decide +kernel)) rfl), st_X7_in, in_RX7, by decide, by decide, by decide, by decide +kernel⟩
theorem vw_L_22 : VW RL 22 kX7_blank 0 := ⟨cw_X7_blank, TB_mem (List.mem_of_getElem? (i := 902) (by decide +kernel)) rfl, im_X7_blank, se_X7_blank, in_RX7, by decide, by decide, by decide, by decide +kernel⟩
theorem vw_L_26 : VW RL 26 kX7_fault 0 := ⟨cw_X7_fault, TB_mem (List.mem_of_getElem? (i := 906) (by decide +kernel)) rfl, im_X7_fault, se_X7_fault, in_RX7, by decide, by decide, by decide, by decide +kernel⟩
theorem vw_X7_105 : VW RX7 105 kX7_faultOf 0 := ⟨cw_X7_faultOf, TB_mem (List.mem_of_getElem? (i := 910) (by decide +kernel)) rfl, im_X7_faultOf, se_X7_faultOf, in_RX7, by decide, by decide, by decide, by decide +kernel⟩
theorem vw_X7_102 : VW RX7 102 kX7_isGood 1 := ⟨cw_X7_isGood, TB_mem (List.mem_of_getElem? (i := 914) (by decide +kernel)) rfl, im_X7_isGood, se_X7_isGood, in_RX7, by decide, by decide, by decide, by decide +kernel⟩
theorem vw_X7_98 : VW RX7 98 kX7_isPersonLetter 1 := ⟨cw_X7_isPersonLetter, TB_mem (List.mem_of_getElem? (i := 920) (by decide +kernel)) rfl, im_X7_isPersonLetter, se_X7_isPersonLetter, in_RX7, by decide, by decide, by decide, by decide +kernel⟩
theorem sw_X7_83 : SW RX7 83 kX7_kindBy 1 := ⟨cw_X7_kindBy, Or.inl (TB_mem (List.mem_of_getElem? (i := 924) (by decide +kernel)) rfl), st_X7_kindBy, in_RX7, by decide, by decide, by decide, by decide +kernel⟩
theorem vw_L_30 : VW RL 30 kX7_valley 0 := ⟨cw_X7_valley, TB_mem (List.mem_of_getElem? (i := 929) (by decide +kernel)) rfl, im_X7_valley, se_X7_valley, in_RX7, by decide, by decide, by decide, by decide +kernel⟩
theorem vw_L_35 : VW RL 35 kX7_person 2 := ⟨cw_X7_person, TB_mem (List.mem_of_getElem? (i := 933) (by decide +kernel)) rfl, im_X7_person, se_X7_person, in_RX7, by decide, by decide, by decide, by decide +kernel⟩
theorem vw_X7_188 : VW RX7 188 kX7_isPerson 1 := ⟨cw_X7_isPerson, TB_mem (List.mem_of_getElem? (i := 937) (by decide +kernel)) rfl, im_X7_isPerson, se_X7_isPerson, in_RX7, by decide, by decide, by decide, by decide +kernel⟩
theorem vw_X7_191 : VW RX7 191 kX7_tellPerson 2 := ⟨cw_X7_tellPerson, TB_mem (List.mem_of_getElem? (i := 941) (by decide +kernel)) rfl, im_X7_tellPerson, se_X7_tellPerson, in_RX7, by decide, by decide, by decide, by decide +kernel⟩
theorem vw_X7_176 : VW RX7 176 kX7_growsOf 2 := ⟨cw_X7_growsOf, TB_mem (List.mem_of_getElem? (i := 947) (by decide +kernel)) rfl, im_X7_growsOf, se_X7_growsOf, in_RX7, by decide, by decide, by decide, by decide +kernel⟩
theorem sw_X7_141 : SW RX7 141 kX7_grievedBy 3 := ⟨cw_X7_grievedBy, Or.inl (TB_mem (List.mem_of_getElem? (i := 951) (by decide +kernel)) rfl), st_X7_grievedBy, in_RX7, by decide, by decide, by decide, by decide +kernel⟩
theorem sw_X7_145 : SW RX7 145 kX7_topped 1 := ⟨cw_X7_topped, Or.inl (TB_mem (List.mem_of_getElem? (i := 954) (by decide +kernel)) rfl), st_X7_topped, in_RX7, by decide, by decide, by decide, by decide +kernel⟩
theorem vw_X7_179 : VW RX7 179 kX7_seatOf 2 := ⟨cw_X7_seatOf, TB_mem (List.mem_of_getElem? (i := 957) (by decide +kernel)) rfl, im_X7_seatOf, se_X7_seatOf, in_RX7, by decide, by decide, by decide, by decide +kernel⟩
theorem vw_X7_166 : VW RX7 166 kX7_wouldNow 0 := ⟨cw_X7_wouldNow, TB_mem (List.mem_of_getElem? (i := 961) (by decide +kernel)) rfl, im_X7_wouldNow, se_X7_wouldNow, in_RX7, by decide, by decide, by decide, by decide +kernel⟩
theorem vw_X7_162 : VW RX7 162 kX7_wouldOn 2 := ⟨cw_X7_wouldOn, TB_mem (List.mem_of_getElem? (i := 965) (by decide +kernel)) rfl, im_X7_wouldOn, se_X7_wouldOn, in_RX7, by decide, by decide, by decide, by decide +kernel⟩
theorem vw_X7_155 : VW RX7 155 kX7_forceOn 2 := ⟨cw_X7_forceOn, TB_mem (List.mem_of_getElem? (i := 969) (by decide +kernel)) rfl, im_X7_forceOn, se_X7_forceOn, in_RX7, by decide, by decide, by decide, by decide +kernel⟩
theorem sw_X7_148 : SW RX7 148 kX7_apart 2 := ⟨cw_X7_apart, Or.inl (TB_mem (List.mem_of_getElem? (i := 973) (by decide +kernel)) rfl), st_X7_apart, in_RX7, by decide, by decide, by decide, by decide +kernel⟩
theorem sw_X7_152 : SW RX7 152 kX7_forceBy 2 := ⟨cw_X7_forceBy, Or.inl (TB_mem (List.mem_of_getElem? (i := 976) (by decide +kernel)) rfl), st_X7_forceBy, in_RX7, by decide, by decide, by decide, by decide +kernel⟩
theorem vw_X7_159 : VW RX7 159 kX7_dropsAt 1 := ⟨cw_X7_dropsAt, TB_mem (List.mem_of_getElem? (i := 979) (by decide +kernel)) rfl, im_X7_dropsAt, se_X7_dropsAt, in_RX7, by decide, by decide, by decide, by decide +kernel⟩
theorem sw_X7_169 : SW RX7 169 kX7_ones 1 := ⟨cw_X7_ones, Or.inl (TB_mem (List.mem_of_getElem? (i := 983) (by decide +kernel)) rfl), st_X7_ones, in_RX7, by decide, by decide, by decide, by decide +kernel⟩
theorem vw_X7_182 : VW RX7 182 kX7_pridesOf 1 := ⟨cw_X7_pridesOf, TB_mem (List.mem_of_getElem? (i := 986) (by decide +kernel)) rfl, im_X7_pridesOf, se_X7_pridesOf, in_RX7, by decide, by decide, by decide, by decide +kernel⟩
theorem vw_X7_185 : VW RX7 185 kX7_tryOf 1 := ⟨cw_X7_tryOf, TB_mem (List.mem_of_getElem? (i := 990) (by decide +kernel)) rfl, im_X7_tryOf, se_X7_tryOf, in_RX7, by decide, by decide, by decide, by decide +kernel⟩
theorem vw_L_39 : VW RL 39 kX7_as 2 := ⟨cw_X7_as, TB_mem (List.mem_of_getElem? (i := 994) (by decide +kernel)) rfl, im_X7_as, se_X7_as, in_RX7, by decide, by decide, by decide, by decide +kernel⟩
theorem vw_L_43 : VW RL 43 kX7_pail 2 := ⟨cw_X7_pail, TB_mem (List.mem_of_getElem? (i := 999) (by decide +kernel)) rfl, im_X7_pail, se_X7_pail, in_RX7, by decide, by decide, by decide, by decide +kernel⟩
theorem vw_X7_225 : VW RX7 225 kX7_isPail 1 := ⟨cw_X7_isPail, TB_mem (List.mem_of_getElem? (i := 1003) (by decide +kernel)) rfl, im_X7_isPail, se_X7_isPail, in_RX7, by decide, by decide, by decide, by decide +kernel⟩
theorem vw_X7_228 : VW RX7 228 kX7_tellPail 2 := ⟨cw_X7_tellPail, TB_mem (List.mem_of_getElem? (i := 1007) (by decide +kernel)) rfl, im_X7_tellPail, se_X7_tellPail, in_RX7, by decide, by decide, by decide, by decide +kernel⟩
theorem vw_X7_196 : VW RX7 196 kX7_forceAt 1 := ⟨cw_X7_forceAt, TB_mem (List.mem_of_getElem? (i := 1011) (by decide +kernel)) rfl, im_X7_forceAt, se_X7_forceAt, in_RX7, by decide, by decide, by decide, by decide +kernel⟩
theorem vw_X7_219 : VW RX7 219 kX7_pourOf 1 := ⟨cw_X7_pourOf, TB_mem (List.mem_of_getElem? (i := 1015) (by decide +kernel)) rfl, im_X7_pourOf, se_X7_pourOf, in_RX7, by decide, by decide, by decide, by decide +kernel⟩
theorem vw_X7_199 : VW RX7 199 kX7_isOfFull 1 := ⟨cw_X7_isOfFull, TB_mem (List.mem_of_getElem? (i := 1019) (by decide +kernel)) rfl, im_X7_isOfFull, se_X7_isOfFull, in_RX7, by decide, by decide, by decide, by decide +kernel⟩
theorem vw_X7_202 : VW RX7 202 kX7_inBottles 1 := ⟨cw_X7_inBottles, TB_mem (List.mem_of_getElem? (i := 1023) (by decide +kernel)) rfl, im_X7_inBottles, se_X7_inBottles, in_RX7, by decide, by decide, by decide, by decide +kernel⟩
theorem vw_X7_222 : VW RX7 222 kX7_oddsOf 2 := ⟨cw_X7_oddsOf, TB_mem (List.mem_of_getElem? (i := 1027) (by decide +kernel)) rfl, im_X7_oddsOf, se_X7_oddsOf, in_RX7, by decide, by decide, by decide, by decide +kernel⟩
theorem vw_X7_213 : VW RX7 213 kX7_oddsUp 1 := ⟨cw_X7_oddsUp, TB_mem (List.mem_of_getElem? (i := 1031) (by decide +kernel)) rfl, im_X7_oddsUp, se_X7_oddsUp, in_RX7, by decide, by decide, by decide, by decide +kernel⟩
theorem sw_X7_205 : SW RX7 205 kX7_copy 2 := ⟨cw_X7_copy, Or.inl (TB_mem (List.mem_of_getElem? (i := 1035) (by decide +kernel)) rfl), st_X7_copy, in_RX7, by decide, by decide, by decide, by decide +kernel⟩
theorem vw_X7_209 : VW RX7 209 kX7_slightOn 2 := ⟨cw_X7_slightOn, TB_mem (List.mem_of_getElem? (i := 1038) (by decide +kernel)) rfl, im_X7_slightOn, se_X7_slightOn, in_RX7, by decide, by decide, by decide, by decide +kernel⟩
theorem sw_X7_216 : SW RX7 216 kX7_common 2 := ⟨cw_X7_common, Or.inl (TB_mem (List.mem_of_getElem? (i := 1042) (by decide +kernel)) rfl), st_X7_common, in_RX7, by decide, by decide, by decide, by decide +kernel⟩
theorem vw_L_47 : VW RL 47 kX7_slight 2 := ⟨cw_X7_slight, TB_mem (List.mem_of_getElem? (i := 1045) (by decide +kernel)) rfl, im_X7_slight, se_X7_slight, in_RX7, by decide, by decide, by decide, by decide +kernel⟩
theorem vw_L_51 : VW RL 51 kX7_soothe 1 := ⟨cw_X7_soothe, TB_mem (List.mem_of_getElem? (i := 1050) (by decide +kernel)) rfl, im_X7_soothe, se_X7_soothe, in_RX7, by decide, by decide, by decide, by decide +kernel⟩
theorem vw_L_55 : VW RL 55 kX7_sit 2 := ⟨cw_X7_sit, TB_mem (List.mem_of_getElem? (i := 1054) (by decide +kernel)) rfl, im_X7_sit, se_X7_sit, in_RX7, by decide, by decide, by decide, by decide +kernel⟩
theorem vw_X7_233 : VW RX7 233 kX7_isPlace 1 := ⟨cw_X7_isPlace, TB_mem (List.mem_of_getElem? (i := 1058) (by decide +kernel)) rfl, im_X7_isPlace, se_X7_isPlace, in_RX7, by decide, by decide, by decide, by decide +kernel⟩
theorem vw_X7_133 : VW RX7 133 kX7_lacks 0 := ⟨cw_X7_lacks, TB_mem (List.mem_of_getElem? (i := 1062) (by decide +kernel)) rfl, im_X7_lacks, se_X7_lacks, in_RX7, by decide, by decide, by decide, by decide +kernel⟩
theorem vw_L_59 : VW RL 59 kX7_night 0 := ⟨cw_X7_night, TB_mem (List.mem_of_getElem? (i := 1067) (by decide +kernel)) rfl, im_X7_night, se_X7_night, in_RX7, by decide, by decide, by decide, by decide +kernel⟩
theorem vw_X7_236 : VW RX7 236 kX7_nightOn 1 := ⟨cw_X7_nightOn, TB_mem (List.mem_of_getElem? (i := 1071) (by decide +kernel)) rfl, im_X7_nightOn, se_X7_nightOn, in_RX7, by decide, by decide, by decide, by decide +kernel⟩
theorem vw_L_63 : VW RL 63 kX7_curdle 0 := ⟨cw_X7_curdle, TB_mem (List.mem_of_getElem? (i := 1075) (by decide +kernel)) rfl, im_X7_curdle, se_X7_curdle, in_RX7, by decide, by decide, by decide, by decide +kernel⟩
theorem vw_L_67 : VW RL 67 kX7_fresh 1 := ⟨cw_X7_fresh, TB_mem (List.mem_of_getElem? (i := 1079) (by decide +kernel)) rfl, im_X7_fresh, se_X7_fresh, in_RX7, by decide, by decide, by decide, by decide +kernel⟩
theorem vw_L_71 : VW RL 71 kX7_force 1 := ⟨cw_X7_force, TB_mem (List.mem_of_getElem? (i := 1083) (by decide +kernel)) rfl, im_X7_force, se_X7_force, in_RX7, by decide, by decide, by decide, by decide +kernel⟩
theorem vw_L_75 : VW RL 75 kX7_keep 2 := ⟨cw_X7_keep, TB_mem (List.mem_of_getElem? (i := 1087) (by decide +kernel)) rfl, im_X7_keep, se_X7_keep, in_RX7, by decide, by decide, by decide, by decide +kernel⟩
theorem vw_X7_240 : VW RX7 240 kX7_isBottle 1 := ⟨cw_X7_isBottle, TB_mem (List.mem_of_getElem? (i := 1091) (by decide +kernel)) rfl, im_X7_isBottle, se_X7_isBottle, in_RX7, by decide, by decide, by decide, by decide +kernel⟩
theorem vw_L_79 : VW RL 79 kX7_pour 2 := ⟨cw_X7_pour, TB_mem (List.mem_of_getElem? (i := 1096) (by decide +kernel)) rfl, im_X7_pour, se_X7_pour, in_RX7, by decide, by decide, by decide, by decide +kernel⟩
theorem vw_L_83 : VW RL 83 kX7_bottle 1 := ⟨cw_X7_bottle, TB_mem (List.mem_of_getElem? (i := 1100) (by decide +kernel)) rfl, im_X7_bottle, se_X7_bottle, in_RX7, by decide, by decide, by decide, by decide +kernel⟩
theorem vw_L_87 : VW RL 87 kX7_would 0 := ⟨cw_X7_would, TB_mem (List.mem_of_getElem? (i := 1104) (by decide +kernel)) rfl, im_X7_would, se_X7_would, in_RX7, by decide, by decide, by decide, by decide +kernel⟩
theorem vw_L_91 : VW RL 91 kX7_few 2 := ⟨cw_X7_few, TB_mem (List.mem_of_getElem? (i := 1108) (by decide +kernel)) rfl, im_X7_few, se_X7_few, in_RX7, by decide, by decide, by decide, by decide +kernel⟩
theorem vw_X7_256 : VW RX7 256 kX7_fewOf 2 := ⟨cw_X7_fewOf, TB_mem (List.mem_of_getElem? (i := 1112) (by decide +kernel)) rfl, im_X7_fewOf, se_X7_fewOf, in_RX7, by decide, by decide, by decide, by decide +kernel⟩
theorem vw_X7_250 : VW RX7 250 kX7_layFew 1 := ⟨cw_X7_layFew, TB_mem (List.mem_of_getElem? (i := 1116) (by decide +kernel)) rfl, im_X7_layFew, se_X7_layFew, in_RX7, by decide, by decide, by decide, by decide +kernel⟩
theorem vw_X7_243 : VW RX7 243 kX7_isEnough 2 := ⟨cw_X7_isEnough, TB_mem (List.mem_of_getElem? (i := 1120) (by decide +kernel)) rfl, im_X7_isEnough, se_X7_isEnough, in_RX7, by decide, by decide, by decide, by decide +kernel⟩
theorem vw_X7_247 : VW RX7 247 kX7_nextRow 1 := ⟨cw_X7_nextRow, TB_mem (List.mem_of_getElem? (i := 1124) (by decide +kernel)) rfl, im_X7_nextRow, se_X7_nextRow, in_RX7, by decide, by decide, by decide, by decide +kernel⟩
theorem vw_L_95 : VW RL 95 kX7_week 2 := ⟨cw_X7_week, TB_mem (List.mem_of_getElem? (i := 1128) (by decide +kernel)) rfl, im_X7_week, se_X7_week, in_RX7, by decide, by decide, by decide, by decide +kernel⟩
theorem vw_X7_265 : VW RX7 265 kX7_weekOf 2 := ⟨cw_X7_weekOf, TB_mem (List.mem_of_getElem? (i := 1132) (by decide +kernel)) rfl, im_X7_weekOf, se_X7_weekOf, in_RX7, by decide, by decide, by decide, by decide +kernel⟩
theorem vw_X7_259 : VW RX7 259 kX7_settingBy 2 := ⟨cw_X7_settingBy, TB_mem (List.mem_of_getElem? (i := 1136) (by decide +kernel)) rfl, im_X7_settingBy, se_X7_settingBy, in_RX7, by decide, by decide, by decide, by decide +kernel⟩
theorem vw_L_99 : VW RL 99 kX7_who 1 := ⟨cw_X7_who, TB_mem (List.mem_of_getElem? (i := 1140) (by decide +kernel)) rfl, im_X7_who, se_X7_who, in_RX7, by decide, by decide, by decide, by decide +kernel⟩
theorem vw_X7_268 : VW RX7 268 kX7_whoOf 1 := ⟨cw_X7_whoOf, TB_mem (List.mem_of_getElem? (i := 1144) (by decide +kernel)) rfl, im_X7_whoOf, se_X7_whoOf, in_RX7, by decide, by decide, by decide, by decide +kernel⟩
theorem vw_L_104 : VW RL 104 kX7_see 3 := ⟨cw_X7_see, TB_mem (List.mem_of_getElem? (i := 1148) (by decide +kernel)) rfl, im_X7_see, se_X7_see, in_RX7, by decide, by decide, by decide, by decide +kernel⟩
theorem vw_L_108 : VW RL 108 kX7_forget 0 := ⟨cw_X7_forget, TB_mem (List.mem_of_getElem? (i := 1153) (by decide +kernel)) rfl, im_X7_forget, se_X7_forget, in_RX7, by decide, by decide, by decide, by decide +kernel⟩
theorem vw_L_112 : VW RL 112 kX7_weeks 3 := ⟨cw_X7_weeks, TB_mem (List.mem_of_getElem? (i := 1157) (by decide +kernel)) rfl, im_X7_weeks, se_X7_weeks, in_RX7, by decide, by decide, by decide, by decide +kernel⟩
theorem vw_X7_285 : VW RX7 285 kX7_draw 1 := ⟨cw_X7_draw, TB_mem (List.mem_of_getElem? (i := 1162) (by decide +kernel)) rfl, im_X7_draw, se_X7_draw, in_RX7, by decide, by decide, by decide, by decide +kernel⟩
theorem vw_X7_288 : VW RX7 288 kX7_sumPeople 1 := ⟨cw_X7_sumPeople, TB_mem (List.mem_of_getElem? (i := 1170) (by decide +kernel)) rfl, im_X7_sumPeople, se_X7_sumPeople, in_RX7, by decide, by decide, by decide, by decide +kernel⟩
theorem vw_L_116 : VW RL 116 kX7_image 0 := ⟨cw_X7_image, TB_mem (List.mem_of_getElem? (i := 1174) (by decide +kernel)) rfl, im_X7_image, se_X7_image, in_RX7, by decide, by decide, by decide, by decide +kernel⟩
theorem vw_L_120 : VW RL 120 kX7_restore 0 := ⟨cw_X7_restore, TB_mem (List.mem_of_getElem? (i := 1178) (by decide +kernel)) rfl, im_X7_restore, se_X7_restore, in_RX7, by decide, by decide, by decide, by decide +kernel⟩
theorem vw_L_124 : VW RL 124 kX7_count 1 := ⟨cw_X7_count, TB_mem (List.mem_of_getElem? (i := 1182) (by decide +kernel)) rfl, im_X7_count, se_X7_count, in_RX7, by decide, by decide, by decide, by decide +kernel⟩
theorem vw_X7_316 : VW RX7 316 kX7_countOf 1 := ⟨cw_X7_countOf, TB_mem (List.mem_of_getElem? (i := 1186) (by decide +kernel)) rfl, im_X7_countOf, se_X7_countOf, in_RX7, by decide, by decide, by decide, by decide +kernel⟩
theorem vw_X7_307 : VW RX7 307 kX7_setNow 0 := ⟨cw_X7_setNow, TB_mem (List.mem_of_getElem? (i := 1190) (by decide +kernel)) rfl, im_X7_setNow, se_X7_setNow, in_RX7, by decide, by decide, by decide, by decide +kernel⟩
theorem vw_X7_310 : VW RX7 310 kX7_fullBottles 0 := ⟨cw_X7_fullBottles, TB_mem (List.mem_of_getElem? (i := 1194) (by decide +kernel)) rfl, im_X7_fullBottles, se_X7_fullBottles, in_RX7, by decide, by decide, by decide, by decide +kernel⟩
theorem vw_X7_313 : VW RX7 313 kX7_countMore 1 := ⟨cw_X7_countMore, TB_mem (List.mem_of_getElem? (i := 1198) (by decide +kernel)) rfl, im_X7_countMore, se_X7_countMore, in_RX7, by decide, by decide, by decide, by decide +kernel⟩
theorem vw_L_129 : VW RL 129 kX7_digest 0 := ⟨cw_X7_digest, TB_mem (List.mem_of_getElem? (i := 1202) (by decide +kernel)) rfl, im_X7_digest, se_X7_digest, in_RX7, by decide, by decide, by decide, by decide +kernel⟩
theorem vw_X7_325 : VW RX7 325 kX7_say 1 := ⟨cw_X7_say, TB_mem (List.mem_of_getElem? (i := 1207) (by decide +kernel)) rfl, im_X7_say, se_X7_say, in_RX7, by decide, by decide, by decide, by decide +kernel⟩
theorem vw_X7_331 : VW RX7 331 kX7_sayValley 0 := ⟨cw_X7_sayValley, TB_mem (List.mem_of_getElem? (i := 1212) (by decide +kernel)) rfl, im_X7_sayValley, se_X7_sayValley, in_RX7, by decide, by decide, by decide, by decide +kernel⟩
theorem sw_X4_9 : SW RX4 9 kX6_isSlight 1 := ⟨cw_X6_isSlight, Or.inr (List.mem_filter.mpr ⟨(List.mem_of_getElem? (i := 432) (by decide +kernel)), rfl⟩), st_X6_isSlight, in_RX6, by decide, by decide, by decide, by decide +kernel⟩
theorem fl_X1_9 : FL RX1 9 1 0 := ⟨by decide, Or.inl (TB_mem (List.mem_of_getElem? (i := 86) (by decide +kernel)) rfl)⟩
theorem fl_X1_15 : FL RX1 15 1 1 := ⟨by decide, Or.inl (TB_mem (List.mem_of_getElem? (i := 87) (by decide +kernel)) rfl)⟩
theorem fl_X5_9 : FL RX5 9 4 0 := ⟨by decide, Or.inl (TB_mem (List.mem_of_getElem? (i := 102) (by decide +kernel)) rfl)⟩
theorem fl_X5_15 : FL RX5 15 4 1 := ⟨by decide, Or.inl (TB_mem (List.mem_of_getElem? (i := 104) (by decide +kernel)) rfl)⟩
theorem fl_X5_18 : FL RX5 18 4 2 := ⟨by decide, Or.inl (TB_mem (List.mem_of_getElem? (i := 106) (by decide +kernel)) rfl)⟩
theorem fl_X5_21 : FL RX5 21 4 3 := ⟨by decide, Or.inl (TB_mem (List.mem_of_getElem? (i := 107) (by decide +kernel)) rfl)⟩
theorem fl_X5_36 : FL RX5 36 4 4 := ⟨by decide, Or.inl (TB_mem (List.mem_of_getElem? (i := 109) (by decide +kernel)) rfl)⟩
theorem fl_X5_68 : FL RX5 68 4 5 := ⟨by decide, Or.inl (TB_mem (List.mem_of_getElem? (i := 112) (by decide +kernel)) rfl)⟩
theorem fl_X2_9 : FL RX2 9 2 0 := ⟨by decide, Or.inl (TB_mem (List.mem_of_getElem? (i := 140) (by decide +kernel)) rfl)⟩
theorem fl_X2_15 : FL RX2 15 2 1 := ⟨by decide, Or.inl (TB_mem (List.mem_of_getElem? (i := 141) (by decide +kernel)) rfl)⟩
theorem fl_X2_18 : FL RX2 18 2 2 := ⟨by decide, Or.inl (TB_mem (List.mem_of_getElem? (i := 142) (by decide +kernel)) rfl)⟩
theorem fl_X2_21 : FL RX2 21 2 3 := ⟨by decide, Or.inl (TB_mem (List.mem_of_getElem? (i := 143) (by decide +kernel)) rfl)⟩
theorem fl_X3_9 : FL RX3 9 3 0 := ⟨by decide, Or.inl (TB_mem (List.mem_of_getElem? (i := 155) (by decide +kernel)) rfl)⟩
theorem fl_X3_15 : FL RX3 15 3 1 := ⟨by decide, Or.inl (TB_mem (List.mem_of_getElem? (i := 159) (by decide +kernel)) rfl)⟩
theorem fl_X3_18 : FL RX3 18 3 2 := ⟨by decide, Or.inl (TB_mem (List.mem_of_getElem? (i := 163) (by decide +kernel)) rfl)⟩
theorem fl_X3_21 : FL RX3 21 3 3 := ⟨by decide, Or.inl (TB_mem (List.mem_of_getElem? (i := 165) (by decide +kernel)) rfl)⟩
theorem fl_X3_24 : FL RX3 24 3 4 := ⟨by decide, Or.inl (TB_mem (List.mem_of_getElem? (i := 167) (by decide +kernel)) rfl)⟩
theorem fl_X3_27 : FL RX3 27 3 5 := ⟨by decide, Or.inl (TB_mem (List.mem_of_getElem? (i := 168) (by decide +kernel)) rfl)⟩
theorem fl_X3_33 : FL RX3 33 3 6 := ⟨by decide, Or.inl (TB_mem (List.mem_of_getElem? (i := 169) (by decide +kernel)) rfl)⟩
theorem fl_X3_47 : FL RX3 47 3 7 := ⟨by decide, Or.inl (TB_mem (List.mem_of_getElem? (i := 171) (by decide +kernel)) rfl)⟩
theorem fl_X3_50 : FL RX3 50 3 8 := ⟨by decide, Or.inl (TB_mem (List.mem_of_getElem? (i := 174) (by decide +kernel)) rfl)⟩
theorem fl_X3_53 : FL RX3 53 3 9 := ⟨by decide, Or.inl (TB_mem (List.mem_of_getElem? (i := 176) (by decide +kernel)) rfl)⟩
theorem fl_X3_56 : FL RX3 56 3 10 := ⟨by decide, Or.inl (TB_mem (List.mem_of_getElem? (i := 178) (by decide +kernel)) rfl)⟩
theorem fl_X0_12 : FL RX0 12 0 0 := ⟨by decide, Or.inl (TB_mem (List.mem_of_getElem? (i := 213) (by decide +kernel)) rfl)⟩
theorem fl_X0_18 : FL RX0 18 0 1 := ⟨by decide, Or.inl (TB_mem (List.mem_of_getElem? (i := 215) (by decide +kernel)) rfl)⟩
theorem fl_X0_22 : FL RX0 22 0 2 := ⟨by decide, Or.inl (TB_mem (List.mem_of_getElem? (i := 216) (by decide +kernel)) rfl)⟩
theorem fl_X0_27 : FL RX0 27 0 3 := ⟨by decide, Or.inl (TB_mem (List.mem_of_getElem? (i := 217) (by decide +kernel)) rfl)⟩
theorem fl_X0_30 : FL RX0 30 0 4 := ⟨by decide, Or.inl (TB_mem (List.mem_of_getElem? (i := 218) (by decide +kernel)) rfl)⟩
theorem fl_X0_99 : FL RX0 99 0 5 := ⟨by decide, Or.inl (TB_mem (List.mem_of_getElem? (i := 220) (by decide +kernel)) rfl)⟩
theorem fl_X6_10 : FL RX6 10 5 0 := ⟨by decide, Or.inl (TB_mem (List.mem_of_getElem? (i := 235) (by decide +kernel)) rfl)⟩
theorem fl_X6_19 : FL RX6 19 5 1 := ⟨by decide, Or.inl (TB_mem (List.mem_of_getElem? (i := 236) (by decide +kernel)) rfl)⟩
theorem fl_X6_26 : FL RX6 26 5 2 := ⟨by decide, Or.inl (TB_mem (List.mem_of_getElem? (i := 237) (by decide +kernel)) rfl)⟩
theorem fl_X6_30 : FL RX6 30 5 3 := ⟨by decide, Or.inl (TB_mem (List.mem_of_getElem? (i := 238) (by decide +kernel)) rfl)⟩
theorem fl_X6_36 : FL RX6 36 5 4 := ⟨by decide, Or.inl (TB_mem (List.mem_of_getElem? (i := 239) (by decide +kernel)) rfl)⟩
theorem fl_X6_65 : FL RX6 65 5 5 := ⟨by decide, Or.inl (TB_mem (List.mem_of_getElem? (i := 240) (by decide +kernel)) rfl)⟩
theorem fl_X6_69 : FL RX6 69 5 6 := ⟨by decide, Or.inl (TB_mem (List.mem_of_getElem? (i := 241) (by decide +kernel)) rfl)⟩
theorem fl_X6_205 : FL RX6 205 5 7 := ⟨by decide, Or.inl (TB_mem (List.mem_of_getElem? (i := 242) (by decide +kernel)) rfl)⟩
theorem fl_X6_215 : FL RX6 215 5 8 := ⟨by decide, Or.inl (TB_mem (List.mem_of_getElem? (i := 243) (by decide +kernel)) rfl)⟩
theorem fl_X7_7 : FL RX7 7 6 0 := ⟨by decide, Or.inl (TB_mem (List.mem_of_getElem? (i := 773) (by decide +kernel)) rfl)⟩
theorem fl_X7_80 : FL RX7 80 6 1 := ⟨by decide, Or.inl (TB_mem (List.mem_of_getElem? (i := 774) (by decide +kernel)) rfl)⟩
theorem fl_X7_95 : FL RX7 95 6 2 := ⟨by decide, Or.inl (TB_mem (List.mem_of_getElem? (i := 775) (by decide +kernel)) rfl)⟩
theorem fl_X7_109 : FL RX7 109 6 3 := ⟨by decide, Or.inl (TB_mem (List.mem_of_getElem? (i := 776) (by decide +kernel)) rfl)⟩
theorem fl_X7_112 : FL RX7 112 6 4 := ⟨by decide, Or.inl (TB_mem (List.mem_of_getElem? (i := 777) (by decide +kernel)) rfl)⟩
theorem fl_X7_115 : FL RX7 115 6 5 := ⟨by decide, Or.inl (TB_mem (List.mem_of_getElem? (i := 778) (by decide +kernel)) rfl)⟩
theorem fl_X7_118 : FL RX7 118 6 6 := ⟨by decide, Or.inl (TB_mem (List.mem_of_getElem? (i := 779) (by decide +kernel)) rfl)⟩
theorem fl_X7_121 : FL RX7 121 6 7 := ⟨by decide, Or.inl (TB_mem (List.mem_of_getElem? (i := 780) (by decide +kernel)) rfl)⟩
theorem fl_X7_124 : FL RX7 124 6 8 := ⟨by decide, Or.inl (TB_mem (List.mem_of_getElem? (i := 781) (by decide +kernel)) rfl)⟩
theorem fl_X7_130 : FL RX7 130 6 9 := ⟨by decide, Or.inl (TB_mem (List.mem_of_getElem? (i := 782) (by decide +kernel)) rfl)⟩
theorem fl_X7_13 : FL RX7 13 6 10 := ⟨by decide, Or.inl (TB_mem (List.mem_of_getElem? (i := 783) (by decide +kernel)) rfl)⟩
theorem fl_X7_16 : FL RX7 16 6 11 := ⟨by decide, Or.inl (TB_mem (List.mem_of_getElem? (i := 784) (by decide +kernel)) rfl)⟩
theorem fl_X7_19 : FL RX7 19 6 12 := ⟨by decide, Or.inl (TB_mem (List.mem_of_getElem? (i := 785) (by decide +kernel)) rfl)⟩
theorem fl_X7_22 : FL RX7 22 6 13 := ⟨by decide, Or.inl (TB_mem (List.mem_of_getElem? (i := 786) (by decide +kernel)) rfl)⟩
theorem fl_X7_25 : FL RX7 25 6 14 := ⟨by decide, Or.inl (TB_mem (List.mem_of_getElem? (i := 787) (by decide +kernel)) rfl)⟩
theorem fl_X7_28 : FL RX7 28 6 15 := ⟨by decide, Or.inl (TB_mem (List.mem_of_getElem? (i := 788) (by decide +kernel)) rfl)⟩
theorem fl_X7_31 : FL RX7 31 6 16 := ⟨by decide, Or.inl (TB_mem (List.mem_of_getElem? (i := 789) (by decide +kernel)) rfl)⟩
theorem fl_X7_34 : FL RX7 34 6 17 := ⟨by decide, Or.inl (TB_mem (List.mem_of_getElem? (i := 790) (by decide +kernel)) rfl)⟩
theorem fl_X7_253 : FL RX7 253 6 18 := ⟨by decide, Or.inl (TB_mem (List.mem_of_getElem? (i := 791) (by decide +kernel)) rfl)⟩
theorem fl_X7_37 : FL RX7 37 6 19 := ⟨by decide, Or.inl (TB_mem (List.mem_of_getElem? (i := 792) (by decide +kernel)) rfl)⟩
theorem fl_X7_40 : FL RX7 40 6 20 := ⟨by decide, Or.inl (TB_mem (List.mem_of_getElem? (i := 793) (by decide +kernel)) rfl)⟩
theorem fl_X7_262 : FL RX7 262 6 21 := ⟨by decide, Or.inl (TB_mem (List.mem_of_getElem? (i := 794) (by decide +kernel)) rfl)⟩
theorem fl_X7_127 : FL RX7 127 6 22 := ⟨by decide, Or.inl (TB_mem (List.mem_of_getElem? (i := 795) (by decide +kernel)) rfl)⟩
theorem fl_X7_43 : FL RX7 43 6 23 := ⟨by decide, Or.inl (TB_mem (List.mem_of_getElem? (i := 796) (by decide +kernel)) rfl)⟩
theorem fl_X7_46 : FL RX7 46 6 24 := ⟨by decide, Or.inl (TB_mem (List.mem_of_getElem? (i := 797) (by decide +kernel)) rfl)⟩
theorem fl_X7_275 : FL RX7 275 6 25 := ⟨by decide, Or.inl (TB_mem (List.mem_of_getElem? (i := 798) (by decide +kernel)) rfl)⟩
theorem fl_X7_70 : FL RX7 70 6 26 := ⟨by decide, Or.inl (TB_mem (List.mem_of_getElem? (i := 799) (by decide +kernel)) rfl)⟩
theorem fl_X7_292 : FL RX7 292 6 27 := ⟨by decide, Or.inl (TB_mem (List.mem_of_getElem? (i := 800) (by decide +kernel)) rfl)⟩
theorem fl_X7_295 : FL RX7 295 6 28 := ⟨by decide, Or.inl (TB_mem (List.mem_of_getElem? (i := 801) (by decide +kernel)) rfl)⟩
theorem fl_X7_298 : FL RX7 298 6 29 := ⟨by decide, Or.inl (TB_mem (List.mem_of_getElem? (i := 802) (by decide +kernel)) rfl)⟩
theorem fl_X7_301 : FL RX7 301 6 30 := ⟨by decide, Or.inl (TB_mem (List.mem_of_getElem? (i := 803) (by decide +kernel)) rfl)⟩
theorem fl_X7_304 : FL RX7 304 6 31 := ⟨by decide, Or.inl (TB_mem (List.mem_of_getElem? (i := 804) (by decide +kernel)) rfl)⟩
theorem fl_X7_49 : FL RX7 49 6 32 := ⟨by decide, Or.inl (TB_mem (List.mem_of_getElem? (i := 805) (by decide +kernel)) rfl)⟩
theorem fl_X7_52 : FL RX7 52 6 33 := ⟨by decide, Or.inl (TB_mem (List.mem_of_getElem? (i := 806) (by decide +kernel)) rfl)⟩
theorem fl_X7_55 : FL RX7 55 6 34 := ⟨by decide, Or.inl (TB_mem (List.mem_of_getElem? (i := 807) (by decide +kernel)) rfl)⟩
theorem fl_X7_58 : FL RX7 58 6 35 := ⟨by decide, Or.inl (TB_mem (List.mem_of_getElem? (i := 808) (by decide +kernel)) rfl)⟩
theorem fl_X7_61 : FL RX7 61 6 36 := ⟨by decide, Or.inl (TB_mem (List.mem_of_getElem? (i := 809) (by decide +kernel)) rfl)⟩
theorem fl_X7_64 : FL RX7 64 6 37 := ⟨by decide, Or.inl (TB_mem (List.mem_of_getElem? (i := 810) (by decide +kernel)) rfl)⟩
theorem fl_X7_67 : FL RX7 67 6 38 := ⟨by decide, Or.inl (TB_mem (List.mem_of_getElem? (i := 811) (by decide +kernel)) rfl)⟩
theorem fl_X7_321 : FL RX7 321 6 39 := ⟨by decide, Or.inl (TB_mem (List.mem_of_getElem? (i := 812) (by decide +kernel)) rfl)⟩
theorem fl_X6_40 : FL RX6 40 1 1 := ⟨by decide, Or.inr (List.mem_filter.mpr ⟨(List.mem_of_getElem? (i := 88) (by decide +kernel)), rfl⟩)⟩
theorem fl_X5_65 : FL RX5 65 1 1 := ⟨by decide, Or.inr (List.mem_filter.mpr ⟨(List.mem_of_getElem? (i := 89) (by decide +kernel)), rfl⟩)⟩
theorem fl_X6_86 : FL RX6 86 4 0 := ⟨by decide, Or.inr (List.mem_filter.mpr ⟨(List.mem_of_getElem? (i := 103) (by decide +kernel)), rfl⟩)⟩
theorem fl_X6_90 : FL RX6 90 4 1 := ⟨by decide, Or.inr (List.mem_filter.mpr ⟨(List.mem_of_getElem? (i := 105) (by decide +kernel)), rfl⟩)⟩
theorem fl_X6_130 : FL RX6 130 4 3 := ⟨by decide, Or.inr (List.mem_filter.mpr ⟨(List.mem_of_getElem? (i := 108) (by decide +kernel)), rfl⟩)⟩
theorem fl_X0_102 : FL RX0 102 4 4 := ⟨by decide, Or.inr (List.mem_filter.mpr ⟨(List.mem_of_getElem? (i := 110) (by decide +kernel)), rfl⟩)⟩
theorem fl_X6_244 : FL RX6 244 4 4 := ⟨by decide, Or.inr (List.mem_filter.mpr ⟨(List.mem_of_getElem? (i := 111) (by decide +kernel)), rfl⟩)⟩
theorem fl_X6_72 : FL RX6 72 4 5 := ⟨by decide, Or.inr (List.mem_filter.mpr ⟨(List.mem_of_getElem? (i := 113) (by decide +kernel)), rfl⟩)⟩
theorem fl_X0_93 : FL RX0 93 4 5 := ⟨by decide, Or.inr (List.mem_filter.mpr ⟨(List.mem_of_getElem? (i := 114) (by decide +kernel)), rfl⟩)⟩
theorem fl_X3_43 : FL RX3 43 2 3 := ⟨by decide, Or.inr (List.mem_filter.mpr ⟨(List.mem_of_getElem? (i := 144) (by decide +kernel)), rfl⟩)⟩
theorem fl_X6_224 : FL RX6 224 2 3 := ⟨by decide, Or.inr (List.mem_filter.mpr ⟨(List.mem_of_getElem? (i := 145) (by decide +kernel)), rfl⟩)⟩
theorem fl_X6_96 : FL RX6 96 3 0 := ⟨by decide, Or.inr (List.mem_filter.mpr ⟨(List.mem_of_getElem? (i := 156) (by decide +kernel)), rfl⟩)⟩
theorem fl_X0_83 : FL RX0 83 3 0 := ⟨by decide, Or.inr (List.mem_filter.mpr ⟨(List.mem_of_getElem? (i := 157) (by decide +kernel)), rfl⟩)⟩
theorem fl_X5_75 : FL RX5 75 3 0 := ⟨by decide, Or.inr (List.mem_filter.mpr ⟨(List.mem_of_getElem? (i := 158) (by decide +kernel)), rfl⟩)⟩
theorem fl_X0_44 : FL RX0 44 3 1 := ⟨by decide, Or.inr (List.mem_filter.mpr ⟨(List.mem_of_getElem? (i := 160) (by decide +kernel)), rfl⟩)⟩
theorem fl_X5_54 : FL RX5 54 3 1 := ⟨by decide, Or.inr (List.mem_filter.mpr ⟨(List.mem_of_getElem? (i := 161) (by decide +kernel)), rfl⟩)⟩
theorem fl_X6_93 : FL RX6 93 3 1 := ⟨by decide, Or.inr (List.mem_filter.mpr ⟨(List.mem_of_getElem? (i := 162) (by decide +kernel)), rfl⟩)⟩
theorem fl_X6_99 : FL RX6 99 3 2 := ⟨by decide, Or.inr (List.mem_filter.mpr ⟨(List.mem_of_getElem? (i := 164) (by decide +kernel)), rfl⟩)⟩
theorem fl_X6_192 : FL RX6 192 3 3 := ⟨by decide, Or.inr (List.mem_filter.mpr ⟨(List.mem_of_getElem? (i := 166) (by decide +kernel)), rfl⟩)⟩
theorem fl_X6_109 : FL RX6 109 3 6 := ⟨by decide, Or.inr (List.mem_filter.mpr ⟨(List.mem_of_getElem? (i := 170) (by decide +kernel)), rfl⟩)⟩
theorem fl_X0_86 : FL RX0 86 3 7 := ⟨by decide, Or.inr (List.mem_filter.mpr ⟨(List.mem_of_getElem? (i := 172) (by decide +kernel)), rfl⟩)⟩
theorem fl_X6_186 : FL RX6 186 3 7 := ⟨by decide, Or.inr (List.mem_filter.mpr ⟨(List.mem_of_getElem? (i := 173) (by decide +kernel)), rfl⟩)⟩
theorem fl_X6_175 : FL RX6 175 3 8 := ⟨by decide, Or.inr (List.mem_filter.mpr ⟨(List.mem_of_getElem? (i := 175) (by decide +kernel)), rfl⟩)⟩
theorem fl_X6_164 : FL RX6 164 3 9 := ⟨by decide, Or.inr (List.mem_filter.mpr ⟨(List.mem_of_getElem? (i := 177) (by decide +kernel)), rfl⟩)⟩
theorem fl_X6_183 : FL RX6 183 3 10 := ⟨by decide, Or.inr (List.mem_filter.mpr ⟨(List.mem_of_getElem? (i := 179) (by decide +kernel)), rfl⟩)⟩
theorem fl_X6_232 : FL RX6 232 0 0 := ⟨by decide, Or.inr (List.mem_filter.mpr ⟨(List.mem_of_getElem? (i := 214) (by decide +kernel)), rfl⟩)⟩
theorem fl_X6_106 : FL RX6 106 0 4 := ⟨by decide, Or.inr (List.mem_filter.mpr ⟨(List.mem_of_getElem? (i := 219) (by decide +kernel)), rfl⟩)⟩
theorem fl_X6_238 : FL RX6 238 0 5 := ⟨by decide, Or.inr (List.mem_filter.mpr ⟨(List.mem_of_getElem? (i := 221) (by decide +kernel)), rfl⟩)⟩
theorem kc_J2_227 : Cond.constant RJ2 227 (65536) ∈ TB := TB_mem (List.mem_of_getElem? (i := 354) (by decide +kernel)) rfl
theorem kc_J11_110 : Cond.constant RJ11 110 (55232) ∈ TB := TB_mem (List.mem_of_getElem? (i := 393) (by decide +kernel)) rfl
theorem kc_J11_76 : Cond.constant RJ11 76 (56320) ∈ TB := TB_mem (List.mem_of_getElem? (i := 397) (by decide +kernel)) rfl
theorem kc_J6_265 : Cond.constant RJ6 265 (1431655765) ∈ TB := TB_mem (List.mem_of_getElem? (i := 485) (by decide +kernel)) rfl
theorem kc_J6_266 : Cond.constant RJ6 266 (858993459) ∈ TB := TB_mem (List.mem_of_getElem? (i := 486) (by decide +kernel)) rfl
theorem kc_J6_267 : Cond.constant RJ6 267 (252645135) ∈ TB := TB_mem (List.mem_of_getElem? (i := 487) (by decide +kernel)) rfl
theorem kc_X0_114 : Cond.constant RX0 114 (65536) ∈ TB := TB_mem (List.mem_of_getElem? (i := 718) (by decide +kernel)) rfl
theorem kc_X7_282 : Cond.constant RX7 282 (65536) ∈ TB := TB_mem (List.mem_of_getElem? (i := 1169) (by decide +kernel)) rfl
theorem kc_X0_108 : Cond.constantLong RX0 108 (1103515245) ∈ TB := TB_mem (List.mem_of_getElem? (i := 715) (by decide +kernel)) rfl
theorem kc_X0_110 : Cond.constantLong RX0 110 (12345) ∈ TB := TB_mem (List.mem_of_getElem? (i := 716) (by decide +kernel)) rfl
theorem kc_X0_112 : Cond.constantLong RX0 112 (2147483648) ∈ TB := TB_mem (List.mem_of_getElem? (i := 717) (by decide +kernel)) rfl
theorem kc_X6_253 : Cond.constantLong RX6 253 (1123) ∈ TB := TB_mem (List.mem_of_getElem? (i := 757) (by decide +kernel)) rfl
theorem kc_X6_255 : Cond.constantLong RX6 255 (31) ∈ TB := TB_mem (List.mem_of_getElem? (i := 758) (by decide +kernel)) rfl
theorem kc_X7_74 : Cond.constantLong RX7 74 (126) ∈ TB := TB_mem (List.mem_of_getElem? (i := 898) (by decide +kernel)) rfl
theorem kc_X7_87 : Cond.constantLong RX7 87 (49) ∈ TB := TB_mem (List.mem_of_getElem? (i := 918) (by decide +kernel)) rfl
theorem kc_X7_89 : Cond.constantLong RX7 89 (57) ∈ TB := TB_mem (List.mem_of_getElem? (i := 919) (by decide +kernel)) rfl
theorem kc_X7_91 : Cond.constantLong RX7 91 (48) ∈ TB := TB_mem (List.mem_of_getElem? (i := 927) (by decide +kernel)) rfl
theorem kc_X7_93 : Cond.constantLong RX7 93 (53) ∈ TB := TB_mem (List.mem_of_getElem? (i := 928) (by decide +kernel)) rfl
theorem kc_X7_172 : Cond.constantLong RX7 172 (10) ∈ TB := TB_mem (List.mem_of_getElem? (i := 945) (by decide +kernel)) rfl
theorem kc_X7_174 : Cond.constantLong RX7 174 (12) ∈ TB := TB_mem (List.mem_of_getElem? (i := 946) (by decide +kernel)) rfl
theorem kc_X7_194 : Cond.constantLong RX7 194 (4) ∈ TB := TB_mem (List.mem_of_getElem? (i := 998) (by decide +kernel)) rfl
theorem kc_X7_231 : Cond.constantLong RX7 231 (2) ∈ TB := TB_mem (List.mem_of_getElem? (i := 1049) (by decide +kernel)) rfl
theorem kc_X7_137 : Cond.constantLong RX7 137 (5) ∈ TB := TB_mem (List.mem_of_getElem? (i := 1066) (by decide +kernel)) rfl
theorem kc_X7_139 : Cond.constantLong RX7 139 (3) ∈ TB := TB_mem (List.mem_of_getElem? (i := 1095) (by decide +kernel)) rfl
theorem kc_X7_271 : Cond.constantLong RX7 271 (99) ∈ TB := TB_mem (List.mem_of_getElem? (i := 1152) (by decide +kernel)) rfl
theorem kc_X7_283 : Cond.constantLong RX7 283 (60) ∈ TB := TB_mem (List.mem_of_getElem? (i := 1161) (by decide +kernel)) rfl
theorem kc_X7_273 : Cond.constantLong RX7 273 (1103515245) ∈ TB := TB_mem (List.mem_of_getElem? (i := 1166) (by decide +kernel)) rfl
theorem kc_X7_278 : Cond.constantLong RX7 278 (12345) ∈ TB := TB_mem (List.mem_of_getElem? (i := 1167) (by decide +kernel)) rfl
theorem kc_X7_280 : Cond.constantLong RX7 280 (2147483647) ∈ TB := TB_mem (List.mem_of_getElem? (i := 1168) (by decide +kernel)) rfl
theorem kc_X7_329 : Cond.constantLong RX7 329 (1123) ∈ TB := TB_mem (List.mem_of_getElem? (i := 1206) (by decide +kernel)) rfl
theorem kc_X7_319 : Cond.constantLong RX7 319 (31) ∈ TB := TB_mem (List.mem_of_getElem? (i := 1211) (by decide +kernel)) rfl
theorem ml_J1_92 : Cond.methodLink RJ1 92 Lib.Math.max.name ∈ TB := TB_mem (List.mem_of_getElem? (i := 340) (by decide +kernel)) rfl
theorem ml_J1_38 : Cond.methodLink RJ1 38 Lib.Math.min.name ∈ TB := TB_mem (List.mem_of_getElem? (i := 343) (by decide +kernel)) rfl
theorem ml_J2_224 : Cond.methodLink RJ2 224 Lib.Math.max.name ∈ TB := TB_mem (List.mem_of_getElem? (i := 352) (by decide +kernel)) rfl
theorem ml_J2_183 : Cond.methodLink RJ2 183 Lib.Math.min.name ∈ TB := TB_mem (List.mem_of_getElem? (i := 353) (by decide +kernel)) rfl
theorem ml_X5_30 : Cond.methodLink RX5 30 Lib.Math.min.name ∈ TB := TB_mem (List.mem_of_getElem? (i := 424) (by decide +kernel)) rfl
theorem ml_X3_59 : Cond.methodLink RX3 59 arraycopyName ∈ TB := TB_mem (List.mem_of_getElem? (i := 468) (by decide +kernel)) rfl
theorem ml_X4_37 : Cond.methodLink RX4 37 Lib.Math.max.name ∈ TB := TB_mem (List.mem_of_getElem? (i := 510) (by decide +kernel)) rfl
theorem ml_X0_77 : Cond.methodLink RX0 77 arraycopyName ∈ TB := TB_mem (List.mem_of_getElem? (i := 665) (by decide +kernel)) rfl
theorem ml_X2_25 : Cond.methodLink RX2 25 arraycopyName ∈ TB := TB_mem (List.mem_of_getElem? (i := 738) (by decide +kernel)) rfl
theorem mm_st_max : Cond.static Lib.Math.max.name ∈ TB := TB_mem (List.mem_of_getElem? (i := 341) (by decide +kernel)) rfl
theorem mm_st_min : Cond.static Lib.Math.min.name ∈ TB := TB_mem (List.mem_of_getElem? (i := 344) (by decide +kernel)) rfl
theorem sc_st : Cond.static arraycopyName ∈ TB := TB_mem (List.mem_of_getElem? (i := 469) (by decide +kernel)) rfl
theorem sc_na : Cond.native arraycopyName ∈ TB := TB_mem (List.mem_of_getElem? (i := 470) (by decide +kernel)) rfl
theorem sc_in : Cond.initialized "java/lang/System" ∈ TB := TB_mem (List.mem_of_getElem? (i := 70) (by decide +kernel)) rfl
theorem mm_in : Cond.initialized "java/lang/Math" ∈ TB := TB_mem (List.mem_of_getElem? (i := 64) (by decide +kernel)) rfl
theorem mm_cw_max : Cond.code Lib.Math.max.name Lib.Math.max.code 2 (some .int) ∈ TB := TB_mem (List.mem_of_getElem? (i := 342) (by decide +kernel)) rfl
theorem mm_cw_min : Cond.code Lib.Math.min.name Lib.Math.min.code 2 (some .int) ∈ TB := TB_mem (List.mem_of_getElem? (i := 345) (by decide +kernel)) rfl
theorem fl_worths : Cond.fieldLinkNest RX4 13 "GrudgeRennet" "WORTHS" "[I" "GrudgeRennet" ∈ nsT := List.mem_filter.mpr ⟨(List.mem_of_getElem? (i := 435) (by decide +kernel)), rfl⟩
end
section
/-! the layout, row by row; answers; calls that answer so -/
theorem ly_0 : lyT[0]? = some (1, 5, [3, 5, 10, 21, 43, 0, 0, 0, 0]) := rfl
theorem ly_1 : lyT[1]? = some (1, 1, [4, 0]) := rfl
theorem ly_2 : lyT[2]? = some (0, 24, []) := rfl
theorem ly_3 : lyT[3]? = some (1, 4, [6, 7, 8, 9, 0, 0]) := rfl
theorem ly_4 : lyT[4]? = some (0, 4, []) := rfl
theorem ly_5 : lyT[5]? = some (0, 4, []) := rfl
theorem ly_6 : lyT[6]? = some (0, 12, []) := rfl
theorem ly_7 : lyT[7]? = some (0, 6, []) := rfl
theorem ly_8 : lyT[8]? = some (1, 3, [11, 12, 13, 14, 15, 16, 17, 0, 0, 0, 0]) := rfl
theorem ly_9 : lyT[9]? = some (0, 4, []) := rfl
theorem ly_10 : lyT[10]? = some (0, 4, []) := rfl
theorem ly_11 : lyT[11]? = some (0, 4, []) := rfl
theorem ly_12 : lyT[12]? = some (0, 4, []) := rfl
theorem ly_13 : lyT[13]? = some (0, 4, []) := rfl
theorem ly_14 : lyT[14]? = some (0, 4, []) := rfl
theorem ly_15 : lyT[15]? = some (1, 2, [18, 19, 20, 0]) := rfl
theorem ly_16 : lyT[16]? = some (0, 6, []) := rfl
theorem ly_17 : lyT[17]? = some (0, 6, []) := rfl
theorem ly_18 : lyT[18]? = some (0, 6, []) := rfl
theorem ly_19 : lyT[19]? = some (1, 3, [22, 23, 24, 25, 26, 27, 28, 0, 0, 0, 0]) := rfl
theorem ly_20 : lyT[20]? = some (0, 4, []) := rfl
theorem ly_21 : lyT[21]? = some (0, 4, []) := rfl
theorem ly_22 : lyT[22]? = some (0, 4, []) := rfl
theorem ly_23 : lyT[23]? = some (0, 4, []) := rfl
theorem ly_24 : lyT[24]? = some (0, 4, []) := rfl
theorem ly_25 : lyT[25]? = some (0, 4, []) := rfl
theorem ly_26 : lyT[26]? = some (1, 2, [29, 30, 31, 0]) := rfl
theorem ly_27 : lyT[27]? = some (0, 6, []) := rfl
theorem ly_28 : lyT[28]? = some (0, 6, []) := rfl
theorem ly_29 : lyT[29]? = some (0, 6, []) := rfl
theorem ly_30 : lyT[30]? = some (1, 3, [33, 34, 35, 36, 37, 38, 39, 0, 0, 0, 0]) := rfl
theorem ly_31 : lyT[31]? = some (0, 4, []) := rfl
theorem ly_32 : lyT[32]? = some (0, 4, []) := rfl
theorem ly_33 : lyT[33]? = some (0, 4, []) := rfl
theorem ly_34 : lyT[34]? = some (0, 4, []) := rfl
theorem ly_35 : lyT[35]? = some (0, 4, []) := rfl
theorem ly_36 : lyT[36]? = some (0, 4, []) := rfl
theorem ly_37 : lyT[37]? = some (1, 2, [40, 41, 42, 0]) := rfl
theorem ly_38 : lyT[38]? = some (0, 6, []) := rfl
theorem ly_39 : lyT[39]? = some (0, 6, []) := rfl
theorem ly_40 : lyT[40]? = some (0, 6, []) := rfl
theorem ly_41 : lyT[41]? = some (1, 0, [32, 44, 45, 46, 0, 0]) := rfl
theorem ly_42 : lyT[42]? = some (0, 3, []) := rfl
theorem ly_43 : lyT[43]? = some (0, 3, []) := rfl
theorem ly_44 : lyT[44]? = some (2, 3, [45, 46, 47]) := rfl
theorem ly_45 : lyT[45]? = some (0, 4, []) := rfl
theorem ly_46 : lyT[46]? = some (0, 4, []) := rfl
theorem ly_47 : lyT[47]? = some (0, 4, []) := rfl
theorem ly_48 : lyT[48]? = some (1, 6, [51, 0, 0, 0, 0, 0, 0, 0, 0, 0, 52, 53, 54, 55, 56, 57, 58, 59, 0, 60, 61, 0, 0, 62, 63, 0, 0, 0, 0, 0, 0, 0, 64, 65, 66, 67, 68, 69, 70, 1]) := rfl
theorem ly_49 : lyT[49]? = some (0, 24, []) := rfl
theorem ly_50 : lyT[50]? = some (0, 12, []) := rfl
theorem ly_51 : lyT[51]? = some (0, 4, []) := rfl
theorem ly_52 : lyT[52]? = some (0, 4, []) := rfl
theorem ly_53 : lyT[53]? = some (0, 6, []) := rfl
theorem ly_54 : lyT[54]? = some (0, 6, []) := rfl
theorem ly_55 : lyT[55]? = some (0, 4, []) := rfl
theorem ly_56 : lyT[56]? = some (0, 8, []) := rfl
theorem ly_57 : lyT[57]? = some (0, 4, []) := rfl
theorem ly_58 : lyT[58]? = some (0, 3, []) := rfl
theorem ly_59 : lyT[59]? = some (0, 3, []) := rfl
theorem ly_60 : lyT[60]? = some (0, 18, []) := rfl
theorem ly_61 : lyT[61]? = some (0, 22, []) := rfl
theorem ly_62 : lyT[62]? = some (0, 12, []) := rfl
theorem ly_63 : lyT[63]? = some (0, 4, []) := rfl
theorem ly_64 : lyT[64]? = some (0, 4, []) := rfl
theorem ly_65 : lyT[65]? = some (0, 6, []) := rfl
theorem ly_66 : lyT[66]? = some (0, 4, []) := rfl
theorem ly_67 : lyT[67]? = some (0, 8, []) := rfl
theorem ly_68 : lyT[68]? = some (0, 18, []) := rfl

theorem rgm {z : Int} (h1 : -2147483648 ≤ z) (h2 : z < 2147483648) : rg z := ⟨h1, h2⟩
def pZ (v : Int) (M : Mm_) : Option Value → Mm_ → Prop := fun r M' => r = some (.int (zI v)) ∧ M' = M
def pV (M2 : Mm_) : Option Value → Mm_ → Prop := fun r M' => r = none ∧ M' = M2
def pB (c : Prop) (M : Mm_) : Option Value → Mm_ → Prop := fun r M' => ((r = some (.int (zI 1)) ∧ c) ∨ (r = some (.int (zI 0)) ∧ ¬ c)) ∧ M' = M
theorem pZ_of {z v : Int} {M : Mm_} (h : z = v) : pZ v M (some (.int (zI z))) M := h ▸ ⟨rfl, rfl⟩
theorem pZ_ofM {z v : Int} {M M' : Mm_} (h : z = v) (hM : M' = M) : pZ v M (some (.int (zI z))) M' := h ▸ ⟨rfl, hM⟩
theorem pB_t {c : Prop} {M : Mm_} (h : c) : pB c M (some (.int (zI 1))) M := ⟨Or.inl ⟨rfl, h⟩, rfl⟩
theorem pB_f {c : Prop} {M : Mm_} (h : ¬ c) : pB c M (some (.int (zI 0))) M := ⟨Or.inr ⟨rfl, h⟩, rfl⟩
theorem pV_of {M : Mm_} : pV M none M := ⟨rfl, rfl⟩
theorem lpN {P : Nat → Prop} (N : Nat) (hN : P N) (hs : ∀ i, i < N → P (i + 1) → P i) : ∀ i, i ≤ N → P i := by
  have h : ∀ k i, i + k = N → P i := by
    intro k
    induction k with
    | zero => intro i hi; rw [show i = N by omega]; exact hN
    | succ k ih => intro i hi; exact hs i (by omega) (ih (i + 1) (by omega))
  intro i hi
  exact h (N - i) i (by omega)

theorem r_cVz {G : GT} {own : String} {cc : ByteArray} {n d : Nat} (C : Ru G own cc n d) {pc : Nat} {lv stk : List Value} {M : Mm_} {idx d' np b ci : Nat} {k : Ky_} {as rest : List Value} {cs : List Nat} {v : Int} (hd : decode cc pc = .ok (.invokevirtual idx, 3)) (hw : VW own idx k np) (hC : Cn d' k (.ref b :: as) M (pZ v M)) (hd' : d' < d) (hn : as.length = np) (hi : lyT[b]? = some (1, ci, cs)) (hcl : (cT ci).1 = k.1.cls) (hst : stk = as.reverse ++ .ref b :: rest) (hrs : (rest.map fun v => v.category).sum ≤ 8) (kk : G (pc + 3) lv (.int (zI v) :: rest) M) : G pc lv stk M := r_callV C hd hw hC hd' hn hi hcl hst hrs (fun r M' h => by obtain ⟨rfl, rfl⟩ := h; exact kk)
theorem r_cVv {G : GT} {own : String} {cc : ByteArray} {n d : Nat} (C : Ru G own cc n d) {pc : Nat} {lv stk : List Value} {M : Mm_} {idx d' np b ci : Nat} {k : Ky_} {as rest : List Value} {cs : List Nat} {M2 : Mm_} (hd : decode cc pc = .ok (.invokevirtual idx, 3)) (hw : VW own idx k np) (hC : Cn d' k (.ref b :: as) M (pV M2)) (hd' : d' < d) (hn : as.length = np) (hi : lyT[b]? = some (1, ci, cs)) (hcl : (cT ci).1 = k.1.cls) (hst : stk = as.reverse ++ .ref b :: rest) (hrs : (rest.map fun v => v.category).sum ≤ 8) (kk : G (pc + 3) lv rest M2) : G pc lv stk M := r_callV C hd hw hC hd' hn hi hcl hst hrs (fun r M' h => by obtain ⟨rfl, rfl⟩ := h; exact kk)
theorem r_cVw {G : GT} {own : String} {cc : ByteArray} {n d : Nat} (C : Ru G own cc n d) {pc : Nat} {lv stk : List Value} {M : Mm_} {idx d' np b ci : Nat} {k : Ky_} {as rest : List Value} {cs : List Nat} {v : Int} {M2 : Mm_} (hd : decode cc pc = .ok (.invokevirtual idx, 3)) (hw : VW own idx k np) (hC : Cn d' k (.ref b :: as) M (pZ v M2)) (hd' : d' < d) (hn : as.length = np) (hi : lyT[b]? = some (1, ci, cs)) (hcl : (cT ci).1 = k.1.cls) (hst : stk = as.reverse ++ .ref b :: rest) (hrs : (rest.map fun v => v.category).sum ≤ 8) (kk : G (pc + 3) lv (.int (zI v) :: rest) M2) : G pc lv stk M := r_callV C hd hw hC hd' hn hi hcl hst hrs (fun r M' h => by obtain ⟨rfl, rfl⟩ := h; exact kk)
theorem r_cVb {G : GT} {own : String} {cc : ByteArray} {n d : Nat} (C : Ru G own cc n d) {pc : Nat} {lv stk : List Value} {M : Mm_} {idx d' np b ci : Nat} {k : Ky_} {as rest : List Value} {cs : List Nat} {q : Prop} (hd : decode cc pc = .ok (.invokevirtual idx, 3)) (hw : VW own idx k np) (hC : Cn d' k (.ref b :: as) M (pB q M)) (hd' : d' < d) (hn : as.length = np) (hi : lyT[b]? = some (1, ci, cs)) (hcl : (cT ci).1 = k.1.cls) (hst : stk = as.reverse ++ .ref b :: rest) (hrs : (rest.map fun v => v.category).sum ≤ 8) (kt : q → G (pc + 3) lv (.int (zI 1) :: rest) M) (kf : ¬ q → G (pc + 3) lv (.int (zI 0) :: rest) M) : G pc lv stk M := r_callV C hd hw hC hd' hn hi hcl hst hrs (fun r M' h => by obtain ⟨⟨rfl, h1⟩ | ⟨rfl, h1⟩, rfl⟩ := h; exact kt h1; exact kf h1)
theorem r_cSz {G : GT} {own : String} {cc : ByteArray} {n d : Nat} (C : Ru G own cc n d) {pc : Nat} {lv stk : List Value} {M : Mm_} {idx d' np : Nat} {k : Ky_} {as rest : List Value} {v : Int} (hd : decode cc pc = .ok (.invokestatic idx, 3)) (hw : SW own idx k np) (hC : Cn d' k as M (pZ v M)) (hd' : d' < d) (hn : as.length = np) (hst : stk = as.reverse ++ rest) (hrs : (rest.map fun v => v.category).sum ≤ 8) (kk : G (pc + 3) lv (.int (zI v) :: rest) M) : G pc lv stk M := r_callS C hd hw hC hd' hn hst hrs (fun r M' h => by obtain ⟨rfl, rfl⟩ := h; exact kk)
theorem r_cSv {G : GT} {own : String} {cc : ByteArray} {n d : Nat} (C : Ru G own cc n d) {pc : Nat} {lv stk : List Value} {M : Mm_} {idx d' np : Nat} {k : Ky_} {as rest : List Value} {M2 : Mm_} (hd : decode cc pc = .ok (.invokestatic idx, 3)) (hw : SW own idx k np) (hC : Cn d' k as M (pV M2)) (hd' : d' < d) (hn : as.length = np) (hst : stk = as.reverse ++ rest) (hrs : (rest.map fun v => v.category).sum ≤ 8) (kk : G (pc + 3) lv rest M2) : G pc lv stk M := r_callS C hd hw hC hd' hn hst hrs (fun r M' h => by obtain ⟨rfl, rfl⟩ := h; exact kk)
theorem r_cSw {G : GT} {own : String} {cc : ByteArray} {n d : Nat} (C : Ru G own cc n d) {pc : Nat} {lv stk : List Value} {M : Mm_} {idx d' np : Nat} {k : Ky_} {as rest : List Value} {v : Int} {M2 : Mm_} (hd : decode cc pc = .ok (.invokestatic idx, 3)) (hw : SW own idx k np) (hC : Cn d' k as M (pZ v M2)) (hd' : d' < d) (hn : as.length = np) (hst : stk = as.reverse ++ rest) (hrs : (rest.map fun v => v.category).sum ≤ 8) (kk : G (pc + 3) lv (.int (zI v) :: rest) M2) : G pc lv stk M := r_callS C hd hw hC hd' hn hst hrs (fun r M' h => by obtain ⟨rfl, rfl⟩ := h; exact kk)
theorem r_cSb {G : GT} {own : String} {cc : ByteArray} {n d : Nat} (C : Ru G own cc n d) {pc : Nat} {lv stk : List Value} {M : Mm_} {idx d' np : Nat} {k : Ky_} {as rest : List Value} {q : Prop} (hd : decode cc pc = .ok (.invokestatic idx, 3)) (hw : SW own idx k np) (hC : Cn d' k as M (pB q M)) (hd' : d' < d) (hn : as.length = np) (hst : stk = as.reverse ++ rest) (hrs : (rest.map fun v => v.category).sum ≤ 8) (kt : q → G (pc + 3) lv (.int (zI 1) :: rest) M) (kf : ¬ q → G (pc + 3) lv (.int (zI 0) :: rest) M) : G pc lv stk M := r_callS C hd hw hC hd' hn hst hrs (fun r M' h => by obtain ⟨⟨rfl, h1⟩ | ⟨rfl, h1⟩, rfl⟩ := h; exact kt h1; exact kf h1)
end
section

/-! THE WORDS FOR NUMBERS: sums, force, growth, nights -/
def sm (f : Nat → Int) : Nat → Int
  | 0 => 0
  | n + 1 => sm f n + f n
def dst (p q : Int) : Int := if p < q then q - p else p - q
def rch (g p q : Int) : Int := if 2 * dst p q < g then g - 2 * dst p q else 0
def fr (n : Nat) (g p : Nat → Int) (q : Int) : Int := sm (fun i => rch (g i) (p i) q) n
def wth (kind how : Int) : Int := if how = 0 then 4 else if how = 2 then 2 else if kind = 3 then 12 else 6
def gw (kind pride how : Int) : Int := if kind = 1 ∨ kind = 4 then wth kind how * pride / 5 / 2 else wth kind how * pride / 5
def ng (kind g : Int) : Int := if kind = 2 then g else if kind = 4 ∧ 0 < g then g / 2 + 1 else g / 2
def tp (z : Int) : Int := if 99 < z then 99 else z
theorem sm_congr {f g : Nat → Int} : ∀ {n : Nat}, (∀ i, i < n → f i = g i) → sm f n = sm g n
  | 0, _ => rfl
  | n + 1, h => by
    show sm f n + f n = sm g n + g n
    rw [sm_congr (fun i hi => h i (by omega)), h n (by omega)]
theorem sm_le {f : Nat → Int} {c : Int} : ∀ {n : Nat}, (∀ i, i < n → 0 ≤ f i ∧ f i ≤ c) → 0 ≤ sm f n ∧ sm f n ≤ c * n
  | 0, _ => ⟨Int.le_refl 0, by show (0 : Int) ≤ c * (0 : Nat); simp⟩
  | n + 1, h => by
    have h1 := sm_le (n := n) (fun i hi => h i (by omega))
    have h2 := h n (by omega)
    have e : c * ((n + 1 : Nat) : Int) = c * n + c := by rw [show ((n + 1 : Nat) : Int) = (n : Int) + 1 by omega, Int.mul_add, Int.mul_one]
    show 0 ≤ sm f n + f n ∧ sm f n + f n ≤ c * ((n + 1 : Nat) : Int)
    rw [e]
    omega
theorem rch_b {g p q : Int} (h0 : 0 ≤ g) (h1 : g ≤ 99) : 0 ≤ rch g p q ∧ rch g p q ≤ 99 := by
  have hd : 0 ≤ dst p q := by unfold dst; split <;> omega
  unfold rch
  split <;> omega
theorem rch_0 (p q : Int) : rch 0 p q = 0 := by
  have hd : 0 ≤ dst p q := by unfold dst; split <;> omega
  unfold rch
  rw [if_neg (by omega)]
theorem wth_b {kind how : Int} : 2 ≤ wth kind how ∧ wth kind how ≤ 12 := by
  unfold wth
  repeat' split
  all_goals omega
theorem gw_b {kind pride how : Int} (h1 : 0 ≤ pride) (h9 : pride ≤ 9) : 0 ≤ gw kind pride how ∧ gw kind pride how ≤ 21 := by
  have hw := wth_b (kind := kind) (how := how)
  have h0 : 0 ≤ wth kind how * pride := Int.mul_nonneg (by omega) h1
  have h2 : wth kind how * pride ≤ 12 * 9 := Int.mul_le_mul (by omega) h9 h1 (by omega)
  unfold gw
  split <;> omega
theorem ng_b {kind g : Int} (h0 : 0 ≤ g) (h1 : g ≤ 99) : 0 ≤ ng kind g ∧ ng kind g ≤ 99 := by
  unfold ng
  repeat' split
  all_goals omega
theorem tp_b {z : Int} (h0 : 0 ≤ z) : 0 ≤ tp z ∧ tp z ≤ 99 := by
  unfold tp
  split <;> omega
end
section
set_option maxRecDepth 4000 in
theorem c_isSlight (M : Mm_) {a : Int} (ra : rg a) : Cn 0 kX6_isSlight [.int (zI a)] M (pB (0 ≤ a ∧ a < 3) M) := by
  refine Cn.of rfl (Nat.le_of_ble_eq_true rfl) (fun G C E => ?_)
  show G 0 [.int (zI a)] [] M
  refine r_iload_n C rfl dX6_isSlight_0 ?_
  refine r_if_lt C (tgt := 13) dX6_isSlight_1 rfl (by first | assumption | exact rgm (by omega) (by omega)) (fun h1 => ?_) (fun h1 => ?_)
  · refine r_iconst C dX6_isSlight_13 ?_
    exact r_zret E dX6_isSlight_14 (by decide) (pB_f (by omega))
  · refine r_iload_n C rfl dX6_isSlight_4 ?_
    refine r_iconst C dX6_isSlight_5 ?_
    refine r_icmp_ge C (tgt := 13) dX6_isSlight_6 rfl (by first | assumption | exact rgm (by omega) (by omega)) (by first | assumption | exact rgm (by omega) (by omega)) (fun h6 => ?_) (fun h6 => ?_)
    · refine r_iconst C dX6_isSlight_13 ?_
      exact r_zret E dX6_isSlight_14 (by decide) (pB_f (by omega))
    · refine r_iconst C dX6_isSlight_9 ?_
      refine r_goto C (tgt := 14) dX6_isSlight_10 rfl ?_
      exact r_zret E dX6_isSlight_14 (by decide) (pB_t (by omega))
set_option maxRecDepth 4000 in
theorem c_isPlace (M : Mm_) {a : Int} (ra : rg a) : Cn 0 kX6_isPlace [.int (zI a)] M (pB (0 ≤ a ∧ a < 6) M) := by
  refine Cn.of rfl (Nat.le_of_ble_eq_true rfl) (fun G C E => ?_)
  show G 0 [.int (zI a)] [] M
  refine r_iload_n C rfl dX6_isPlace_0 ?_
  refine r_if_lt C (tgt := 14) dX6_isPlace_1 rfl (by first | assumption | exact rgm (by omega) (by omega)) (fun h1 => ?_) (fun h1 => ?_)
  · refine r_iconst C dX6_isPlace_14 ?_
    exact r_zret E dX6_isPlace_15 (by decide) (pB_f (by omega))
  · refine r_iload_n C rfl dX6_isPlace_4 ?_
    refine r_bipush C rfl dX6_isPlace_5 ?_
    refine r_icmp_ge C (tgt := 14) dX6_isPlace_7 rfl (by first | assumption | exact rgm (by omega) (by omega)) (by first | assumption | exact rgm (by omega) (by omega)) (fun h7 => ?_) (fun h7 => ?_)
    · refine r_iconst C dX6_isPlace_14 ?_
      exact r_zret E dX6_isPlace_15 (by decide) (pB_f (by omega))
    · refine r_iconst C dX6_isPlace_10 ?_
      refine r_goto C (tgt := 15) dX6_isPlace_11 rfl ?_
      exact r_zret E dX6_isPlace_15 (by decide) (pB_t (by omega))
set_option maxRecDepth 4000 in
theorem c_isRowPlace (M : Mm_) {a : Int} (ra : rg a) : Cn 0 kX6_isRowPlace [.int (zI a)] M (pB (10 ≤ a ∧ a < 13) M) := by
  refine Cn.of rfl (Nat.le_of_ble_eq_true rfl) (fun G C E => ?_)
  show G 0 [.int (zI a)] [] M
  refine r_iload_n C rfl dX6_isRowPlace_0 ?_
  refine r_bipush C rfl dX6_isRowPlace_1 ?_
  refine r_icmp_lt C (tgt := 16) dX6_isRowPlace_3 rfl (by first | assumption | exact rgm (by omega) (by omega)) (by first | assumption | exact rgm (by omega) (by omega)) (fun h3 => ?_) (fun h3 => ?_)
  · refine r_iconst C dX6_isRowPlace_16 ?_
    exact r_zret E dX6_isRowPlace_17 (by decide) (pB_f (by omega))
  · refine r_iload_n C rfl dX6_isRowPlace_6 ?_
    refine r_bipush C rfl dX6_isRowPlace_7 ?_
    refine r_icmp_ge C (tgt := 16) dX6_isRowPlace_9 rfl (by first | assumption | exact rgm (by omega) (by omega)) (by first | assumption | exact rgm (by omega) (by omega)) (fun h9 => ?_) (fun h9 => ?_)
    · refine r_iconst C dX6_isRowPlace_16 ?_
      exact r_zret E dX6_isRowPlace_17 (by decide) (pB_f (by omega))
    · refine r_iconst C dX6_isRowPlace_12 ?_
      refine r_goto C (tgt := 17) dX6_isRowPlace_13 rfl ?_
      exact r_zret E dX6_isRowPlace_17 (by decide) (pB_t (by omega))
set_option maxRecDepth 4000 in
theorem c_isOf (M : Mm_) {a b : Int} (ra : rg a) (rb : rg b) : Cn 0 kX4_isOf [.int (zI a), .int (zI b)] M (pB (b = 0 ∨ a = b ∨ (a = 4 ∧ b = 1)) M) := by
  refine Cn.of rfl (Nat.le_of_ble_eq_true rfl) (fun G C E => ?_)
  show G 0 [.int (zI a), .int (zI b)] [] M
  refine r_iload_n C rfl dX4_isOf_0 ?_
  refine r_if_eq C (tgt := 19) dX4_isOf_1 rfl (by first | assumption | exact rgm (by omega) (by omega)) (fun h1 => ?_) (fun h1 => ?_)
  · refine r_iconst C dX4_isOf_19 ?_
    refine r_goto C (tgt := 24) dX4_isOf_20 rfl ?_
    exact r_zret E dX4_isOf_24 (by decide) (pB_t (by omega))
  · refine r_iload_n C rfl dX4_isOf_4 ?_
    refine r_iload_n C rfl dX4_isOf_5 ?_
    refine r_icmp_eq C (tgt := 19) dX4_isOf_6 rfl (by first | assumption | exact rgm (by omega) (by omega)) (by first | assumption | exact rgm (by omega) (by omega)) (fun h6 => ?_) (fun h6 => ?_)
    · refine r_iconst C dX4_isOf_19 ?_
      refine r_goto C (tgt := 24) dX4_isOf_20 rfl ?_
      exact r_zret E dX4_isOf_24 (by decide) (pB_t (by omega))
    · refine r_iload_n C rfl dX4_isOf_9 ?_
      refine r_iconst C dX4_isOf_10 ?_
      refine r_icmp_ne C (tgt := 23) dX4_isOf_11 rfl (by first | assumption | exact rgm (by omega) (by omega)) (by first | assumption | exact rgm (by omega) (by omega)) (fun h11 => ?_) (fun h11 => ?_)
      · refine r_iconst C dX4_isOf_23 ?_
        exact r_zret E dX4_isOf_24 (by decide) (pB_f (by omega))
      · refine r_iload_n C rfl dX4_isOf_14 ?_
        refine r_iconst C dX4_isOf_15 ?_
        refine r_icmp_ne C (tgt := 23) dX4_isOf_16 rfl (by first | assumption | exact rgm (by omega) (by omega)) (by first | assumption | exact rgm (by omega) (by omega)) (fun h16 => ?_) (fun h16 => ?_)
        · refine r_iconst C dX4_isOf_23 ?_
          exact r_zret E dX4_isOf_24 (by decide) (pB_f (by omega))
        · refine r_iconst C dX4_isOf_19 ?_
          refine r_goto C (tgt := 24) dX4_isOf_20 rfl ?_
          exact r_zret E dX4_isOf_24 (by decide) (pB_t (by omega))
set_option maxRecDepth 4000 in
theorem c_reach (M : Mm_) {g p q : Int} (hg : 0 ≤ g ∧ g ≤ 99) (hp : 0 ≤ p ∧ p ≤ 5) (hq : 0 ≤ q ∧ q ≤ 5) : Cn 0 kX3_reach [.int (zI g), .int (zI p), .int (zI q)] M (pZ (rch g p q) M) := by
  refine Cn.of rfl (Nat.le_of_ble_eq_true rfl) (fun G C E => ?_)
  show G 0 [.int (zI g), .int (zI p), .int (zI q), .null] [] M
  refine r_iload_n C rfl dX3_reach_0 ?_
  refine r_iconst C dX3_reach_1 ?_
  refine r_iload_n C rfl dX3_reach_2 ?_
  refine r_iload_n C rfl dX3_reach_3 ?_
  refine r_icmp_ge C (tgt := 13) dX3_reach_4 rfl (by first | assumption | exact rgm (by omega) (by omega)) (by first | assumption | exact rgm (by omega) (by omega)) (fun h4 => ?_) (fun h4 => ?_)
  · refine r_iload_n C rfl dX3_reach_13 ?_
    refine r_iload_n C rfl dX3_reach_14 ?_
    refine r_isub C dX3_reach_15 ?_
    refine r_imul C dX3_reach_16 ?_
    refine r_isub C dX3_reach_17 ?_
    refine r_istore_n C dX3_reach_18 3 rfl (by decide) rfl ?_
    dsimp only [List.set, Nat.reduceAdd]
    refine r_iload_n C rfl dX3_reach_19 ?_
    refine r_if_le C (tgt := 27) dX3_reach_20 rfl (by first | assumption | exact rgm (by omega) (by omega)) (fun h20 => ?_) (fun h20 => ?_)
    · refine r_iconst C dX3_reach_27 ?_
      exact r_iret E dX3_reach_28 (pZ_of (by unfold rch dst; split <;> split <;> omega))
    · refine r_iload_n C rfl dX3_reach_23 ?_
      refine r_goto C (tgt := 28) dX3_reach_24 rfl ?_
      exact r_iret E dX3_reach_28 (pZ_of (by unfold rch dst; split <;> split <;> omega))
  · refine r_iload_n C rfl dX3_reach_7 ?_
    refine r_iload_n C rfl dX3_reach_8 ?_
    refine r_isub C dX3_reach_9 ?_
    refine r_goto C (tgt := 16) dX3_reach_10 rfl ?_
    refine r_imul C dX3_reach_16 ?_
    refine r_isub C dX3_reach_17 ?_
    refine r_istore_n C dX3_reach_18 3 rfl (by decide) rfl ?_
    dsimp only [List.set, Nat.reduceAdd]
    refine r_iload_n C rfl dX3_reach_19 ?_
    refine r_if_le C (tgt := 27) dX3_reach_20 rfl (by first | assumption | exact rgm (by omega) (by omega)) (fun h20 => ?_) (fun h20 => ?_)
    · refine r_iconst C dX3_reach_27 ?_
      exact r_iret E dX3_reach_28 (pZ_of (by unfold rch dst; split <;> split <;> omega))
    · refine r_iload_n C rfl dX3_reach_23 ?_
      refine r_goto C (tgt := 28) dX3_reach_24 rfl ?_
      exact r_iret E dX3_reach_28 (pZ_of (by unfold rch dst; split <;> split <;> omega))
set_option maxRecDepth 4000 in
theorem c_forceAt8 (M : Mm_) {q : Int} (hq : 0 ≤ q ∧ q ≤ 5) (hg : ∀ i, i < 4 → 0 ≤ M.1 9 i ∧ M.1 9 i ≤ 99) (hp : ∀ i, i < 4 → 0 ≤ M.1 10 i ∧ M.1 10 i ≤ 5) (hdc : 0 ≤ M.1 8 7 ∧ M.1 8 7 ≤ 4) (hdr : ∀ i, i < 4 → 0 ≤ M.1 13 i ∧ M.1 13 i ≤ 99) (hdp : ∀ i, i < 4 → 0 ≤ M.1 14 i ∧ M.1 14 i ≤ 5) : Cn 1 kX3_forceAt [.ref 8, .int (zI q)] M (pZ (fr 4 (M.1 9) (M.1 10) q + fr (M.1 8 7).toNat (M.1 13) (M.1 14) q) M) := by
  refine Cn.of rfl (Nat.le_of_ble_eq_true rfl) (fun G C E => ?_)
  show G 0 [.ref 8, .int (zI q), .null, .null] [] M
  have b1 : 0 ≤ fr 4 (M.1 9) (M.1 10) q ∧ fr 4 (M.1 9) (M.1 10) q ≤ 99 * 4 := sm_le (n := 4) (fun i hi => rch_b (hg i hi).1 (hg i hi).2)
  have lp2 : ∀ i, i ≤ (M.1 8 7).toNat → ∀ s z : Int, s = fr 4 (M.1 9) (M.1 10) q + sm (fun i => rch (M.1 13 i) (M.1 14 i) q) i → z = i → G 45 [.ref 8, .int (zI q), .int (zI s), .int (zI z)] [] M := by
    refine lpN _ ?_ ?_
    · intro s z hs hz
      refine r_iload_n C rfl dX3_forceAt_45 ?_
      refine r_aload_n C rfl dX3_forceAt_46 ?_
      refine r_geti C dX3_forceAt_47 fl_X3_47 ly_8 rfl ?_
      refine r_icmp_ge C (tgt := 78) dX3_forceAt_50 rfl (by first | assumption | exact rgm (by omega) (by omega)) (by first | assumption | exact rgm (by omega) (by omega)) (fun h50 => ?_) (fun h50 => absurd h50 (by omega))
      refine r_iload_n C rfl dX3_forceAt_78 ?_
      exact r_iret E dX3_forceAt_79 (pZ_of hs)
    · intro i hi ih s z hs hz
      refine r_iload_n C rfl dX3_forceAt_45 ?_
      refine r_aload_n C rfl dX3_forceAt_46 ?_
      refine r_geti C dX3_forceAt_47 fl_X3_47 ly_8 rfl ?_
      refine r_icmp_ge C (tgt := 78) dX3_forceAt_50 rfl (by first | assumption | exact rgm (by omega) (by omega)) (by first | assumption | exact rgm (by omega) (by omega)) (fun h50 => absurd h50 (by omega)) (fun h50 => ?_)
      refine r_iload_n C rfl dX3_forceAt_53 ?_
      refine r_aload_n C rfl dX3_forceAt_54 ?_
      refine r_getr C dX3_forceAt_55 fl_X3_24 ly_8 rfl ?_
      refine r_iload_n C rfl dX3_forceAt_58 ?_
      refine r_iald C dX3_forceAt_59 ly_13 hz (by omega) ?_
      refine r_aload_n C rfl dX3_forceAt_60 ?_
      refine r_getr C dX3_forceAt_61 fl_X3_27 ly_8 rfl ?_
      refine r_iload_n C rfl dX3_forceAt_64 ?_
      refine r_iald C dX3_forceAt_65 ly_14 hz (by omega) ?_
      refine r_iload_n C rfl dX3_forceAt_66 ?_
      refine r_cSz C dX3_forceAt_67 sw_X3_73 (c_reach M (hdr i (by omega)) (hdp i (by omega)) hq) (by decide) rfl rfl (Nat.le_of_ble_eq_true rfl) ?_
      refine r_iadd C dX3_forceAt_70 ?_
      refine r_istore_n C dX3_forceAt_71 2 rfl (by decide) rfl ?_
      dsimp only [List.set, Nat.reduceAdd]
      refine r_iinc C dX3_forceAt_72 rfl (by decide) rfl ?_
      dsimp only [List.set, Nat.reduceAdd]
      refine r_goto C (tgt := 45) dX3_forceAt_75 rfl ?_
      exact ih _ _ (by simp only [sm]; omega) (by omega)
  have lp1 : ∀ i, i ≤ 4 → ∀ s z : Int, s = sm (fun i => rch (M.1 9 i) (M.1 10 i) q) i → z = i → G 4 [.ref 8, .int (zI q), .int (zI s), .int (zI z)] [] M := by
    refine lpN _ ?_ ?_
    · intro s z hs hz
      refine r_iload_n C rfl dX3_forceAt_4 ?_
      refine r_iconst C dX3_forceAt_5 ?_
      refine r_icmp_ge C (tgt := 43) dX3_forceAt_6 rfl (by first | assumption | exact rgm (by omega) (by omega)) (by first | assumption | exact rgm (by omega) (by omega)) (fun h6 => ?_) (fun h6 => absurd h6 (by omega))
      refine r_iconst C dX3_forceAt_43 ?_
      refine r_istore_n C dX3_forceAt_44 3 rfl (by decide) rfl ?_
      dsimp only [List.set, Nat.reduceAdd]
      exact lp2 0 (Nat.zero_le _) _ _ (by rw [hs]; simp [sm, fr]) rfl
    · intro i hi ih s z hs hz
      have hgi := hg i hi
      refine r_iload_n C rfl dX3_forceAt_4 ?_
      refine r_iconst C dX3_forceAt_5 ?_
      refine r_icmp_ge C (tgt := 43) dX3_forceAt_6 rfl (by first | assumption | exact rgm (by omega) (by omega)) (by first | assumption | exact rgm (by omega) (by omega)) (fun h6 => absurd h6 (by omega)) (fun h6 => ?_)
      refine r_aload_n C rfl dX3_forceAt_9 ?_
      refine r_getr C dX3_forceAt_10 fl_X3_9 ly_8 rfl ?_
      refine r_iload_n C rfl dX3_forceAt_13 ?_
      refine r_iald C dX3_forceAt_14 ly_9 hz (by omega) ?_
      refine r_if_le C (tgt := 37) dX3_forceAt_15 rfl (by first | assumption | exact rgm (by omega) (by omega)) (fun h15 => ?_) (fun h15 => ?_)
      · refine r_iinc C dX3_forceAt_37 rfl (by decide) rfl ?_
        dsimp only [List.set, Nat.reduceAdd]
        refine r_goto C (tgt := 4) dX3_forceAt_40 rfl ?_
        exact ih _ _ (by simp only [sm]; rw [show M.1 9 i = 0 by omega, rch_0]; omega) (by omega)
      · refine r_iload_n C rfl dX3_forceAt_18 ?_
        refine r_aload_n C rfl dX3_forceAt_19 ?_
        refine r_getr C dX3_forceAt_20 fl_X3_9 ly_8 rfl ?_
        refine r_iload_n C rfl dX3_forceAt_23 ?_
        refine r_iald C dX3_forceAt_24 ly_9 hz (by omega) ?_
        refine r_aload_n C rfl dX3_forceAt_25 ?_
        refine r_getr C dX3_forceAt_26 fl_X3_15 ly_8 rfl ?_
        refine r_iload_n C rfl dX3_forceAt_29 ?_
        refine r_iald C dX3_forceAt_30 ly_10 hz (by omega) ?_
        refine r_iload_n C rfl dX3_forceAt_31 ?_
        refine r_cSz C dX3_forceAt_32 sw_X3_73 (c_reach M (hg i hi) (hp i hi) hq) (by decide) rfl rfl (Nat.le_of_ble_eq_true rfl) ?_
        refine r_iadd C dX3_forceAt_35 ?_
        refine r_istore_n C dX3_forceAt_36 2 rfl (by decide) rfl ?_
        dsimp only [List.set, Nat.reduceAdd]
        refine r_iinc C dX3_forceAt_37 rfl (by decide) rfl ?_
        dsimp only [List.set, Nat.reduceAdd]
        refine r_goto C (tgt := 4) dX3_forceAt_40 rfl ?_
        exact ih _ _ (by simp only [sm]; omega) (by omega)
  refine r_iconst C dX3_forceAt_0 ?_
  refine r_istore_n C dX3_forceAt_1 2 rfl (by decide) rfl ?_
  dsimp only [List.set, Nat.reduceAdd]
  refine r_iconst C dX3_forceAt_2 ?_
  refine r_istore_n C dX3_forceAt_3 3 rfl (by decide) rfl ?_
  dsimp only [List.set, Nat.reduceAdd]
  exact lp1 0 (by omega) _ _ rfl rfl
set_option maxRecDepth 4000 in
theorem c_forceAt30 (M : Mm_) {q : Int} (hq : 0 ≤ q ∧ q ≤ 5) (hg : ∀ i, i < 4 → 0 ≤ M.1 31 i ∧ M.1 31 i ≤ 99) (hp : ∀ i, i < 4 → 0 ≤ M.1 32 i ∧ M.1 32 i ≤ 5) (hdc : 0 ≤ M.1 30 7 ∧ M.1 30 7 ≤ 4) (hdr : ∀ i, i < 4 → 0 ≤ M.1 35 i ∧ M.1 35 i ≤ 99) (hdp : ∀ i, i < 4 → 0 ≤ M.1 36 i ∧ M.1 36 i ≤ 5) : Cn 1 kX3_forceAt [.ref 30, .int (zI q)] M (pZ (fr 4 (M.1 31) (M.1 32) q + fr (M.1 30 7).toNat (M.1 35) (M.1 36) q) M) := by
  refine Cn.of rfl (Nat.le_of_ble_eq_true rfl) (fun G C E => ?_)
  show G 0 [.ref 30, .int (zI q), .null, .null] [] M
  have b1 : 0 ≤ fr 4 (M.1 31) (M.1 32) q ∧ fr 4 (M.1 31) (M.1 32) q ≤ 99 * 4 := sm_le (n := 4) (fun i hi => rch_b (hg i hi).1 (hg i hi).2)
  have lp2 : ∀ i, i ≤ (M.1 30 7).toNat → ∀ s z : Int, s = fr 4 (M.1 31) (M.1 32) q + sm (fun i => rch (M.1 35 i) (M.1 36 i) q) i → z = i → G 45 [.ref 30, .int (zI q), .int (zI s), .int (zI z)] [] M := by
    refine lpN _ ?_ ?_
    · intro s z hs hz
      refine r_iload_n C rfl dX3_forceAt_45 ?_
      refine r_aload_n C rfl dX3_forceAt_46 ?_
      refine r_geti C dX3_forceAt_47 fl_X3_47 ly_30 rfl ?_
      refine r_icmp_ge C (tgt := 78) dX3_forceAt_50 rfl (by first | assumption | exact rgm (by omega) (by omega)) (by first | assumption | exact rgm (by omega) (by omega)) (fun h50 => ?_) (fun h50 => absurd h50 (by omega))
      refine r_iload_n C rfl dX3_forceAt_78 ?_
      exact r_iret E dX3_forceAt_79 (pZ_of hs)
    · intro i hi ih s z hs hz
      refine r_iload_n C rfl dX3_forceAt_45 ?_
      refine r_aload_n C rfl dX3_forceAt_46 ?_
      refine r_geti C dX3_forceAt_47 fl_X3_47 ly_30 rfl ?_
      refine r_icmp_ge C (tgt := 78) dX3_forceAt_50 rfl (by first | assumption | exact rgm (by omega) (by omega)) (by first | assumption | exact rgm (by omega) (by omega)) (fun h50 => absurd h50 (by omega)) (fun h50 => ?_)
      refine r_iload_n C rfl dX3_forceAt_53 ?_
      refine r_aload_n C rfl dX3_forceAt_54 ?_
      refine r_getr C dX3_forceAt_55 fl_X3_24 ly_30 rfl ?_
      refine r_iload_n C rfl dX3_forceAt_58 ?_
      refine r_iald C dX3_forceAt_59 ly_35 hz (by omega) ?_
      refine r_aload_n C rfl dX3_forceAt_60 ?_
      refine r_getr C dX3_forceAt_61 fl_X3_27 ly_30 rfl ?_
      refine r_iload_n C rfl dX3_forceAt_64 ?_
      refine r_iald C dX3_forceAt_65 ly_36 hz (by omega) ?_
      refine r_iload_n C rfl dX3_forceAt_66 ?_
      refine r_cSz C dX3_forceAt_67 sw_X3_73 (c_reach M (hdr i (by omega)) (hdp i (by omega)) hq) (by decide) rfl rfl (Nat.le_of_ble_eq_true rfl) ?_
      refine r_iadd C dX3_forceAt_70 ?_
      refine r_istore_n C dX3_forceAt_71 2 rfl (by decide) rfl ?_
      dsimp only [List.set, Nat.reduceAdd]
      refine r_iinc C dX3_forceAt_72 rfl (by decide) rfl ?_
      dsimp only [List.set, Nat.reduceAdd]
      refine r_goto C (tgt := 45) dX3_forceAt_75 rfl ?_
      exact ih _ _ (by simp only [sm]; omega) (by omega)
  have lp1 : ∀ i, i ≤ 4 → ∀ s z : Int, s = sm (fun i => rch (M.1 31 i) (M.1 32 i) q) i → z = i → G 4 [.ref 30, .int (zI q), .int (zI s), .int (zI z)] [] M := by
    refine lpN _ ?_ ?_
    · intro s z hs hz
      refine r_iload_n C rfl dX3_forceAt_4 ?_
      refine r_iconst C dX3_forceAt_5 ?_
      refine r_icmp_ge C (tgt := 43) dX3_forceAt_6 rfl (by first | assumption | exact rgm (by omega) (by omega)) (by first | assumption | exact rgm (by omega) (by omega)) (fun h6 => ?_) (fun h6 => absurd h6 (by omega))
      refine r_iconst C dX3_forceAt_43 ?_
      refine r_istore_n C dX3_forceAt_44 3 rfl (by decide) rfl ?_
      dsimp only [List.set, Nat.reduceAdd]
      exact lp2 0 (Nat.zero_le _) _ _ (by rw [hs]; simp [sm, fr]) rfl
    · intro i hi ih s z hs hz
      have hgi := hg i hi
      refine r_iload_n C rfl dX3_forceAt_4 ?_
      refine r_iconst C dX3_forceAt_5 ?_
      refine r_icmp_ge C (tgt := 43) dX3_forceAt_6 rfl (by first | assumption | exact rgm (by omega) (by omega)) (by first | assumption | exact rgm (by omega) (by omega)) (fun h6 => absurd h6 (by omega)) (fun h6 => ?_)
      refine r_aload_n C rfl dX3_forceAt_9 ?_
      refine r_getr C dX3_forceAt_10 fl_X3_9 ly_30 rfl ?_
      refine r_iload_n C rfl dX3_forceAt_13 ?_
      refine r_iald C dX3_forceAt_14 ly_31 hz (by omega) ?_
      refine r_if_le C (tgt := 37) dX3_forceAt_15 rfl (by first | assumption | exact rgm (by omega) (by omega)) (fun h15 => ?_) (fun h15 => ?_)
      · refine r_iinc C dX3_forceAt_37 rfl (by decide) rfl ?_
        dsimp only [List.set, Nat.reduceAdd]
        refine r_goto C (tgt := 4) dX3_forceAt_40 rfl ?_
        exact ih _ _ (by simp only [sm]; rw [show M.1 31 i = 0 by omega, rch_0]; omega) (by omega)
      · refine r_iload_n C rfl dX3_forceAt_18 ?_
        refine r_aload_n C rfl dX3_forceAt_19 ?_
        refine r_getr C dX3_forceAt_20 fl_X3_9 ly_30 rfl ?_
        refine r_iload_n C rfl dX3_forceAt_23 ?_
        refine r_iald C dX3_forceAt_24 ly_31 hz (by omega) ?_
        refine r_aload_n C rfl dX3_forceAt_25 ?_
        refine r_getr C dX3_forceAt_26 fl_X3_15 ly_30 rfl ?_
        refine r_iload_n C rfl dX3_forceAt_29 ?_
        refine r_iald C dX3_forceAt_30 ly_32 hz (by omega) ?_
        refine r_iload_n C rfl dX3_forceAt_31 ?_
        refine r_cSz C dX3_forceAt_32 sw_X3_73 (c_reach M (hg i hi) (hp i hi) hq) (by decide) rfl rfl (Nat.le_of_ble_eq_true rfl) ?_
        refine r_iadd C dX3_forceAt_35 ?_
        refine r_istore_n C dX3_forceAt_36 2 rfl (by decide) rfl ?_
        dsimp only [List.set, Nat.reduceAdd]
        refine r_iinc C dX3_forceAt_37 rfl (by decide) rfl ?_
        dsimp only [List.set, Nat.reduceAdd]
        refine r_goto C (tgt := 4) dX3_forceAt_40 rfl ?_
        exact ih _ _ (by simp only [sm]; omega) (by omega)
  refine r_iconst C dX3_forceAt_0 ?_
  refine r_istore_n C dX3_forceAt_1 2 rfl (by decide) rfl ?_
  dsimp only [List.set, Nat.reduceAdd]
  refine r_iconst C dX3_forceAt_2 ?_
  refine r_istore_n C dX3_forceAt_3 3 rfl (by decide) rfl ?_
  dsimp only [List.set, Nat.reduceAdd]
  exact lp1 0 (by omega) _ _ rfl rfl
end
