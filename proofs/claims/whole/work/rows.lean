section
-- ===== PART A: goes FIRST, ahead of the names: the tables' words, and 'selects' of the private methods out of them =====
/-- a private method of a class that the tables say can be made, by its rows of tables_1 -/
def lw_okq (q : MethodName × Nat) : Prop := (q.1.cls ≠ "java/lang/invoke/MethodHandle" ∧ q.1.cls ≠ "java/lang/invoke/VarHandle") ∧ Cond.instantiable q.1.cls q.2 ∈ tables_1 ∧ Cond.privateMethod q.1 ∈ tables_1 ∧ Cond.instanceMethod q.1 ∈ tables_1
theorem lw_p0 : lw_okq (⟨"DuneBench$Dunes", "doubtAbove", "(I)V"⟩, 16) := ⟨⟨by decide +kernel, by decide +kernel⟩, List.mem_of_getElem? (i := 60) (by decide +kernel), List.mem_of_getElem? (i := 277) (by decide +kernel), List.mem_of_getElem? (i := 278) (by decide +kernel)⟩
theorem lw_p1 : lw_okq (⟨"DuneBench$Dunes", "settle", "()V"⟩, 16) := ⟨⟨by decide +kernel, by decide +kernel⟩, List.mem_of_getElem? (i := 60) (by decide +kernel), List.mem_of_getElem? (i := 289) (by decide +kernel), List.mem_of_getElem? (i := 290) (by decide +kernel)⟩
theorem lw_p2 : lw_okq (⟨"DuneBench$Dunes", "lowestBeside", "(I)I"⟩, 16) := ⟨⟨by decide +kernel, by decide +kernel⟩, List.mem_of_getElem? (i := 60) (by decide +kernel), List.mem_of_getElem? (i := 304) (by decide +kernel), List.mem_of_getElem? (i := 305) (by decide +kernel)⟩
theorem lw_p3 : lw_okq (⟨"DuneBench$WindTape", "afterBlanks", "(I)I"⟩, 5) := ⟨⟨by decide +kernel, by decide +kernel⟩, List.mem_of_getElem? (i := 164) (by decide +kernel), List.mem_of_getElem? (i := 359) (by decide +kernel), List.mem_of_getElem? (i := 360) (by decide +kernel)⟩
theorem lw_p4 : lw_okq (⟨"DuneBench$WindTape", "byteAt", "(I)I"⟩, 5) := ⟨⟨by decide +kernel, by decide +kernel⟩, List.mem_of_getElem? (i := 164) (by decide +kernel), List.mem_of_getElem? (i := 363) (by decide +kernel), List.mem_of_getElem? (i := 364) (by decide +kernel)⟩
theorem lw_p5 : lw_okq (⟨"DuneBench$WindTape", "tokenEnd", "(I)I"⟩, 5) := ⟨⟨by decide +kernel, by decide +kernel⟩, List.mem_of_getElem? (i := 164) (by decide +kernel), List.mem_of_getElem? (i := 367) (by decide +kernel), List.mem_of_getElem? (i := 368) (by decide +kernel)⟩
theorem lw_p6 : lw_okq (⟨"DuneBench$WindTape", "faultOf", "(III)I"⟩, 5) := ⟨⟨by decide +kernel, by decide +kernel⟩, List.mem_of_getElem? (i := 164) (by decide +kernel), List.mem_of_getElem? (i := 378) (by decide +kernel), List.mem_of_getElem? (i := 379) (by decide +kernel)⟩
theorem lw_p7 : lw_okq (⟨"DuneBench$WindTape", "windOf", "(II)I"⟩, 5) := ⟨⟨by decide +kernel, by decide +kernel⟩, List.mem_of_getElem? (i := 164) (by decide +kernel), List.mem_of_getElem? (i := 382) (by decide +kernel), List.mem_of_getElem? (i := 383) (by decide +kernel)⟩
theorem lw_p8 : lw_okq (⟨"DuneBench$WindTape", "isWord", "(Ljava/lang/String;II)Z"⟩, 5) := ⟨⟨by decide +kernel, by decide +kernel⟩, List.mem_of_getElem? (i := 164) (by decide +kernel), List.mem_of_getElem? (i := 394) (by decide +kernel), List.mem_of_getElem? (i := 395) (by decide +kernel)⟩
theorem lw_p9 : lw_okq (⟨"DuneBench$WindTape", "numberOf", "(II)I"⟩, 5) := ⟨⟨by decide +kernel, by decide +kernel⟩, List.mem_of_getElem? (i := 164) (by decide +kernel), List.mem_of_getElem? (i := 450) (by decide +kernel), List.mem_of_getElem? (i := 451) (by decide +kernel)⟩
theorem lw_p10 : lw_okq (⟨"DuneBench$WindTape", "tell", "(II)Z"⟩, 5) := ⟨⟨by decide +kernel, by decide +kernel⟩, List.mem_of_getElem? (i := 164) (by decide +kernel), List.mem_of_getElem? (i := 455) (by decide +kernel), List.mem_of_getElem? (i := 456) (by decide +kernel)⟩
theorem lw_p11 : lw_okq (⟨"DuneBench$Dunes", "bringSupply", "()V"⟩, 16) := ⟨⟨by decide +kernel, by decide +kernel⟩, List.mem_of_getElem? (i := 60) (by decide +kernel), List.mem_of_getElem? (i := 490) (by decide +kernel), List.mem_of_getElem? (i := 491) (by decide +kernel)⟩
theorem lw_p12 : lw_okq (⟨"DuneBench$Dunes", "draw", "(I)I"⟩, 16) := ⟨⟨by decide +kernel, by decide +kernel⟩, List.mem_of_getElem? (i := 60) (by decide +kernel), List.mem_of_getElem? (i := 494) (by decide +kernel), List.mem_of_getElem? (i := 495) (by decide +kernel)⟩
theorem lw_p13 : lw_okq (⟨"DuneBench$Dunes", "raise", "(I)V"⟩, 16) := ⟨⟨by decide +kernel, by decide +kernel⟩, List.mem_of_getElem? (i := 60) (by decide +kernel), List.mem_of_getElem? (i := 499) (by decide +kernel), List.mem_of_getElem? (i := 500) (by decide +kernel)⟩
theorem lw_p14 : lw_okq (⟨"DuneBench$Dunes", "blow", "(I)V"⟩, 16) := ⟨⟨by decide +kernel, by decide +kernel⟩, List.mem_of_getElem? (i := 60) (by decide +kernel), List.mem_of_getElem? (i := 503) (by decide +kernel), List.mem_of_getElem? (i := 504) (by decide +kernel)⟩
theorem lw_p15 : lw_okq (⟨"DuneBench$Dunes", "isLifted", "(II)Z"⟩, 16) := ⟨⟨by decide +kernel, by decide +kernel⟩, List.mem_of_getElem? (i := 60) (by decide +kernel), List.mem_of_getElem? (i := 507) (by decide +kernel), List.mem_of_getElem? (i := 508) (by decide +kernel)⟩
def lw_privs_1 : List (MethodName × Nat) := [(⟨"DuneBench$Dunes", "doubtAbove", "(I)V"⟩, 16), (⟨"DuneBench$Dunes", "settle", "()V"⟩, 16), (⟨"DuneBench$Dunes", "lowestBeside", "(I)I"⟩, 16), (⟨"DuneBench$WindTape", "afterBlanks", "(I)I"⟩, 5), (⟨"DuneBench$WindTape", "byteAt", "(I)I"⟩, 5), (⟨"DuneBench$WindTape", "tokenEnd", "(I)I"⟩, 5), (⟨"DuneBench$WindTape", "faultOf", "(III)I"⟩, 5), (⟨"DuneBench$WindTape", "windOf", "(II)I"⟩, 5), (⟨"DuneBench$WindTape", "isWord", "(Ljava/lang/String;II)Z"⟩, 5), (⟨"DuneBench$WindTape", "numberOf", "(II)I"⟩, 5), (⟨"DuneBench$WindTape", "tell", "(II)Z"⟩, 5), (⟨"DuneBench$Dunes", "bringSupply", "()V"⟩, 16), (⟨"DuneBench$Dunes", "draw", "(I)I"⟩, 16), (⟨"DuneBench$Dunes", "raise", "(I)V"⟩, 16), (⟨"DuneBench$Dunes", "blow", "(I)V"⟩, 16), (⟨"DuneBench$Dunes", "isLifted", "(II)Z"⟩, 16)]
theorem lw_r1 : ∀ q ∈ lw_privs_1, lw_okq q := List.forall_mem_cons.mpr ⟨lw_p0, List.forall_mem_cons.mpr ⟨lw_p1, List.forall_mem_cons.mpr ⟨lw_p2, List.forall_mem_cons.mpr ⟨lw_p3, List.forall_mem_cons.mpr ⟨lw_p4, List.forall_mem_cons.mpr ⟨lw_p5, List.forall_mem_cons.mpr ⟨lw_p6, List.forall_mem_cons.mpr ⟨lw_p7, List.forall_mem_cons.mpr ⟨lw_p8, List.forall_mem_cons.mpr ⟨lw_p9, List.forall_mem_cons.mpr ⟨lw_p10, List.forall_mem_cons.mpr ⟨lw_p11, List.forall_mem_cons.mpr ⟨lw_p12, List.forall_mem_cons.mpr ⟨lw_p13, List.forall_mem_cons.mpr ⟨lw_p14, List.forall_mem_cons.mpr ⟨lw_p15, fun _ h => absurd h List.not_mem_nil⟩⟩⟩⟩⟩⟩⟩⟩⟩⟩⟩⟩⟩⟩⟩⟩
theorem lw_p16 : lw_okq (⟨"DuneBench$Dunes", "isInShadow", "(II)Z"⟩, 16) := ⟨⟨by decide +kernel, by decide +kernel⟩, List.mem_of_getElem? (i := 60) (by decide +kernel), List.mem_of_getElem? (i := 511) (by decide +kernel), List.mem_of_getElem? (i := 512) (by decide +kernel)⟩
theorem lw_p17 : lw_okq (⟨"DuneBench$Dunes", "landing", "(II)I"⟩, 16) := ⟨⟨by decide +kernel, by decide +kernel⟩, List.mem_of_getElem? (i := 60) (by decide +kernel), List.mem_of_getElem? (i := 520) (by decide +kernel), List.mem_of_getElem? (i := 521) (by decide +kernel)⟩
theorem lw_p18 : lw_okq (⟨"DuneBench$Dunes", "afterHop", "(II)I"⟩, 16) := ⟨⟨by decide +kernel, by decide +kernel⟩, List.mem_of_getElem? (i := 60) (by decide +kernel), List.mem_of_getElem? (i := 524) (by decide +kernel), List.mem_of_getElem? (i := 525) (by decide +kernel)⟩
theorem lw_p19 : lw_okq (⟨"DuneBench$Dunes", "isLaid", "(II)Z"⟩, 16) := ⟨⟨by decide +kernel, by decide +kernel⟩, List.mem_of_getElem? (i := 60) (by decide +kernel), List.mem_of_getElem? (i := 528) (by decide +kernel), List.mem_of_getElem? (i := 529) (by decide +kernel)⟩
theorem lw_p20 : lw_okq (⟨"DuneBench$Dunes", "lose", "(I)V"⟩, 16) := ⟨⟨by decide +kernel, by decide +kernel⟩, List.mem_of_getElem? (i := 60) (by decide +kernel), List.mem_of_getElem? (i := 532) (by decide +kernel), List.mem_of_getElem? (i := 533) (by decide +kernel)⟩
theorem lw_p21 : lw_okq (⟨"DuneBench$Dunes", "reachHouses", "()V"⟩, 16) := ⟨⟨by decide +kernel, by decide +kernel⟩, List.mem_of_getElem? (i := 60) (by decide +kernel), List.mem_of_getElem? (i := 540) (by decide +kernel), List.mem_of_getElem? (i := 541) (by decide +kernel)⟩
theorem lw_p22 : lw_okq (⟨"DuneBench$Dunes", "passSeason", "()V"⟩, 16) := ⟨⟨by decide +kernel, by decide +kernel⟩, List.mem_of_getElem? (i := 60) (by decide +kernel), List.mem_of_getElem? (i := 544) (by decide +kernel), List.mem_of_getElem? (i := 545) (by decide +kernel)⟩
theorem lw_p23 : lw_okq (⟨"DuneBench", "chooseWorks", "(II)I"⟩, 8) := ⟨⟨by decide +kernel, by decide +kernel⟩, List.mem_of_getElem? (i := 18) (by decide +kernel), List.mem_of_getElem? (i := 585) (by decide +kernel), List.mem_of_getElem? (i := 586) (by decide +kernel)⟩
theorem lw_p24 : lw_okq (⟨"DuneBenchModel", "keeps", "(I)V"⟩, 50) := ⟨⟨by decide +kernel, by decide +kernel⟩, List.mem_of_getElem? (i := 648) (by decide +kernel), List.mem_of_getElem? (i := 654) (by decide +kernel), List.mem_of_getElem? (i := 655) (by decide +kernel)⟩
theorem lw_p25 : lw_okq (⟨"DuneBenchModel", "isCell", "(I)Z"⟩, 50) := ⟨⟨by decide +kernel, by decide +kernel⟩, List.mem_of_getElem? (i := 648) (by decide +kernel), List.mem_of_getElem? (i := 814) (by decide +kernel), List.mem_of_getElem? (i := 815) (by decide +kernel)⟩
theorem lw_p26 : lw_okq (⟨"DuneBenchModel", "settledAt", "(I)V"⟩, 50) := ⟨⟨by decide +kernel, by decide +kernel⟩, List.mem_of_getElem? (i := 648) (by decide +kernel), List.mem_of_getElem? (i := 821) (by decide +kernel), List.mem_of_getElem? (i := 822) (by decide +kernel)⟩
theorem lw_p27 : lw_okq (⟨"DuneBenchModel", "touches", "(I)V"⟩, 50) := ⟨⟨by decide +kernel, by decide +kernel⟩, List.mem_of_getElem? (i := 648) (by decide +kernel), List.mem_of_getElem? (i := 825) (by decide +kernel), List.mem_of_getElem? (i := 826) (by decide +kernel)⟩
theorem lw_p28 : lw_okq (⟨"DuneBenchModel", "near", "(II)I"⟩, 50) := ⟨⟨by decide +kernel, by decide +kernel⟩, List.mem_of_getElem? (i := 648) (by decide +kernel), List.mem_of_getElem? (i := 829) (by decide +kernel), List.mem_of_getElem? (i := 830) (by decide +kernel)⟩
theorem lw_p29 : lw_okq (⟨"DuneBenchModel", "settles", "()V"⟩, 50) := ⟨⟨by decide +kernel, by decide +kernel⟩, List.mem_of_getElem? (i := 648) (by decide +kernel), List.mem_of_getElem? (i := 833) (by decide +kernel), List.mem_of_getElem? (i := 834) (by decide +kernel)⟩
theorem lw_p30 : lw_okq (⟨"DuneBenchModel", "isSteep", "(I)Z"⟩, 50) := ⟨⟨by decide +kernel, by decide +kernel⟩, List.mem_of_getElem? (i := 648) (by decide +kernel), List.mem_of_getElem? (i := 837) (by decide +kernel), List.mem_of_getElem? (i := 838) (by decide +kernel)⟩
theorem lw_p31 : lw_okq (⟨"DuneBenchModel", "settledAll", "()V"⟩, 50) := ⟨⟨by decide +kernel, by decide +kernel⟩, List.mem_of_getElem? (i := 648) (by decide +kernel), List.mem_of_getElem? (i := 849) (by decide +kernel), List.mem_of_getElem? (i := 850) (by decide +kernel)⟩
def lw_privs_2 : List (MethodName × Nat) := [(⟨"DuneBench$Dunes", "isInShadow", "(II)Z"⟩, 16), (⟨"DuneBench$Dunes", "landing", "(II)I"⟩, 16), (⟨"DuneBench$Dunes", "afterHop", "(II)I"⟩, 16), (⟨"DuneBench$Dunes", "isLaid", "(II)Z"⟩, 16), (⟨"DuneBench$Dunes", "lose", "(I)V"⟩, 16), (⟨"DuneBench$Dunes", "reachHouses", "()V"⟩, 16), (⟨"DuneBench$Dunes", "passSeason", "()V"⟩, 16), (⟨"DuneBench", "chooseWorks", "(II)I"⟩, 8), (⟨"DuneBenchModel", "keeps", "(I)V"⟩, 50), (⟨"DuneBenchModel", "isCell", "(I)Z"⟩, 50), (⟨"DuneBenchModel", "settledAt", "(I)V"⟩, 50), (⟨"DuneBenchModel", "touches", "(I)V"⟩, 50), (⟨"DuneBenchModel", "near", "(II)I"⟩, 50), (⟨"DuneBenchModel", "settles", "()V"⟩, 50), (⟨"DuneBenchModel", "isSteep", "(I)Z"⟩, 50), (⟨"DuneBenchModel", "settledAll", "()V"⟩, 50)]
theorem lw_r2 : ∀ q ∈ lw_privs_2, lw_okq q := List.forall_mem_cons.mpr ⟨lw_p16, List.forall_mem_cons.mpr ⟨lw_p17, List.forall_mem_cons.mpr ⟨lw_p18, List.forall_mem_cons.mpr ⟨lw_p19, List.forall_mem_cons.mpr ⟨lw_p20, List.forall_mem_cons.mpr ⟨lw_p21, List.forall_mem_cons.mpr ⟨lw_p22, List.forall_mem_cons.mpr ⟨lw_p23, List.forall_mem_cons.mpr ⟨lw_p24, List.forall_mem_cons.mpr ⟨lw_p25, List.forall_mem_cons.mpr ⟨lw_p26, List.forall_mem_cons.mpr ⟨lw_p27, List.forall_mem_cons.mpr ⟨lw_p28, List.forall_mem_cons.mpr ⟨lw_p29, List.forall_mem_cons.mpr ⟨lw_p30, List.forall_mem_cons.mpr ⟨lw_p31, fun _ h => absurd h List.not_mem_nil⟩⟩⟩⟩⟩⟩⟩⟩⟩⟩⟩⟩⟩⟩⟩⟩
theorem lw_p32 : lw_okq (⟨"DuneBenchModel", "put", "(I)V"⟩, 50) := ⟨⟨by decide +kernel, by decide +kernel⟩, List.mem_of_getElem? (i := 648) (by decide +kernel), List.mem_of_getElem? (i := 861) (by decide +kernel), List.mem_of_getElem? (i := 862) (by decide +kernel)⟩
theorem lw_p33 : lw_okq (⟨"DuneBenchModel", "next", "(I)V"⟩, 50) := ⟨⟨by decide +kernel, by decide +kernel⟩, List.mem_of_getElem? (i := 648) (by decide +kernel), List.mem_of_getElem? (i := 873) (by decide +kernel), List.mem_of_getElem? (i := 874) (by decide +kernel)⟩
theorem lw_p34 : lw_okq (⟨"DuneBenchModel", "errs", "(I)V"⟩, 50) := ⟨⟨by decide +kernel, by decide +kernel⟩, List.mem_of_getElem? (i := 648) (by decide +kernel), List.mem_of_getElem? (i := 890) (by decide +kernel), List.mem_of_getElem? (i := 891) (by decide +kernel)⟩
theorem lw_p35 : lw_okq (⟨"DuneBenchModel", "goes", "()V"⟩, 50) := ⟨⟨by decide +kernel, by decide +kernel⟩, List.mem_of_getElem? (i := 648) (by decide +kernel), List.mem_of_getElem? (i := 902) (by decide +kernel), List.mem_of_getElem? (i := 903) (by decide +kernel)⟩
theorem lw_p36 : lw_okq (⟨"DuneBenchModel", "windNow", "()I"⟩, 50) := ⟨⟨by decide +kernel, by decide +kernel⟩, List.mem_of_getElem? (i := 648) (by decide +kernel), List.mem_of_getElem? (i := 906) (by decide +kernel), List.mem_of_getElem? (i := 907) (by decide +kernel)⟩
theorem lw_p37 : lw_okq (⟨"DuneBenchModel", "draw", "(I)I"⟩, 50) := ⟨⟨by decide +kernel, by decide +kernel⟩, List.mem_of_getElem? (i := 648) (by decide +kernel), List.mem_of_getElem? (i := 910) (by decide +kernel), List.mem_of_getElem? (i := 911) (by decide +kernel)⟩
theorem lw_p38 : lw_okq (⟨"DuneBenchModel", "lifts", "(I)V"⟩, 50) := ⟨⟨by decide +kernel, by decide +kernel⟩, List.mem_of_getElem? (i := 648) (by decide +kernel), List.mem_of_getElem? (i := 915) (by decide +kernel), List.mem_of_getElem? (i := 916) (by decide +kernel)⟩
theorem lw_p39 : lw_okq (⟨"DuneBenchModel", "isShadow", "(II)Z"⟩, 50) := ⟨⟨by decide +kernel, by decide +kernel⟩, List.mem_of_getElem? (i := 648) (by decide +kernel), List.mem_of_getElem? (i := 919) (by decide +kernel), List.mem_of_getElem? (i := 920) (by decide +kernel)⟩
theorem lw_p40 : lw_okq (⟨"DuneBenchModel", "ahead", "(III)I"⟩, 50) := ⟨⟨by decide +kernel, by decide +kernel⟩, List.mem_of_getElem? (i := 648) (by decide +kernel), List.mem_of_getElem? (i := 923) (by decide +kernel), List.mem_of_getElem? (i := 924) (by decide +kernel)⟩
theorem lw_p41 : lw_okq (⟨"DuneBenchModel", "windGoesOn", "()V"⟩, 50) := ⟨⟨by decide +kernel, by decide +kernel⟩, List.mem_of_getElem? (i := 648) (by decide +kernel), List.mem_of_getElem? (i := 927) (by decide +kernel), List.mem_of_getElem? (i := 928) (by decide +kernel)⟩
theorem lw_p42 : lw_okq (⟨"DuneBenchModel", "season", "()V"⟩, 50) := ⟨⟨by decide +kernel, by decide +kernel⟩, List.mem_of_getElem? (i := 648) (by decide +kernel), List.mem_of_getElem? (i := 931) (by decide +kernel), List.mem_of_getElem? (i := 932) (by decide +kernel)⟩
theorem lw_p43 : lw_okq (⟨"DuneBenchModel", "seeks", "(II)Z"⟩, 50) := ⟨⟨by decide +kernel, by decide +kernel⟩, List.mem_of_getElem? (i := 648) (by decide +kernel), List.mem_of_getElem? (i := 958) (by decide +kernel), List.mem_of_getElem? (i := 959) (by decide +kernel)⟩
theorem lw_p44 : lw_okq (⟨"DuneBenchModel", "does", "(I)V"⟩, 50) := ⟨⟨by decide +kernel, by decide +kernel⟩, List.mem_of_getElem? (i := 648) (by decide +kernel), List.mem_of_getElem? (i := 962) (by decide +kernel), List.mem_of_getElem? (i := 963) (by decide +kernel)⟩
theorem lw_p45 : lw_okq (⟨"DuneBenchModel", "comesBack", "(I)V"⟩, 50) := ⟨⟨by decide +kernel, by decide +kernel⟩, List.mem_of_getElem? (i := 648) (by decide +kernel), List.mem_of_getElem? (i := 966) (by decide +kernel), List.mem_of_getElem? (i := 967) (by decide +kernel)⟩
theorem lw_p46 : lw_okq (⟨"DuneBenchModel", "areSeen", "()Z"⟩, 50) := ⟨⟨by decide +kernel, by decide +kernel⟩, List.mem_of_getElem? (i := 648) (by decide +kernel), List.mem_of_getElem? (i := 986) (by decide +kernel), List.mem_of_getElem? (i := 987) (by decide +kernel)⟩
def lw_privs_3 : List (MethodName × Nat) := [(⟨"DuneBenchModel", "put", "(I)V"⟩, 50), (⟨"DuneBenchModel", "next", "(I)V"⟩, 50), (⟨"DuneBenchModel", "errs", "(I)V"⟩, 50), (⟨"DuneBenchModel", "goes", "()V"⟩, 50), (⟨"DuneBenchModel", "windNow", "()I"⟩, 50), (⟨"DuneBenchModel", "draw", "(I)I"⟩, 50), (⟨"DuneBenchModel", "lifts", "(I)V"⟩, 50), (⟨"DuneBenchModel", "isShadow", "(II)Z"⟩, 50), (⟨"DuneBenchModel", "ahead", "(III)I"⟩, 50), (⟨"DuneBenchModel", "windGoesOn", "()V"⟩, 50), (⟨"DuneBenchModel", "season", "()V"⟩, 50), (⟨"DuneBenchModel", "seeks", "(II)Z"⟩, 50), (⟨"DuneBenchModel", "does", "(I)V"⟩, 50), (⟨"DuneBenchModel", "comesBack", "(I)V"⟩, 50), (⟨"DuneBenchModel", "areSeen", "()Z"⟩, 50)]
theorem lw_r3 : ∀ q ∈ lw_privs_3, lw_okq q := List.forall_mem_cons.mpr ⟨lw_p32, List.forall_mem_cons.mpr ⟨lw_p33, List.forall_mem_cons.mpr ⟨lw_p34, List.forall_mem_cons.mpr ⟨lw_p35, List.forall_mem_cons.mpr ⟨lw_p36, List.forall_mem_cons.mpr ⟨lw_p37, List.forall_mem_cons.mpr ⟨lw_p38, List.forall_mem_cons.mpr ⟨lw_p39, List.forall_mem_cons.mpr ⟨lw_p40, List.forall_mem_cons.mpr ⟨lw_p41, List.forall_mem_cons.mpr ⟨lw_p42, List.forall_mem_cons.mpr ⟨lw_p43, List.forall_mem_cons.mpr ⟨lw_p44, List.forall_mem_cons.mpr ⟨lw_p45, List.forall_mem_cons.mpr ⟨lw_p46, fun _ h => absurd h List.not_mem_nil⟩⟩⟩⟩⟩⟩⟩⟩⟩⟩⟩⟩⟩⟩⟩
def lw_privs : List (MethodName × Nat) := lw_privs_1 ++ (lw_privs_2 ++ (lw_privs_3))
def lw_tbl : List Cond := k2_sels lw_privs ++ tables_1
theorem lw_privs_ok : ∀ q ∈ lw_privs, lw_okq q := by
  show ∀ q ∈ lw_privs_1 ++ (lw_privs_2 ++ (lw_privs_3)), lw_okq q
  exact List.forall_mem_append.mpr ⟨lw_r1, List.forall_mem_append.mpr ⟨lw_r2, lw_r3⟩⟩
end
section
def RX0 : String := "DuneBench$Doubts"
def TX0 : u_T := fun k => match k with
  | _ => ("DuneBench$Doubts", "bits", "[J", true)
def tyX0 : Nat → FieldType := fun k => match k with
  | _ => .array .long
abbrev wsX00 : List Cond := u_ws RX0 TX0 1
theorem nmX0 : ∀ a, a < 1 → ∀ b, b < 1 → a ≠ b → (TX0 a).2.1 ≠ (TX0 b).2.1 := by decide +kernel
theorem tyX0_ok : ∀ k, k < 1 → parseFieldDescriptor (TX0 k).2.2.1 = some (tyX0 k) := by decide +kernel
abbrev cX0_init : ByteArray := prog_2_method_1_code
def yX0_init : MethodName := ⟨RX0, "<init>", "()V"⟩
abbrev cX0_add : ByteArray := prog_2_method_2_code
def yX0_add : MethodName := ⟨RX0, "add", "(I)V"⟩
abbrev cX0_remove : ByteArray := prog_2_method_3_code
def yX0_remove : MethodName := ⟨RX0, "remove", "(I)V"⟩
abbrev cX0_lowest : ByteArray := prog_2_method_4_code
def yX0_lowest : MethodName := ⟨RX0, "lowest", "()I"⟩
def RX1 : String := "DuneBench$Dunes"
def TX1 : u_T := fun k => match k with
  | 0 => ("DuneBench$Dunes", "shape", "LDuneBench$Shape;", true)
  | 1 => ("DuneBench$Dunes", "heap", "[I", true)
  | 2 => ("DuneBench$Dunes", "heapAtSeason", "[I", true)
  | 3 => ("DuneBench$Dunes", "grass", "[I", true)
  | 4 => ("DuneBench$Dunes", "fence", "[I", true)
  | 5 => ("DuneBench$Dunes", "walkers", "[I", true)
  | 6 => ("DuneBench$Dunes", "limit", "[I", true)
  | 7 => ("DuneBench$Dunes", "reached", "[I", true)
  | 8 => ("DuneBench$Dunes", "doubts", "LDuneBench$Doubts;", true)
  | 9 => ("DuneBench$Dunes", "rules", "[I", true)
  | 10 => ("DuneBench$Dunes", "sky", "LDuneBench$Winds;", true)
  | 11 => ("DuneBench$Dunes", "lots", "I", false)
  | 12 => ("DuneBench$Dunes", "day", "I", false)
  | 13 => ("DuneBench$Dunes", "lostToSea", "I", false)
  | 14 => ("DuneBench$Dunes", "lostInland", "I", false)
  | _ => ("DuneBench$Dunes", "supplied", "I", false)
def tyX1 : Nat → FieldType := fun k => match k with
  | 0 => .object "DuneBench$Shape"
  | 1 => .array .int
  | 2 => .array .int
  | 3 => .array .int
  | 4 => .array .int
  | 5 => .array .int
  | 6 => .array .int
  | 7 => .array .int
  | 8 => .object "DuneBench$Doubts"
  | 9 => .array .int
  | 10 => .object "DuneBench$Winds"
  | 11 => .int
  | 12 => .int
  | 13 => .int
  | 14 => .int
  | _ => .int
abbrev wsX10 : List Cond := u_ws RX1 TX1 16
theorem nmX1 : ∀ a, a < 16 → ∀ b, b < 16 → a ≠ b → (TX1 a).2.1 ≠ (TX1 b).2.1 := by decide +kernel
theorem tyX1_ok : ∀ k, k < 16 → parseFieldDescriptor (TX1 k).2.2.1 = some (tyX1 k) := by decide +kernel
abbrev cX1_init : ByteArray := prog_3_method_1_code
def yX1_init : MethodName := ⟨RX1, "<init>", "(LDuneBench$Shape;)V"⟩
abbrev cX1_copyFrom : ByteArray := prog_3_method_2_code
def yX1_copyFrom : MethodName := ⟨RX1, "copyFrom", "(LDuneBench$Dunes;)V"⟩
abbrev cX1_pile : ByteArray := prog_3_method_3_code
def yX1_pile : MethodName := ⟨RX1, "pile", "(II)V"⟩
abbrev cX1_put : ByteArray := prog_3_method_4_code
def yX1_put : MethodName := ⟨RX1, "put", "(III)V"⟩
abbrev cX1_look : ByteArray := prog_3_method_5_code
def yX1_look : MethodName := ⟨RX1, "look", "(II)I"⟩
abbrev cX1_grains : ByteArray := prog_3_method_6_code
def yX1_grains : MethodName := ⟨RX1, "grains", "()I"⟩
abbrev cX1_grainsOnHouses : ByteArray := prog_3_method_7_code
def yX1_grainsOnHouses : MethodName := ⟨RX1, "grainsOnHouses", "()I"⟩
abbrev cX1_cut : ByteArray := prog_3_method_8_code
def yX1_cut : MethodName := ⟨RX1, "cut", "(I)I"⟩
abbrev cX1_settleAll : ByteArray := prog_3_method_9_code
def yX1_settleAll : MethodName := ⟨RX1, "settleAll", "()V"⟩
abbrev cX1_doubtAbove : ByteArray := prog_3_method_10_code
def yX1_doubtAbove : MethodName := ⟨RX1, "doubtAbove", "(I)V"⟩
abbrev cX1_raise : ByteArray := prog_3_method_11_code
def yX1_raise : MethodName := ⟨RX1, "raise", "(I)V"⟩
abbrev cX1_lower : ByteArray := prog_3_method_12_code
def yX1_lower : MethodName := ⟨RX1, "lower", "(II)V"⟩
abbrev cX1_settle : ByteArray := prog_3_method_13_code
def yX1_settle : MethodName := ⟨RX1, "settle", "()V"⟩
abbrev cX1_lowestBeside : ByteArray := prog_3_method_14_code
def yX1_lowestBeside : MethodName := ⟨RX1, "lowestBeside", "(I)I"⟩
abbrev cX1_isInShadow : ByteArray := prog_3_method_15_code
def yX1_isInShadow : MethodName := ⟨RX1, "isInShadow", "(II)Z"⟩
abbrev cX1_draw : ByteArray := prog_3_method_16_code
def yX1_draw : MethodName := ⟨RX1, "draw", "(I)I"⟩
abbrev cX1_canPass : ByteArray := prog_3_method_17_code
def yX1_canPass : MethodName := ⟨RX1, "canPass", "(I)Z"⟩
abbrev cX1_pass : ByteArray := prog_3_method_18_code
def yX1_pass : MethodName := ⟨RX1, "pass", "(I)V"⟩
abbrev cX1_bringSupply : ByteArray := prog_3_method_19_code
def yX1_bringSupply : MethodName := ⟨RX1, "bringSupply", "()V"⟩
abbrev cX1_blow : ByteArray := prog_3_method_20_code
def yX1_blow : MethodName := ⟨RX1, "blow", "(I)V"⟩
abbrev cX1_isLifted : ByteArray := prog_3_method_21_code
def yX1_isLifted : MethodName := ⟨RX1, "isLifted", "(II)Z"⟩
abbrev cX1_landing : ByteArray := prog_3_method_22_code
def yX1_landing : MethodName := ⟨RX1, "landing", "(II)I"⟩
abbrev cX1_afterHop : ByteArray := prog_3_method_23_code
def yX1_afterHop : MethodName := ⟨RX1, "afterHop", "(II)I"⟩
abbrev cX1_isLaid : ByteArray := prog_3_method_24_code
def yX1_isLaid : MethodName := ⟨RX1, "isLaid", "(II)Z"⟩
abbrev cX1_lose : ByteArray := prog_3_method_25_code
def yX1_lose : MethodName := ⟨RX1, "lose", "(I)V"⟩
abbrev cX1_reachHouses : ByteArray := prog_3_method_26_code
def yX1_reachHouses : MethodName := ⟨RX1, "reachHouses", "()V"⟩
abbrev cX1_passSeason : ByteArray := prog_3_method_27_code
def yX1_passSeason : MethodName := ⟨RX1, "passSeason", "()V"⟩
abbrev cX1_growth : ByteArray := prog_3_method_28_code
def yX1_growth : MethodName := ⟨RX1, "growth", "(I)I"⟩
def RX2 : String := "DuneBench$Flights"
def TX2 : u_T := fun k => match k with
  | 0 => ("DuneBench$Flights", "cells", "[I", true)
  | 1 => ("DuneBench$Flights", "seen", "[I", true)
  | 2 => ("DuneBench$Flights", "miss", "[I", true)
  | _ => ("DuneBench$Flights", "count", "I", false)
def tyX2 : Nat → FieldType := fun k => match k with
  | 0 => .array .int
  | 1 => .array .int
  | 2 => .array .int
  | _ => .int
abbrev wsX20 : List Cond := u_ws RX2 TX2 4
theorem nmX2 : ∀ a, a < 4 → ∀ b, b < 4 → a ≠ b → (TX2 a).2.1 ≠ (TX2 b).2.1 := by decide +kernel
theorem tyX2_ok : ∀ k, k < 4 → parseFieldDescriptor (TX2 k).2.2.1 = some (tyX2 k) := by decide +kernel
abbrev cX2_init : ByteArray := prog_4_method_1_code
def yX2_init : MethodName := ⟨RX2, "<init>", "()V"⟩
abbrev cX2_add : ByteArray := prog_4_method_2_code
def yX2_add : MethodName := ⟨RX2, "add", "(III)I"⟩
abbrev cX2_agreeWith : ByteArray := prog_4_method_3_code
def yX2_agreeWith : MethodName := ⟨RX2, "agreeWith", "(LDuneBench$Dunes;)Z"⟩
def RX3 : String := "DuneBench$Shape"
def TX3 : u_T := fun k => match k with
  | 0 => ("DuneBench$Shape", "wide", "I", true)
  | 1 => ("DuneBench$Shape", "high", "I", true)
  | 2 => ("DuneBench$Shape", "cells", "I", true)
  | _ => ("DuneBench$Shape", "neighbours", "[I", true)
def tyX3 : Nat → FieldType := fun k => match k with
  | 0 => .int
  | 1 => .int
  | 2 => .int
  | _ => .array .int
abbrev wsX30 : List Cond := u_ws RX3 TX3 4
theorem nmX3 : ∀ a, a < 4 → ∀ b, b < 4 → a ≠ b → (TX3 a).2.1 ≠ (TX3 b).2.1 := by decide +kernel
theorem tyX3_ok : ∀ k, k < 4 → parseFieldDescriptor (TX3 k).2.2.1 = some (tyX3 k) := by decide +kernel
abbrev cX3_init : ByteArray := prog_5_method_1_code
def yX3_init : MethodName := ⟨RX3, "<init>", "(II)V"⟩
abbrev cX3_has : ByteArray := prog_5_method_2_code
def yX3_has : MethodName := ⟨RX3, "has", "(I)Z"⟩
abbrev cX3_beside : ByteArray := prog_5_method_3_code
def yX3_beside : MethodName := ⟨RX3, "beside", "(II)I"⟩
def RX4 : String := "DuneBench$WindTape"
def TX4 : u_T := fun k => match k with
  | 0 => ("DuneBench$WindTape", "bytes", "[B", true)
  | 1 => ("DuneBench$WindTape", "length", "I", false)
  | 2 => ("DuneBench$WindTape", "faultKind", "I", false)
  | 3 => ("DuneBench$WindTape", "faultPlace", "I", false)
  | _ => ("DuneBench$WindTape", "draft", "LDuneBench$Winds;", true)
def tyX4 : Nat → FieldType := fun k => match k with
  | 0 => .array .byte
  | 1 => .int
  | 2 => .int
  | 3 => .int
  | _ => .object "DuneBench$Winds"
abbrev wsX40 : List Cond := u_ws RX4 TX4 5
theorem nmX4 : ∀ a, a < 5 → ∀ b, b < 5 → a ≠ b → (TX4 a).2.1 ≠ (TX4 b).2.1 := by decide +kernel
theorem tyX4_ok : ∀ k, k < 5 → parseFieldDescriptor (TX4 k).2.2.1 = some (tyX4 k) := by decide +kernel
abbrev cX4_init : ByteArray := prog_6_method_1_code
def yX4_init : MethodName := ⟨RX4, "<init>", "()V"⟩
abbrev cX4_append : ByteArray := prog_6_method_2_code
def yX4_append : MethodName := ⟨RX4, "append", "(I)V"⟩
abbrev cX4_read : ByteArray := prog_6_method_3_code
def yX4_read : MethodName := ⟨RX4, "read", "()Z"⟩
abbrev cX4_tell : ByteArray := prog_6_method_4_code
def yX4_tell : MethodName := ⟨RX4, "tell", "(II)Z"⟩
abbrev cX4_faultOf : ByteArray := prog_6_method_5_code
def yX4_faultOf : MethodName := ⟨RX4, "faultOf", "(III)I"⟩
abbrev cX4_byteAt : ByteArray := prog_6_method_6_code
def yX4_byteAt : MethodName := ⟨RX4, "byteAt", "(I)I"⟩
abbrev cX4_afterBlanks : ByteArray := prog_6_method_7_code
def yX4_afterBlanks : MethodName := ⟨RX4, "afterBlanks", "(I)I"⟩
abbrev cX4_tokenEnd : ByteArray := prog_6_method_8_code
def yX4_tokenEnd : MethodName := ⟨RX4, "tokenEnd", "(I)I"⟩
abbrev cX4_windOf : ByteArray := prog_6_method_9_code
def yX4_windOf : MethodName := ⟨RX4, "windOf", "(II)I"⟩
abbrev cX4_isWord : ByteArray := prog_6_method_10_code
def yX4_isWord : MethodName := ⟨RX4, "isWord", "(Ljava/lang/String;II)Z"⟩
abbrev cX4_numberOf : ByteArray := prog_6_method_11_code
def yX4_numberOf : MethodName := ⟨RX4, "numberOf", "(II)I"⟩
abbrev cX4_nameOf : ByteArray := prog_6_method_12_code
def yX4_nameOf : MethodName := ⟨RX4, "nameOf", "(I)Ljava/lang/String;"⟩
abbrev cX4_isLetter : ByteArray := prog_6_method_13_code
def yX4_isLetter : MethodName := ⟨RX4, "isLetter", "(I)Z"⟩
abbrev cX4_isDigit : ByteArray := prog_6_method_14_code
def yX4_isDigit : MethodName := ⟨RX4, "isDigit", "(I)Z"⟩
def RX5 : String := "DuneBench$Winds"
def TX5 : u_T := fun k => match k with
  | 0 => ("DuneBench$Winds", "wind", "[I", true)
  | 1 => ("DuneBench$Winds", "lasting", "[I", true)
  | 2 => ("DuneBench$Winds", "count", "I", false)
  | 3 => ("DuneBench$Winds", "clause", "I", false)
  | _ => ("DuneBench$Winds", "daysOfClause", "I", false)
def tyX5 : Nat → FieldType := fun k => match k with
  | 0 => .array .int
  | 1 => .array .int
  | 2 => .int
  | 3 => .int
  | _ => .int
abbrev wsX50 : List Cond := u_ws RX5 TX5 5
theorem nmX5 : ∀ a, a < 5 → ∀ b, b < 5 → a ≠ b → (TX5 a).2.1 ≠ (TX5 b).2.1 := by decide +kernel
theorem tyX5_ok : ∀ k, k < 5 → parseFieldDescriptor (TX5 k).2.2.1 = some (tyX5 k) := by decide +kernel
abbrev cX5_init : ByteArray := prog_7_method_1_code
def yX5_init : MethodName := ⟨RX5, "<init>", "()V"⟩
abbrev cX5_clear : ByteArray := prog_7_method_2_code
def yX5_clear : MethodName := ⟨RX5, "clear", "()V"⟩
abbrev cX5_isFull : ByteArray := prog_7_method_3_code
def yX5_isFull : MethodName := ⟨RX5, "isFull", "()Z"⟩
abbrev cX5_add : ByteArray := prog_7_method_4_code
def yX5_add : MethodName := ⟨RX5, "add", "(II)V"⟩
abbrev cX5_next : ByteArray := prog_7_method_5_code
def yX5_next : MethodName := ⟨RX5, "next", "()I"⟩
abbrev cX5_passDay : ByteArray := prog_7_method_6_code
def yX5_passDay : MethodName := ⟨RX5, "passDay", "()V"⟩
abbrev cX5_copyFrom : ByteArray := prog_7_method_7_code
def yX5_copyFrom : MethodName := ⟨RX5, "copyFrom", "(LDuneBench$Winds;)V"⟩
def RX6 : String := "DuneBench$Works"
def TX6 : u_T := fun k => match k with
  | 0 => ("DuneBench$Works", "kinds", "[I", true)
  | 1 => ("DuneBench$Works", "cells", "[I", true)
  | 2 => ("DuneBench$Works", "amounts", "[I", true)
  | 3 => ("DuneBench$Works", "costs", "[I", true)
  | _ => ("DuneBench$Works", "count", "I", false)
def tyX6 : Nat → FieldType := fun k => match k with
  | 0 => .array .int
  | 1 => .array .int
  | 2 => .array .int
  | 3 => .array .int
  | _ => .int
abbrev wsX60 : List Cond := u_ws RX6 TX6 5
theorem nmX6 : ∀ a, a < 5 → ∀ b, b < 5 → a ≠ b → (TX6 a).2.1 ≠ (TX6 b).2.1 := by decide +kernel
theorem tyX6_ok : ∀ k, k < 5 → parseFieldDescriptor (TX6 k).2.2.1 = some (tyX6 k) := by decide +kernel
abbrev cX6_init : ByteArray := prog_8_method_1_code
def yX6_init : MethodName := ⟨RX6, "<init>", "()V"⟩
abbrev cX6_add : ByteArray := prog_8_method_2_code
def yX6_add : MethodName := ⟨RX6, "add", "(IIII)I"⟩
abbrev cX6_costOf : ByteArray := prog_8_method_3_code
def yX6_costOf : MethodName := ⟨RX6, "costOf", "(I)I"⟩
abbrev cX6_carryOut : ByteArray := prog_8_method_4_code
def yX6_carryOut : MethodName := ⟨RX6, "carryOut", "(ILDuneBench$Dunes;)V"⟩
def RX7 : String := "DuneBench"
def TX7 : u_T := fun k => match k with
  | 0 => ("DuneBench", "shape", "LDuneBench$Shape;", true)
  | 1 => ("DuneBench", "now", "LDuneBench$Dunes;", true)
  | 2 => ("DuneBench", "marked", "LDuneBench$Dunes;", true)
  | 3 => ("DuneBench", "trial", "LDuneBench$Dunes;", true)
  | 4 => ("DuneBench", "tape", "LDuneBench$WindTape;", true)
  | 5 => ("DuneBench", "works", "LDuneBench$Works;", true)
  | 6 => ("DuneBench", "flights", "LDuneBench$Flights;", true)
  | _ => ("DuneBench", "fewestGrains", "I", false)
def tyX7 : Nat → FieldType := fun k => match k with
  | 0 => .object "DuneBench$Shape"
  | 1 => .object "DuneBench$Dunes"
  | 2 => .object "DuneBench$Dunes"
  | 3 => .object "DuneBench$Dunes"
  | 4 => .object "DuneBench$WindTape"
  | 5 => .object "DuneBench$Works"
  | 6 => .object "DuneBench$Flights"
  | _ => .int
abbrev wsX70 : List Cond := u_ws RX7 TX7 8
theorem nmX7 : ∀ a, a < 8 → ∀ b, b < 8 → a ≠ b → (TX7 a).2.1 ≠ (TX7 b).2.1 := by decide +kernel
theorem tyX7_ok : ∀ k, k < 8 → parseFieldDescriptor (TX7 k).2.2.1 = some (tyX7 k) := by decide +kernel
abbrev cX7_init : ByteArray := prog_1_method_1_code
def yX7_init : MethodName := ⟨RX7, "<init>", "(II)V"⟩
abbrev cX7_heap : ByteArray := prog_1_method_2_code
def yX7_heap : MethodName := ⟨RX7, "heap", "(II)Z"⟩
abbrev cX7_lay : ByteArray := prog_1_method_3_code
def yX7_lay : MethodName := ⟨RX7, "lay", "(III)Z"⟩
abbrev cX7_rules : ByteArray := prog_1_method_4_code
def yX7_rules : MethodName := ⟨RX7, "rules", "(IIIII)Z"⟩
abbrev cX7_seed : ByteArray := prog_1_method_5_code
def yX7_seed : MethodName := ⟨RX7, "seed", "(I)V"⟩
abbrev cX7_feed : ByteArray := prog_1_method_6_code
def yX7_feed : MethodName := ⟨RX7, "feed", "(IIIII)I"⟩
abbrev cX7_end : ByteArray := prog_1_method_7_code
def yX7_end : MethodName := ⟨RX7, "end", "(I)I"⟩
abbrev cX7_winds : ByteArray := prog_1_method_8_code
def yX7_winds : MethodName := ⟨RX7, "winds", "()I"⟩
abbrev cX7_fault : ByteArray := prog_1_method_9_code
def yX7_fault : MethodName := ⟨RX7, "fault", "(I)I"⟩
abbrev cX7_days : ByteArray := prog_1_method_10_code
def yX7_days : MethodName := ⟨RX7, "days", "(I)I"⟩
abbrev cX7_storm : ByteArray := prog_1_method_11_code
def yX7_storm : MethodName := ⟨RX7, "storm", "(I)I"⟩
abbrev cX7_cell : ByteArray := prog_1_method_12_code
def yX7_cell : MethodName := ⟨RX7, "cell", "(II)I"⟩
abbrev cX7_work : ByteArray := prog_1_method_13_code
def yX7_work : MethodName := ⟨RX7, "work", "(IIII)I"⟩
abbrev cX7_drop : ByteArray := prog_1_method_14_code
def yX7_drop : MethodName := ⟨RX7, "drop", "()I"⟩
abbrev cX7_best : ByteArray := prog_1_method_15_code
def yX7_best : MethodName := ⟨RX7, "best", "(II)I"⟩
abbrev cX7_bestSet : ByteArray := prog_1_method_16_code
def yX7_bestSet : MethodName := ⟨RX7, "bestSet", "(II)I"⟩
abbrev cX7_mark : ByteArray := prog_1_method_17_code
def yX7_mark : MethodName := ⟨RX7, "mark", "()V"⟩
abbrev cX7_flight : ByteArray := prog_1_method_18_code
def yX7_flight : MethodName := ⟨RX7, "flight", "(III)I"⟩
abbrev cX7_fits : ByteArray := prog_1_method_19_code
def yX7_fits : MethodName := ⟨RX7, "fits", "(I)I"⟩
abbrev cX7_about : ByteArray := prog_1_method_20_code
def yX7_about : MethodName := ⟨RX7, "about", "(I)I"⟩
abbrev cX7_chooseWorks : ByteArray := prog_1_method_21_code
def yX7_chooseWorks : MethodName := ⟨RX7, "chooseWorks", "(II)I"⟩
abbrev cX7_isWithin : ByteArray := prog_1_method_22_code
def yX7_isWithin : MethodName := ⟨RX7, "isWithin", "(III)Z"⟩
abbrev cX7_nearest : ByteArray := prog_1_method_23_code
def yX7_nearest : MethodName := ⟨RX7, "nearest", "(III)I"⟩
abbrev cX7_copyRow : ByteArray := prog_1_method_24_code
def yX7_copyRow : MethodName := ⟨RX7, "copyRow", "([I[I)V"⟩
def RX8 : String := "DuneBenchModel"
def TX8 : u_T := fun k => match k with
  | 0 => ("DuneBenchModel", "wide", "I", true)
  | 1 => ("DuneBenchModel", "high", "I", true)
  | 2 => ("DuneBenchModel", "cells", "I", true)
  | 3 => ("DuneBenchModel", "heap", "[I", true)
  | 4 => ("DuneBenchModel", "last", "[I", true)
  | 5 => ("DuneBenchModel", "grass", "[I", true)
  | 6 => ("DuneBenchModel", "fence", "[I", true)
  | 7 => ("DuneBenchModel", "walkers", "[I", true)
  | 8 => ("DuneBenchModel", "limit", "[I", true)
  | 9 => ("DuneBenchModel", "reached", "[I", true)
  | 10 => ("DuneBenchModel", "rule", "[I", true)
  | 11 => ("DuneBenchModel", "seed", "I", false)
  | 12 => ("DuneBenchModel", "day", "I", false)
  | 13 => ("DuneBenchModel", "lostSea", "I", false)
  | 14 => ("DuneBenchModel", "lostInland", "I", false)
  | 15 => ("DuneBenchModel", "supplied", "I", false)
  | 16 => ("DuneBenchModel", "clauses", "I", false)
  | 17 => ("DuneBenchModel", "wind", "[I", true)
  | 18 => ("DuneBenchModel", "windDays", "[I", true)
  | 19 => ("DuneBenchModel", "windAt", "I", false)
  | 20 => ("DuneBenchModel", "windDay", "I", false)
  | 21 => ("DuneBenchModel", "tape", "[B", true)
  | 22 => ("DuneBenchModel", "taped", "I", false)
  | 23 => ("DuneBenchModel", "at", "I", false)
  | 24 => ("DuneBenchModel", "token", "I", false)
  | 25 => ("DuneBenchModel", "sort", "I", false)
  | 26 => ("DuneBenchModel", "told", "I", false)
  | 27 => ("DuneBenchModel", "wrong", "I", false)
  | 28 => ("DuneBenchModel", "wrongAt", "I", false)
  | 29 => ("DuneBenchModel", "fault", "I", false)
  | 30 => ("DuneBenchModel", "faultAt", "I", false)
  | 31 => ("DuneBenchModel", "newWind", "[I", true)
  | 32 => ("DuneBenchModel", "newDays", "[I", true)
  | 33 => ("DuneBenchModel", "works", "I", false)
  | 34 => ("DuneBenchModel", "workKind", "[I", true)
  | 35 => ("DuneBenchModel", "workCell", "[I", true)
  | 36 => ("DuneBenchModel", "workBy", "[I", true)
  | 37 => ("DuneBenchModel", "workCost", "[I", true)
  | 38 => ("DuneBenchModel", "flights", "I", false)
  | 39 => ("DuneBenchModel", "flightCell", "[I", true)
  | 40 => ("DuneBenchModel", "flightSeen", "[I", true)
  | 41 => ("DuneBenchModel", "flightMiss", "[I", true)
  | 42 => ("DuneBenchModel", "keptRows", "[I", true)
  | 43 => ("DuneBenchModel", "keptRule", "[I", true)
  | 44 => ("DuneBenchModel", "keptNumbers", "[I", true)
  | 45 => ("DuneBenchModel", "keptWind", "[I", true)
  | 46 => ("DuneBenchModel", "maybe", "[Z", true)
  | 47 => ("DuneBenchModel", "maybeFrom", "I", false)
  | 48 => ("DuneBenchModel", "bestGrains", "I", false)
  | _ => ("DuneBenchModel", "bestWorks", "I", false)
def tyX8 : Nat → FieldType := fun k => match k with
  | 0 => .int
  | 1 => .int
  | 2 => .int
  | 3 => .array .int
  | 4 => .array .int
  | 5 => .array .int
  | 6 => .array .int
  | 7 => .array .int
  | 8 => .array .int
  | 9 => .array .int
  | 10 => .array .int
  | 11 => .int
  | 12 => .int
  | 13 => .int
  | 14 => .int
  | 15 => .int
  | 16 => .int
  | 17 => .array .int
  | 18 => .array .int
  | 19 => .int
  | 20 => .int
  | 21 => .array .byte
  | 22 => .int
  | 23 => .int
  | 24 => .int
  | 25 => .int
  | 26 => .int
  | 27 => .int
  | 28 => .int
  | 29 => .int
  | 30 => .int
  | 31 => .array .int
  | 32 => .array .int
  | 33 => .int
  | 34 => .array .int
  | 35 => .array .int
  | 36 => .array .int
  | 37 => .array .int
  | 38 => .int
  | 39 => .array .int
  | 40 => .array .int
  | 41 => .array .int
  | 42 => .array .int
  | 43 => .array .int
  | 44 => .array .int
  | 45 => .array .int
  | 46 => .array .boolean
  | 47 => .int
  | 48 => .int
  | _ => .int
abbrev wsX80 : List Cond := u_ws RX8 TX8 50
theorem nmX8 : ∀ a, a < 50 → ∀ b, b < 50 → a ≠ b → (TX8 a).2.1 ≠ (TX8 b).2.1 := by decide +kernel
theorem tyX8_ok : ∀ k, k < 50 → parseFieldDescriptor (TX8 k).2.2.1 = some (tyX8 k) := by decide +kernel
abbrev cX8_init : ByteArray := prog_10_method_1_code
def yX8_init : MethodName := ⟨RX8, "<init>", "(II)V"⟩
abbrev cX8_in : ByteArray := prog_10_method_2_code
def yX8_in : MethodName := ⟨RX8, "in", "(III)Z"⟩
abbrev cX8_isCell : ByteArray := prog_10_method_3_code
def yX8_isCell : MethodName := ⟨RX8, "isCell", "(I)Z"⟩
abbrev cX8_draw : ByteArray := prog_10_method_4_code
def yX8_draw : MethodName := ⟨RX8, "draw", "(I)I"⟩
abbrev cX8_keeps : ByteArray := prog_10_method_5_code
def yX8_keeps : MethodName := ⟨RX8, "keeps", "(I)V"⟩
abbrev cX8_comesBack : ByteArray := prog_10_method_6_code
def yX8_comesBack : MethodName := ⟨RX8, "comesBack", "(I)V"⟩
abbrev cX8_near : ByteArray := prog_10_method_7_code
def yX8_near : MethodName := ⟨RX8, "near", "(II)I"⟩
abbrev cX8_isSteep : ByteArray := prog_10_method_8_code
def yX8_isSteep : MethodName := ⟨RX8, "isSteep", "(I)Z"⟩
abbrev cX8_touches : ByteArray := prog_10_method_9_code
def yX8_touches : MethodName := ⟨RX8, "touches", "(I)V"⟩
abbrev cX8_settles : ByteArray := prog_10_method_10_code
def yX8_settles : MethodName := ⟨RX8, "settles", "()V"⟩
abbrev cX8_settledAt : ByteArray := prog_10_method_11_code
def yX8_settledAt : MethodName := ⟨RX8, "settledAt", "(I)V"⟩
abbrev cX8_settledAll : ByteArray := prog_10_method_12_code
def yX8_settledAll : MethodName := ⟨RX8, "settledAll", "()V"⟩
abbrev cX8_heap : ByteArray := prog_10_method_13_code
def yX8_heap : MethodName := ⟨RX8, "heap", "(II)Z"⟩
abbrev cX8_lay : ByteArray := prog_10_method_14_code
def yX8_lay : MethodName := ⟨RX8, "lay", "(III)Z"⟩
abbrev cX8_rules : ByteArray := prog_10_method_15_code
def yX8_rules : MethodName := ⟨RX8, "rules", "(IIIII)Z"⟩
abbrev cX8_seed : ByteArray := prog_10_method_16_code
def yX8_seed : MethodName := ⟨RX8, "seed", "(I)V"⟩
abbrev cX8_put : ByteArray := prog_10_method_17_code
def yX8_put : MethodName := ⟨RX8, "put", "(I)V"⟩
abbrev cX8_feed : ByteArray := prog_10_method_18_code
def yX8_feed : MethodName := ⟨RX8, "feed", "(IIIII)I"⟩
abbrev cX8_end : ByteArray := prog_10_method_19_code
def yX8_end : MethodName := ⟨RX8, "end", "(I)I"⟩
abbrev cX8_isLetter : ByteArray := prog_10_method_20_code
def yX8_isLetter : MethodName := ⟨RX8, "isLetter", "(I)Z"⟩
abbrev cX8_wordOf : ByteArray := prog_10_method_21_code
def yX8_wordOf : MethodName := ⟨RX8, "wordOf", "(J)I"⟩
abbrev cX8_next : ByteArray := prog_10_method_22_code
def yX8_next : MethodName := ⟨RX8, "next", "(I)V"⟩
abbrev cX8_errs : ByteArray := prog_10_method_23_code
def yX8_errs : MethodName := ⟨RX8, "errs", "(I)V"⟩
abbrev cX8_winds : ByteArray := prog_10_method_24_code
def yX8_winds : MethodName := ⟨RX8, "winds", "()I"⟩
abbrev cX8_fault : ByteArray := prog_10_method_25_code
def yX8_fault : MethodName := ⟨RX8, "fault", "(I)I"⟩
abbrev cX8_windNow : ByteArray := prog_10_method_26_code
def yX8_windNow : MethodName := ⟨RX8, "windNow", "()I"⟩
abbrev cX8_windGoesOn : ByteArray := prog_10_method_27_code
def yX8_windGoesOn : MethodName := ⟨RX8, "windGoesOn", "()V"⟩
abbrev cX8_ahead : ByteArray := prog_10_method_28_code
def yX8_ahead : MethodName := ⟨RX8, "ahead", "(III)I"⟩
abbrev cX8_isShadow : ByteArray := prog_10_method_29_code
def yX8_isShadow : MethodName := ⟨RX8, "isShadow", "(II)Z"⟩
abbrev cX8_lifts : ByteArray := prog_10_method_30_code
def yX8_lifts : MethodName := ⟨RX8, "lifts", "(I)V"⟩
abbrev cX8_grown : ByteArray := prog_10_method_31_code
def yX8_grown : MethodName := ⟨RX8, "grown", "(I)I"⟩
abbrev cX8_season : ByteArray := prog_10_method_32_code
def yX8_season : MethodName := ⟨RX8, "season", "()V"⟩
abbrev cX8_goes : ByteArray := prog_10_method_33_code
def yX8_goes : MethodName := ⟨RX8, "goes", "()V"⟩
abbrev cX8_days : ByteArray := prog_10_method_34_code
def yX8_days : MethodName := ⟨RX8, "days", "(I)I"⟩
abbrev cX8_storm : ByteArray := prog_10_method_35_code
def yX8_storm : MethodName := ⟨RX8, "storm", "(I)I"⟩
abbrev cX8_cell : ByteArray := prog_10_method_36_code
def yX8_cell : MethodName := ⟨RX8, "cell", "(II)I"⟩
abbrev cX8_work : ByteArray := prog_10_method_37_code
def yX8_work : MethodName := ⟨RX8, "work", "(IIII)I"⟩
abbrev cX8_drop : ByteArray := prog_10_method_38_code
def yX8_drop : MethodName := ⟨RX8, "drop", "()I"⟩
abbrev cX8_does : ByteArray := prog_10_method_39_code
def yX8_does : MethodName := ⟨RX8, "does", "(I)V"⟩
abbrev cX8_seeks : ByteArray := prog_10_method_40_code
def yX8_seeks : MethodName := ⟨RX8, "seeks", "(II)Z"⟩
abbrev cX8_best : ByteArray := prog_10_method_41_code
def yX8_best : MethodName := ⟨RX8, "best", "(II)I"⟩
abbrev cX8_bestSet : ByteArray := prog_10_method_42_code
def yX8_bestSet : MethodName := ⟨RX8, "bestSet", "(II)I"⟩
abbrev cX8_mark : ByteArray := prog_10_method_43_code
def yX8_mark : MethodName := ⟨RX8, "mark", "()V"⟩
abbrev cX8_flight : ByteArray := prog_10_method_44_code
def yX8_flight : MethodName := ⟨RX8, "flight", "(III)I"⟩
abbrev cX8_areSeen : ByteArray := prog_10_method_45_code
def yX8_areSeen : MethodName := ⟨RX8, "areSeen", "()Z"⟩
abbrev cX8_fits : ByteArray := prog_10_method_46_code
def yX8_fits : MethodName := ⟨RX8, "fits", "(I)I"⟩
abbrev cX8_about : ByteArray := prog_10_method_47_code
def yX8_about : MethodName := ⟨RX8, "about", "(I)I"⟩
def RJ13 : String := "java/lang/Long"
def TJ13 : u_T := fun k => match k with
  | _ => ("", "", "", false)
def tyJ13 : Nat → FieldType := fun k => match k with
  | _ => .int
abbrev wsJ130 : List Cond := u_ws RJ13 TJ13 0
theorem nmJ13 : ∀ a, a < 0 → ∀ b, b < 0 → a ≠ b → (TJ13 a).2.1 ≠ (TJ13 b).2.1 := by decide +kernel
theorem tyJ13_ok : ∀ k, k < 0 → parseFieldDescriptor (TJ13 k).2.2.1 = some (tyJ13 k) := by decide +kernel
abbrev cJ13_bitCount_95d88 : ByteArray := prog_11_method_50_code
def yJ13_bitCount_95d88 : MethodName := ⟨RJ13, "bitCount", "(J)I"⟩
def RJ9 : String := "java/lang/Math"
def TJ9 : u_T := fun k => match k with
  | _ => ("", "", "", false)
def tyJ9 : Nat → FieldType := fun k => match k with
  | _ => .int
abbrev wsJ90 : List Cond := u_ws RJ9 TJ9 0
theorem nmJ9 : ∀ a, a < 0 → ∀ b, b < 0 → a ≠ b → (TJ9 a).2.1 ≠ (TJ9 b).2.1 := by decide +kernel
theorem tyJ9_ok : ∀ k, k < 0 → parseFieldDescriptor (TJ9 k).2.2.1 = some (tyJ9 k) := by decide +kernel
abbrev cJ9_abs_0f7a4 : ByteArray := prog_12_method_59_code
def yJ9_abs_0f7a4 : MethodName := ⟨RJ9, "abs", "(I)I"⟩
abbrev cJ9_max_7cf53 : ByteArray := prog_12_method_65_code
def yJ9_max_7cf53 : MethodName := ⟨RJ9, "max", "(II)I"⟩
abbrev cJ9_min_7cf53 : ByteArray := prog_12_method_69_code
def yJ9_min_7cf53 : MethodName := ⟨RJ9, "min", "(II)I"⟩
def RJ0 : String := "java/lang/String"
def TJ0 : u_T := fun k => match k with
  | _ => ("", "", "", false)
def tyJ0 : Nat → FieldType := fun k => match k with
  | _ => .int
abbrev wsJ00 : List Cond := u_ws RJ0 TJ0 0
theorem nmJ0 : ∀ a, a < 0 → ∀ b, b < 0 → a ≠ b → (TJ0 a).2.1 ≠ (TJ0 b).2.1 := by decide +kernel
theorem tyJ0_ok : ∀ k, k < 0 → parseFieldDescriptor (TJ0 k).2.2.1 = some (tyJ0 k) := by decide +kernel
abbrev cJ0_length_8abf5 : ByteArray := prog_13_method_54_code
def yJ0_length_8abf5 : MethodName := ⟨RJ0, "length", "()I"⟩
abbrev cJ0_charAt_5068e : ByteArray := prog_13_method_56_code
def yJ0_charAt_5068e : MethodName := ⟨RJ0, "charAt", "(I)C"⟩
abbrev cJ0_coder_7d493 : ByteArray := prog_13_method_152_code
def yJ0_coder_7d493 : MethodName := ⟨RJ0, "coder", "()B"⟩
abbrev cJ0_isLatin1_aae02 : ByteArray := prog_13_method_154_code
def yJ0_isLatin1_aae02 : MethodName := ⟨RJ0, "isLatin1", "()Z"⟩
abbrev cJ0_checkIndex_df160 : ByteArray := prog_13_method_155_code
def yJ0_checkIndex_df160 : MethodName := ⟨RJ0, "checkIndex", "(II)V"⟩
def RJ1 : String := "java/lang/StringLatin1"
def TJ1 : u_T := fun k => match k with
  | _ => ("", "", "", false)
def tyJ1 : Nat → FieldType := fun k => match k with
  | _ => .int
abbrev wsJ10 : List Cond := u_ws RJ1 TJ1 0
theorem nmJ1 : ∀ a, a < 0 → ∀ b, b < 0 → a ≠ b → (TJ1 a).2.1 ≠ (TJ1 b).2.1 := by decide +kernel
theorem tyJ1_ok : ∀ k, k < 0 → parseFieldDescriptor (TJ1 k).2.2.1 = some (tyJ1 k) := by decide +kernel
abbrev cJ1_charAt_3b067 : ByteArray := prog_14_method_2_code
def yJ1_charAt_3b067 : MethodName := ⟨RJ1, "charAt", "([BI)C"⟩
def RJ2 : String := "java/lang/StringUTF16"
def TJ2 : u_T := fun k => match k with
  | _ => ("", "", "", false)
def tyJ2 : Nat → FieldType := fun k => match k with
  | _ => .int
abbrev wsJ20 : List Cond := u_ws RJ2 TJ2 0
theorem nmJ2 : ∀ a, a < 0 → ∀ b, b < 0 → a ≠ b → (TJ2 a).2.1 ≠ (TJ2 b).2.1 := by decide +kernel
theorem tyJ2_ok : ∀ k, k < 0 → parseFieldDescriptor (TJ2 k).2.2.1 = some (tyJ2 k) := by decide +kernel
abbrev cJ2_getChar_3b067 : ByteArray := prog_15_method_5_code
def yJ2_getChar_3b067 : MethodName := ⟨RJ2, "getChar", "([BI)C"⟩
abbrev cJ2_length_9d52b : ByteArray := prog_15_method_6_code
def yJ2_length_9d52b : MethodName := ⟨RJ2, "length", "([B)I"⟩
abbrev cJ2_charAt_3b067 : ByteArray := prog_15_method_83_code
def yJ2_charAt_3b067 : MethodName := ⟨RJ2, "charAt", "([BI)C"⟩
abbrev cJ2_checkIndex_2214a : ByteArray := prog_15_method_91_code
def yJ2_checkIndex_2214a : MethodName := ⟨RJ2, "checkIndex", "(I[B)V"⟩
def RJ10 : String := "java/lang/System"
def TJ10 : u_T := fun k => match k with
  | _ => ("", "", "", false)
def tyJ10 : Nat → FieldType := fun k => match k with
  | _ => .int
abbrev wsJ100 : List Cond := u_ws RJ10 TJ10 0
theorem nmJ10 : ∀ a, a < 0 → ∀ b, b < 0 → a ≠ b → (TJ10 a).2.1 ≠ (TJ10 b).2.1 := by decide +kernel
theorem tyJ10_ok : ∀ k, k < 0 → parseFieldDescriptor (TJ10 k).2.2.1 = some (tyJ10 k) := by decide +kernel
def RJ3 : String := "jdk/internal/util/Preconditions"
def TJ3 : u_T := fun k => match k with
  | _ => ("", "", "", false)
def tyJ3 : Nat → FieldType := fun k => match k with
  | _ => .int
abbrev wsJ30 : List Cond := u_ws RJ3 TJ3 0
theorem nmJ3 : ∀ a, a < 0 → ∀ b, b < 0 → a ≠ b → (TJ3 a).2.1 ≠ (TJ3 b).2.1 := by decide +kernel
theorem tyJ3_ok : ∀ k, k < 0 → parseFieldDescriptor (TJ3 k).2.2.1 = some (tyJ3 k) := by decide +kernel
abbrev cJ3_checkIndex_8e157 : ByteArray := prog_17_method_11_code
def yJ3_checkIndex_8e157 : MethodName := ⟨RJ3, "checkIndex", "(IILjava/util/function/BiFunction;)I"⟩
def RL : String := "DuneBenchLaw"
abbrev cL_cell : ByteArray := method_2_code
def yL_cell : MethodName := ⟨RL, "cell", "([II)I"⟩
abbrev cL_law : ByteArray := code
def yL_law : MethodName := ⟨RL, "law", "([I)Z"⟩
abbrev vwCl : List vw_C := [(RX0, TX0, 1), (RX1, TX1, 16), (RX2, TX2, 4), (RX3, TX3, 4), (RX4, TX4, 5), (RX5, TX5, 5), (RX6, TX6, 5), (RX7, TX7, 8), (RX8, TX8, 50)]
end
section
theorem dX0_init_0 : decode cX0_init 0 = .ok (.aload_n 0, 1) := by decide +kernel
theorem dX0_init_1 : decode cX0_init 1 = .ok (.invokespecial 3, 3) := by decide +kernel
theorem dX0_init_4 : decode cX0_init 4 = .ok (.aload_n 0, 1) := by decide +kernel
theorem dX0_init_5 : decode cX0_init 5 = .ok (.iconst 3, 1) := by decide +kernel
theorem dX0_init_6 : decode cX0_init 6 = .ok (.newarray .long, 2) := by decide +kernel
theorem dX0_init_8 : decode cX0_init 8 = .ok (.putfield 9, 3) := by decide +kernel
theorem dX0_init_11 : decode cX0_init 11 = .ok (.return_, 1) := by decide +kernel
theorem dX0_add_0 : decode cX0_add 0 = .ok (.iload_n 1, 1) := by decide +kernel
theorem dX0_add_1 : decode cX0_add 1 = .ok (.bipush 6, 2) := by decide +kernel
theorem dX0_add_3 : decode cX0_add 3 = .ok (.ishr, 1) := by decide +kernel
theorem dX0_add_4 : decode cX0_add 4 = .ok (.istore_n 2, 1) := by decide +kernel
theorem dX0_add_5 : decode cX0_add 5 = .ok (.iload_n 2, 1) := by decide +kernel
theorem dX0_add_6 : decode cX0_add 6 = .ok (.ifCond .lt 27, 3) := by decide +kernel
theorem dX0_add_9 : decode cX0_add 9 = .ok (.iload_n 2, 1) := by decide +kernel
theorem dX0_add_10 : decode cX0_add 10 = .ok (.aload_n 0, 1) := by decide +kernel
theorem dX0_add_11 : decode cX0_add 11 = .ok (.getfield 9, 3) := by decide +kernel
theorem dX0_add_14 : decode cX0_add 14 = .ok (.arraylength, 1) := by decide +kernel
theorem dX0_add_15 : decode cX0_add 15 = .ok (.if_icmp .ge 18, 3) := by decide +kernel
theorem dX0_add_18 : decode cX0_add 18 = .ok (.aload_n 0, 1) := by decide +kernel
theorem dX0_add_19 : decode cX0_add 19 = .ok (.getfield 9, 3) := by decide +kernel
theorem dX0_add_22 : decode cX0_add 22 = .ok (.iload_n 2, 1) := by decide +kernel
theorem dX0_add_23 : decode cX0_add 23 = .ok (.dup2, 1) := by decide +kernel
theorem dX0_add_24 : decode cX0_add 24 = .ok (.laload, 1) := by decide +kernel
theorem dX0_add_25 : decode cX0_add 25 = .ok (.lconst 1, 1) := by decide +kernel
theorem dX0_add_26 : decode cX0_add 26 = .ok (.iload_n 1, 1) := by decide +kernel
theorem dX0_add_27 : decode cX0_add 27 = .ok (.bipush 63, 2) := by decide +kernel
theorem dX0_add_29 : decode cX0_add 29 = .ok (.iand, 1) := by decide +kernel
theorem dX0_add_30 : decode cX0_add 30 = .ok (.lshl, 1) := by decide +kernel
theorem dX0_add_31 : decode cX0_add 31 = .ok (.lor, 1) := by decide +kernel
theorem dX0_add_32 : decode cX0_add 32 = .ok (.lastore, 1) := by decide +kernel
theorem dX0_add_33 : decode cX0_add 33 = .ok (.return_, 1) := by decide +kernel
theorem dX0_remove_0 : decode cX0_remove 0 = .ok (.iload_n 1, 1) := by decide +kernel
theorem dX0_remove_1 : decode cX0_remove 1 = .ok (.bipush 6, 2) := by decide +kernel
theorem dX0_remove_3 : decode cX0_remove 3 = .ok (.ishr, 1) := by decide +kernel
theorem dX0_remove_4 : decode cX0_remove 4 = .ok (.istore_n 2, 1) := by decide +kernel
theorem dX0_remove_5 : decode cX0_remove 5 = .ok (.iload_n 2, 1) := by decide +kernel
theorem dX0_remove_6 : decode cX0_remove 6 = .ok (.ifCond .lt 31, 3) := by decide +kernel
theorem dX0_remove_9 : decode cX0_remove 9 = .ok (.iload_n 2, 1) := by decide +kernel
theorem dX0_remove_10 : decode cX0_remove 10 = .ok (.aload_n 0, 1) := by decide +kernel
theorem dX0_remove_11 : decode cX0_remove 11 = .ok (.getfield 9, 3) := by decide +kernel
theorem dX0_remove_14 : decode cX0_remove 14 = .ok (.arraylength, 1) := by decide +kernel
theorem dX0_remove_15 : decode cX0_remove 15 = .ok (.if_icmp .ge 22, 3) := by decide +kernel
theorem dX0_remove_18 : decode cX0_remove 18 = .ok (.aload_n 0, 1) := by decide +kernel
theorem dX0_remove_19 : decode cX0_remove 19 = .ok (.getfield 9, 3) := by decide +kernel
theorem dX0_remove_22 : decode cX0_remove 22 = .ok (.iload_n 2, 1) := by decide +kernel
theorem dX0_remove_23 : decode cX0_remove 23 = .ok (.dup2, 1) := by decide +kernel
theorem dX0_remove_24 : decode cX0_remove 24 = .ok (.laload, 1) := by decide +kernel
theorem dX0_remove_25 : decode cX0_remove 25 = .ok (.lconst 1, 1) := by decide +kernel
theorem dX0_remove_26 : decode cX0_remove 26 = .ok (.iload_n 1, 1) := by decide +kernel
theorem dX0_remove_27 : decode cX0_remove 27 = .ok (.bipush 63, 2) := by decide +kernel
theorem dX0_remove_29 : decode cX0_remove 29 = .ok (.iand, 1) := by decide +kernel
theorem dX0_remove_30 : decode cX0_remove 30 = .ok (.lshl, 1) := by decide +kernel
theorem dX0_remove_31 : decode cX0_remove 31 = .ok (.ldc2_w 15, 3) := by decide +kernel
theorem dX0_remove_34 : decode cX0_remove 34 = .ok (.lxor, 1) := by decide +kernel
theorem dX0_remove_35 : decode cX0_remove 35 = .ok (.land, 1) := by decide +kernel
theorem dX0_remove_36 : decode cX0_remove 36 = .ok (.lastore, 1) := by decide +kernel
theorem dX0_remove_37 : decode cX0_remove 37 = .ok (.return_, 1) := by decide +kernel
theorem dX0_lowest_0 : decode cX0_lowest 0 = .ok (.iconst 0, 1) := by decide +kernel
theorem dX0_lowest_1 : decode cX0_lowest 1 = .ok (.istore_n 1, 1) := by decide +kernel
theorem dX0_lowest_2 : decode cX0_lowest 2 = .ok (.iload_n 1, 1) := by decide +kernel
theorem dX0_lowest_3 : decode cX0_lowest 3 = .ok (.aload_n 0, 1) := by decide +kernel
theorem dX0_lowest_4 : decode cX0_lowest 4 = .ok (.getfield 9, 3) := by decide +kernel
theorem dX0_lowest_7 : decode cX0_lowest 7 = .ok (.arraylength, 1) := by decide +kernel
theorem dX0_lowest_8 : decode cX0_lowest 8 = .ok (.if_icmp .ge 37, 3) := by decide +kernel
theorem dX0_lowest_11 : decode cX0_lowest 11 = .ok (.aload_n 0, 1) := by decide +kernel
theorem dX0_lowest_12 : decode cX0_lowest 12 = .ok (.getfield 9, 3) := by decide +kernel
theorem dX0_lowest_15 : decode cX0_lowest 15 = .ok (.iload_n 1, 1) := by decide +kernel
theorem dX0_lowest_16 : decode cX0_lowest 16 = .ok (.laload, 1) := by decide +kernel
theorem dX0_lowest_17 : decode cX0_lowest 17 = .ok (.lstore_n 2, 1) := by decide +kernel
theorem dX0_lowest_18 : decode cX0_lowest 18 = .ok (.lload_n 2, 1) := by decide +kernel
theorem dX0_lowest_19 : decode cX0_lowest 19 = .ok (.lconst 0, 1) := by decide +kernel
theorem dX0_lowest_20 : decode cX0_lowest 20 = .ok (.lcmp, 1) := by decide +kernel
theorem dX0_lowest_21 : decode cX0_lowest 21 = .ok (.ifCond .eq 18, 3) := by decide +kernel
theorem dX0_lowest_24 : decode cX0_lowest 24 = .ok (.iload_n 1, 1) := by decide +kernel
theorem dX0_lowest_25 : decode cX0_lowest 25 = .ok (.bipush 64, 2) := by decide +kernel
theorem dX0_lowest_27 : decode cX0_lowest 27 = .ok (.imul, 1) := by decide +kernel
theorem dX0_lowest_28 : decode cX0_lowest 28 = .ok (.lload_n 2, 1) := by decide +kernel
theorem dX0_lowest_29 : decode cX0_lowest 29 = .ok (.lload_n 2, 1) := by decide +kernel
theorem dX0_lowest_30 : decode cX0_lowest 30 = .ok (.lneg, 1) := by decide +kernel
theorem dX0_lowest_31 : decode cX0_lowest 31 = .ok (.land, 1) := by decide +kernel
theorem dX0_lowest_32 : decode cX0_lowest 32 = .ok (.lconst 1, 1) := by decide +kernel
theorem dX0_lowest_33 : decode cX0_lowest 33 = .ok (.lsub, 1) := by decide +kernel
theorem dX0_lowest_34 : decode cX0_lowest 34 = .ok (.invokestatic 17, 3) := by decide +kernel
theorem dX0_lowest_37 : decode cX0_lowest 37 = .ok (.iadd, 1) := by decide +kernel
theorem dX0_lowest_38 : decode cX0_lowest 38 = .ok (.ireturn, 1) := by decide +kernel
theorem dX0_lowest_39 : decode cX0_lowest 39 = .ok (.iinc 1 1, 3) := by decide +kernel
theorem dX0_lowest_42 : decode cX0_lowest 42 = .ok (.goto (-40), 3) := by decide +kernel
theorem dX0_lowest_45 : decode cX0_lowest 45 = .ok (.iconst (-1), 1) := by decide +kernel
theorem dX0_lowest_46 : decode cX0_lowest 46 = .ok (.ireturn, 1) := by decide +kernel
end
section
theorem dX3_init_0 : decode cX3_init 0 = .ok (.aload_n 0, 1) := by decide +kernel
theorem dX3_init_1 : decode cX3_init 1 = .ok (.invokespecial 3, 3) := by decide +kernel
theorem dX3_init_4 : decode cX3_init 4 = .ok (.aload_n 0, 1) := by decide +kernel
theorem dX3_init_5 : decode cX3_init 5 = .ok (.iload_n 1, 1) := by decide +kernel
theorem dX3_init_6 : decode cX3_init 6 = .ok (.putfield 9, 3) := by decide +kernel
theorem dX3_init_9 : decode cX3_init 9 = .ok (.aload_n 0, 1) := by decide +kernel
theorem dX3_init_10 : decode cX3_init 10 = .ok (.iload_n 2, 1) := by decide +kernel
theorem dX3_init_11 : decode cX3_init 11 = .ok (.putfield 15, 3) := by decide +kernel
theorem dX3_init_14 : decode cX3_init 14 = .ok (.aload_n 0, 1) := by decide +kernel
theorem dX3_init_15 : decode cX3_init 15 = .ok (.iload_n 1, 1) := by decide +kernel
theorem dX3_init_16 : decode cX3_init 16 = .ok (.iload_n 2, 1) := by decide +kernel
theorem dX3_init_17 : decode cX3_init 17 = .ok (.imul, 1) := by decide +kernel
theorem dX3_init_18 : decode cX3_init 18 = .ok (.putfield 18, 3) := by decide +kernel
theorem dX3_init_21 : decode cX3_init 21 = .ok (.aload_n 0, 1) := by decide +kernel
theorem dX3_init_22 : decode cX3_init 22 = .ok (.aload_n 0, 1) := by decide +kernel
theorem dX3_init_23 : decode cX3_init 23 = .ok (.getfield 18, 3) := by decide +kernel
theorem dX3_init_26 : decode cX3_init 26 = .ok (.iconst 4, 1) := by decide +kernel
theorem dX3_init_27 : decode cX3_init 27 = .ok (.imul, 1) := by decide +kernel
theorem dX3_init_28 : decode cX3_init 28 = .ok (.newarray .int, 2) := by decide +kernel
theorem dX3_init_30 : decode cX3_init 30 = .ok (.putfield 21, 3) := by decide +kernel
theorem dX3_init_33 : decode cX3_init 33 = .ok (.iconst 0, 1) := by decide +kernel
theorem dX3_init_34 : decode cX3_init 34 = .ok (.istore_n 3, 1) := by decide +kernel
theorem dX3_init_35 : decode cX3_init 35 = .ok (.iload_n 3, 1) := by decide +kernel
theorem dX3_init_36 : decode cX3_init 36 = .ok (.iload_n 2, 1) := by decide +kernel
theorem dX3_init_37 : decode cX3_init 37 = .ok (.if_icmp .ge 148, 3) := by decide +kernel
theorem dX3_init_40 : decode cX3_init 40 = .ok (.iload_n 3, 1) := by decide +kernel
theorem dX3_init_41 : decode cX3_init 41 = .ok (.iconst 1, 1) := by decide +kernel
theorem dX3_init_42 : decode cX3_init 42 = .ok (.iadd, 1) := by decide +kernel
theorem dX3_init_43 : decode cX3_init 43 = .ok (.iload_n 2, 1) := by decide +kernel
theorem dX3_init_44 : decode cX3_init 44 = .ok (.if_icmp .ge 9, 3) := by decide +kernel
theorem dX3_init_47 : decode cX3_init 47 = .ok (.iload_n 3, 1) := by decide +kernel
theorem dX3_init_48 : decode cX3_init 48 = .ok (.iconst 1, 1) := by decide +kernel
theorem dX3_init_49 : decode cX3_init 49 = .ok (.iadd, 1) := by decide +kernel
theorem dX3_init_50 : decode cX3_init 50 = .ok (.goto 4, 3) := by decide +kernel
theorem dX3_init_53 : decode cX3_init 53 = .ok (.iconst 0, 1) := by decide +kernel
theorem dX3_init_54 : decode cX3_init 54 = .ok (.istore 4, 2) := by decide +kernel
theorem dX3_init_56 : decode cX3_init 56 = .ok (.iload_n 3, 1) := by decide +kernel
theorem dX3_init_57 : decode cX3_init 57 = .ok (.ifCond .le 9, 3) := by decide +kernel
theorem dX3_init_60 : decode cX3_init 60 = .ok (.iload_n 3, 1) := by decide +kernel
theorem dX3_init_61 : decode cX3_init 61 = .ok (.iconst 1, 1) := by decide +kernel
theorem dX3_init_62 : decode cX3_init 62 = .ok (.isub, 1) := by decide +kernel
theorem dX3_init_63 : decode cX3_init 63 = .ok (.goto 6, 3) := by decide +kernel
theorem dX3_init_66 : decode cX3_init 66 = .ok (.iload_n 2, 1) := by decide +kernel
theorem dX3_init_67 : decode cX3_init 67 = .ok (.iconst 1, 1) := by decide +kernel
theorem dX3_init_68 : decode cX3_init 68 = .ok (.isub, 1) := by decide +kernel
theorem dX3_init_69 : decode cX3_init 69 = .ok (.istore 5, 2) := by decide +kernel
theorem dX3_init_71 : decode cX3_init 71 = .ok (.iconst 0, 1) := by decide +kernel
theorem dX3_init_72 : decode cX3_init 72 = .ok (.istore 6, 2) := by decide +kernel
theorem dX3_init_74 : decode cX3_init 74 = .ok (.iload 6, 2) := by decide +kernel
theorem dX3_init_76 : decode cX3_init 76 = .ok (.iload_n 1, 1) := by decide +kernel
theorem dX3_init_77 : decode cX3_init 77 = .ok (.if_icmp .ge 102, 3) := by decide +kernel
theorem dX3_init_80 : decode cX3_init 80 = .ok (.iload_n 3, 1) := by decide +kernel
theorem dX3_init_81 : decode cX3_init 81 = .ok (.iload_n 1, 1) := by decide +kernel
theorem dX3_init_82 : decode cX3_init 82 = .ok (.imul, 1) := by decide +kernel
theorem dX3_init_83 : decode cX3_init 83 = .ok (.iload 6, 2) := by decide +kernel
theorem dX3_init_85 : decode cX3_init 85 = .ok (.iadd, 1) := by decide +kernel
theorem dX3_init_86 : decode cX3_init 86 = .ok (.istore 7, 2) := by decide +kernel
theorem dX3_init_88 : decode cX3_init 88 = .ok (.aload_n 0, 1) := by decide +kernel
theorem dX3_init_89 : decode cX3_init 89 = .ok (.getfield 21, 3) := by decide +kernel
theorem dX3_init_92 : decode cX3_init 92 = .ok (.iload 7, 2) := by decide +kernel
theorem dX3_init_94 : decode cX3_init 94 = .ok (.iconst 4, 1) := by decide +kernel
theorem dX3_init_95 : decode cX3_init 95 = .ok (.imul, 1) := by decide +kernel
theorem dX3_init_96 : decode cX3_init 96 = .ok (.iload 6, 2) := by decide +kernel
theorem dX3_init_98 : decode cX3_init 98 = .ok (.iconst 1, 1) := by decide +kernel
theorem dX3_init_99 : decode cX3_init 99 = .ok (.iadd, 1) := by decide +kernel
theorem dX3_init_100 : decode cX3_init 100 = .ok (.iload_n 1, 1) := by decide +kernel
theorem dX3_init_101 : decode cX3_init 101 = .ok (.if_icmp .ge 10, 3) := by decide +kernel
theorem dX3_init_104 : decode cX3_init 104 = .ok (.iload 7, 2) := by decide +kernel
theorem dX3_init_106 : decode cX3_init 106 = .ok (.iconst 1, 1) := by decide +kernel
theorem dX3_init_107 : decode cX3_init 107 = .ok (.iadd, 1) := by decide +kernel
theorem dX3_init_108 : decode cX3_init 108 = .ok (.goto 4, 3) := by decide +kernel
theorem dX3_init_111 : decode cX3_init 111 = .ok (.iconst (-1), 1) := by decide +kernel
theorem dX3_init_112 : decode cX3_init 112 = .ok (.iastore, 1) := by decide +kernel
theorem dX3_init_113 : decode cX3_init 113 = .ok (.aload_n 0, 1) := by decide +kernel
theorem dX3_init_114 : decode cX3_init 114 = .ok (.getfield 21, 3) := by decide +kernel
theorem dX3_init_117 : decode cX3_init 117 = .ok (.iload 7, 2) := by decide +kernel
theorem dX3_init_119 : decode cX3_init 119 = .ok (.iconst 4, 1) := by decide +kernel
theorem dX3_init_120 : decode cX3_init 120 = .ok (.imul, 1) := by decide +kernel
theorem dX3_init_121 : decode cX3_init 121 = .ok (.iconst 1, 1) := by decide +kernel
theorem dX3_init_122 : decode cX3_init 122 = .ok (.iadd, 1) := by decide +kernel
theorem dX3_init_123 : decode cX3_init 123 = .ok (.iload 6, 2) := by decide +kernel
theorem dX3_init_125 : decode cX3_init 125 = .ok (.ifCond .le 10, 3) := by decide +kernel
theorem dX3_init_128 : decode cX3_init 128 = .ok (.iload 7, 2) := by decide +kernel
theorem dX3_init_130 : decode cX3_init 130 = .ok (.iconst 1, 1) := by decide +kernel
theorem dX3_init_131 : decode cX3_init 131 = .ok (.isub, 1) := by decide +kernel
theorem dX3_init_132 : decode cX3_init 132 = .ok (.goto 4, 3) := by decide +kernel
theorem dX3_init_135 : decode cX3_init 135 = .ok (.iconst (-1), 1) := by decide +kernel
theorem dX3_init_136 : decode cX3_init 136 = .ok (.iastore, 1) := by decide +kernel
theorem dX3_init_137 : decode cX3_init 137 = .ok (.aload_n 0, 1) := by decide +kernel
theorem dX3_init_138 : decode cX3_init 138 = .ok (.getfield 21, 3) := by decide +kernel
theorem dX3_init_141 : decode cX3_init 141 = .ok (.iload 7, 2) := by decide +kernel
theorem dX3_init_143 : decode cX3_init 143 = .ok (.iconst 4, 1) := by decide +kernel
theorem dX3_init_144 : decode cX3_init 144 = .ok (.imul, 1) := by decide +kernel
theorem dX3_init_145 : decode cX3_init 145 = .ok (.iconst 2, 1) := by decide +kernel
theorem dX3_init_146 : decode cX3_init 146 = .ok (.iadd, 1) := by decide +kernel
theorem dX3_init_147 : decode cX3_init 147 = .ok (.iload 4, 2) := by decide +kernel
theorem dX3_init_149 : decode cX3_init 149 = .ok (.iload_n 1, 1) := by decide +kernel
theorem dX3_init_150 : decode cX3_init 150 = .ok (.imul, 1) := by decide +kernel
theorem dX3_init_151 : decode cX3_init 151 = .ok (.iload 6, 2) := by decide +kernel
theorem dX3_init_153 : decode cX3_init 153 = .ok (.iadd, 1) := by decide +kernel
theorem dX3_init_154 : decode cX3_init 154 = .ok (.iastore, 1) := by decide +kernel
theorem dX3_init_155 : decode cX3_init 155 = .ok (.aload_n 0, 1) := by decide +kernel
theorem dX3_init_156 : decode cX3_init 156 = .ok (.getfield 21, 3) := by decide +kernel
theorem dX3_init_159 : decode cX3_init 159 = .ok (.iload 7, 2) := by decide +kernel
theorem dX3_init_161 : decode cX3_init 161 = .ok (.iconst 4, 1) := by decide +kernel
theorem dX3_init_162 : decode cX3_init 162 = .ok (.imul, 1) := by decide +kernel
theorem dX3_init_163 : decode cX3_init 163 = .ok (.iconst 3, 1) := by decide +kernel
theorem dX3_init_164 : decode cX3_init 164 = .ok (.iadd, 1) := by decide +kernel
theorem dX3_init_165 : decode cX3_init 165 = .ok (.iload 5, 2) := by decide +kernel
theorem dX3_init_167 : decode cX3_init 167 = .ok (.iload_n 1, 1) := by decide +kernel
theorem dX3_init_168 : decode cX3_init 168 = .ok (.imul, 1) := by decide +kernel
theorem dX3_init_169 : decode cX3_init 169 = .ok (.iload 6, 2) := by decide +kernel
theorem dX3_init_171 : decode cX3_init 171 = .ok (.iadd, 1) := by decide +kernel
theorem dX3_init_172 : decode cX3_init 172 = .ok (.iastore, 1) := by decide +kernel
theorem dX3_init_173 : decode cX3_init 173 = .ok (.iinc 6 1, 3) := by decide +kernel
theorem dX3_init_176 : decode cX3_init 176 = .ok (.goto (-102), 3) := by decide +kernel
theorem dX3_init_179 : decode cX3_init 179 = .ok (.iinc 3 1, 3) := by decide +kernel
theorem dX3_init_182 : decode cX3_init 182 = .ok (.goto (-147), 3) := by decide +kernel
theorem dX3_init_185 : decode cX3_init 185 = .ok (.return_, 1) := by decide +kernel
theorem dX3_has_0 : decode cX3_has 0 = .ok (.iload_n 1, 1) := by decide +kernel
theorem dX3_has_1 : decode cX3_has 1 = .ok (.ifCond .lt 15, 3) := by decide +kernel
theorem dX3_has_4 : decode cX3_has 4 = .ok (.iload_n 1, 1) := by decide +kernel
theorem dX3_has_5 : decode cX3_has 5 = .ok (.aload_n 0, 1) := by decide +kernel
theorem dX3_has_6 : decode cX3_has 6 = .ok (.getfield 18, 3) := by decide +kernel
theorem dX3_has_9 : decode cX3_has 9 = .ok (.if_icmp .ge 7, 3) := by decide +kernel
theorem dX3_has_12 : decode cX3_has 12 = .ok (.iconst 1, 1) := by decide +kernel
theorem dX3_has_13 : decode cX3_has 13 = .ok (.goto 4, 3) := by decide +kernel
theorem dX3_has_16 : decode cX3_has 16 = .ok (.iconst 0, 1) := by decide +kernel
theorem dX3_has_17 : decode cX3_has 17 = .ok (.ireturn, 1) := by decide +kernel
theorem dX3_beside_0 : decode cX3_beside 0 = .ok (.iload_n 1, 1) := by decide +kernel
theorem dX3_beside_1 : decode cX3_beside 1 = .ok (.iconst 4, 1) := by decide +kernel
theorem dX3_beside_2 : decode cX3_beside 2 = .ok (.imul, 1) := by decide +kernel
theorem dX3_beside_3 : decode cX3_beside 3 = .ok (.iload_n 2, 1) := by decide +kernel
theorem dX3_beside_4 : decode cX3_beside 4 = .ok (.iadd, 1) := by decide +kernel
theorem dX3_beside_5 : decode cX3_beside 5 = .ok (.istore_n 3, 1) := by decide +kernel
theorem dX3_beside_6 : decode cX3_beside 6 = .ok (.iload_n 1, 1) := by decide +kernel
theorem dX3_beside_7 : decode cX3_beside 7 = .ok (.ifCond .lt 25, 3) := by decide +kernel
theorem dX3_beside_10 : decode cX3_beside 10 = .ok (.iload_n 3, 1) := by decide +kernel
theorem dX3_beside_11 : decode cX3_beside 11 = .ok (.ifCond .lt 21, 3) := by decide +kernel
theorem dX3_beside_14 : decode cX3_beside 14 = .ok (.iload_n 3, 1) := by decide +kernel
theorem dX3_beside_15 : decode cX3_beside 15 = .ok (.aload_n 0, 1) := by decide +kernel
theorem dX3_beside_16 : decode cX3_beside 16 = .ok (.getfield 21, 3) := by decide +kernel
theorem dX3_beside_19 : decode cX3_beside 19 = .ok (.arraylength, 1) := by decide +kernel
theorem dX3_beside_20 : decode cX3_beside 20 = .ok (.if_icmp .ge 12, 3) := by decide +kernel
theorem dX3_beside_23 : decode cX3_beside 23 = .ok (.aload_n 0, 1) := by decide +kernel
theorem dX3_beside_24 : decode cX3_beside 24 = .ok (.getfield 21, 3) := by decide +kernel
theorem dX3_beside_27 : decode cX3_beside 27 = .ok (.iload_n 3, 1) := by decide +kernel
theorem dX3_beside_28 : decode cX3_beside 28 = .ok (.iaload, 1) := by decide +kernel
theorem dX3_beside_29 : decode cX3_beside 29 = .ok (.goto 4, 3) := by decide +kernel
theorem dX3_beside_32 : decode cX3_beside 32 = .ok (.iconst (-1), 1) := by decide +kernel
theorem dX3_beside_33 : decode cX3_beside 33 = .ok (.ireturn, 1) := by decide +kernel
end
section
theorem dX2_init_0 : decode cX2_init 0 = .ok (.aload_n 0, 1) := by decide +kernel
theorem dX2_init_1 : decode cX2_init 1 = .ok (.invokespecial 3, 3) := by decide +kernel
theorem dX2_init_4 : decode cX2_init 4 = .ok (.aload_n 0, 1) := by decide +kernel
theorem dX2_init_5 : decode cX2_init 5 = .ok (.bipush 20, 2) := by decide +kernel
theorem dX2_init_7 : decode cX2_init 7 = .ok (.newarray .int, 2) := by decide +kernel
theorem dX2_init_9 : decode cX2_init 9 = .ok (.putfield 9, 3) := by decide +kernel
theorem dX2_init_12 : decode cX2_init 12 = .ok (.aload_n 0, 1) := by decide +kernel
theorem dX2_init_13 : decode cX2_init 13 = .ok (.bipush 20, 2) := by decide +kernel
theorem dX2_init_15 : decode cX2_init 15 = .ok (.newarray .int, 2) := by decide +kernel
theorem dX2_init_17 : decode cX2_init 17 = .ok (.putfield 15, 3) := by decide +kernel
theorem dX2_init_20 : decode cX2_init 20 = .ok (.aload_n 0, 1) := by decide +kernel
theorem dX2_init_21 : decode cX2_init 21 = .ok (.bipush 20, 2) := by decide +kernel
theorem dX2_init_23 : decode cX2_init 23 = .ok (.newarray .int, 2) := by decide +kernel
theorem dX2_init_25 : decode cX2_init 25 = .ok (.putfield 18, 3) := by decide +kernel
theorem dX2_init_28 : decode cX2_init 28 = .ok (.return_, 1) := by decide +kernel
theorem dX2_add_0 : decode cX2_add 0 = .ok (.aload_n 0, 1) := by decide +kernel
theorem dX2_add_1 : decode cX2_add 1 = .ok (.getfield 21, 3) := by decide +kernel
theorem dX2_add_4 : decode cX2_add 4 = .ok (.ifCond .lt 12, 3) := by decide +kernel
theorem dX2_add_7 : decode cX2_add 7 = .ok (.aload_n 0, 1) := by decide +kernel
theorem dX2_add_8 : decode cX2_add 8 = .ok (.getfield 21, 3) := by decide +kernel
theorem dX2_add_11 : decode cX2_add 11 = .ok (.bipush 20, 2) := by decide +kernel
theorem dX2_add_13 : decode cX2_add 13 = .ok (.if_icmp .lt 5, 3) := by decide +kernel
theorem dX2_add_16 : decode cX2_add 16 = .ok (.iconst (-1), 1) := by decide +kernel
theorem dX2_add_17 : decode cX2_add 17 = .ok (.ireturn, 1) := by decide +kernel
theorem dX2_add_18 : decode cX2_add 18 = .ok (.aload_n 0, 1) := by decide +kernel
theorem dX2_add_19 : decode cX2_add 19 = .ok (.getfield 9, 3) := by decide +kernel
theorem dX2_add_22 : decode cX2_add 22 = .ok (.aload_n 0, 1) := by decide +kernel
theorem dX2_add_23 : decode cX2_add 23 = .ok (.getfield 21, 3) := by decide +kernel
theorem dX2_add_26 : decode cX2_add 26 = .ok (.iload_n 1, 1) := by decide +kernel
theorem dX2_add_27 : decode cX2_add 27 = .ok (.iastore, 1) := by decide +kernel
theorem dX2_add_28 : decode cX2_add 28 = .ok (.aload_n 0, 1) := by decide +kernel
theorem dX2_add_29 : decode cX2_add 29 = .ok (.getfield 15, 3) := by decide +kernel
theorem dX2_add_32 : decode cX2_add 32 = .ok (.aload_n 0, 1) := by decide +kernel
theorem dX2_add_33 : decode cX2_add 33 = .ok (.getfield 21, 3) := by decide +kernel
theorem dX2_add_36 : decode cX2_add 36 = .ok (.iload_n 2, 1) := by decide +kernel
theorem dX2_add_37 : decode cX2_add 37 = .ok (.iastore, 1) := by decide +kernel
theorem dX2_add_38 : decode cX2_add 38 = .ok (.aload_n 0, 1) := by decide +kernel
theorem dX2_add_39 : decode cX2_add 39 = .ok (.getfield 18, 3) := by decide +kernel
theorem dX2_add_42 : decode cX2_add 42 = .ok (.aload_n 0, 1) := by decide +kernel
theorem dX2_add_43 : decode cX2_add 43 = .ok (.getfield 21, 3) := by decide +kernel
theorem dX2_add_46 : decode cX2_add 46 = .ok (.iload_n 3, 1) := by decide +kernel
theorem dX2_add_47 : decode cX2_add 47 = .ok (.iastore, 1) := by decide +kernel
theorem dX2_add_48 : decode cX2_add 48 = .ok (.aload_n 0, 1) := by decide +kernel
theorem dX2_add_49 : decode cX2_add 49 = .ok (.dup, 1) := by decide +kernel
theorem dX2_add_50 : decode cX2_add 50 = .ok (.getfield 21, 3) := by decide +kernel
theorem dX2_add_53 : decode cX2_add 53 = .ok (.iconst 1, 1) := by decide +kernel
theorem dX2_add_54 : decode cX2_add 54 = .ok (.iadd, 1) := by decide +kernel
theorem dX2_add_55 : decode cX2_add 55 = .ok (.putfield 21, 3) := by decide +kernel
theorem dX2_add_58 : decode cX2_add 58 = .ok (.aload_n 0, 1) := by decide +kernel
theorem dX2_add_59 : decode cX2_add 59 = .ok (.getfield 21, 3) := by decide +kernel
theorem dX2_add_62 : decode cX2_add 62 = .ok (.ireturn, 1) := by decide +kernel
theorem dX2_agreeWith_0 : decode cX2_agreeWith 0 = .ok (.iconst 0, 1) := by decide +kernel
theorem dX2_agreeWith_1 : decode cX2_agreeWith 1 = .ok (.istore_n 2, 1) := by decide +kernel
theorem dX2_agreeWith_2 : decode cX2_agreeWith 2 = .ok (.iload_n 2, 1) := by decide +kernel
theorem dX2_agreeWith_3 : decode cX2_agreeWith 3 = .ok (.aload_n 0, 1) := by decide +kernel
theorem dX2_agreeWith_4 : decode cX2_agreeWith 4 = .ok (.getfield 21, 3) := by decide +kernel
theorem dX2_agreeWith_7 : decode cX2_agreeWith 7 = .ok (.if_icmp .ge 47, 3) := by decide +kernel
theorem dX2_agreeWith_10 : decode cX2_agreeWith 10 = .ok (.iload_n 2, 1) := by decide +kernel
theorem dX2_agreeWith_11 : decode cX2_agreeWith 11 = .ok (.bipush 20, 2) := by decide +kernel
theorem dX2_agreeWith_13 : decode cX2_agreeWith 13 = .ok (.if_icmp .ge 41, 3) := by decide +kernel
theorem dX2_agreeWith_16 : decode cX2_agreeWith 16 = .ok (.aload_n 1, 1) := by decide +kernel
theorem dX2_agreeWith_17 : decode cX2_agreeWith 17 = .ok (.aload_n 0, 1) := by decide +kernel
theorem dX2_agreeWith_18 : decode cX2_agreeWith 18 = .ok (.getfield 9, 3) := by decide +kernel
theorem dX2_agreeWith_21 : decode cX2_agreeWith 21 = .ok (.iload_n 2, 1) := by decide +kernel
theorem dX2_agreeWith_22 : decode cX2_agreeWith 22 = .ok (.iaload, 1) := by decide +kernel
theorem dX2_agreeWith_23 : decode cX2_agreeWith 23 = .ok (.iconst 0, 1) := by decide +kernel
theorem dX2_agreeWith_24 : decode cX2_agreeWith 24 = .ok (.invokevirtual 25, 3) := by decide +kernel
theorem dX2_agreeWith_27 : decode cX2_agreeWith 27 = .ok (.aload_n 0, 1) := by decide +kernel
theorem dX2_agreeWith_28 : decode cX2_agreeWith 28 = .ok (.getfield 15, 3) := by decide +kernel
theorem dX2_agreeWith_31 : decode cX2_agreeWith 31 = .ok (.iload_n 2, 1) := by decide +kernel
theorem dX2_agreeWith_32 : decode cX2_agreeWith 32 = .ok (.iaload, 1) := by decide +kernel
theorem dX2_agreeWith_33 : decode cX2_agreeWith 33 = .ok (.isub, 1) := by decide +kernel
theorem dX2_agreeWith_34 : decode cX2_agreeWith 34 = .ok (.invokestatic 31, 3) := by decide +kernel
theorem dX2_agreeWith_37 : decode cX2_agreeWith 37 = .ok (.aload_n 0, 1) := by decide +kernel
theorem dX2_agreeWith_38 : decode cX2_agreeWith 38 = .ok (.getfield 18, 3) := by decide +kernel
theorem dX2_agreeWith_41 : decode cX2_agreeWith 41 = .ok (.iload_n 2, 1) := by decide +kernel
theorem dX2_agreeWith_42 : decode cX2_agreeWith 42 = .ok (.iaload, 1) := by decide +kernel
theorem dX2_agreeWith_43 : decode cX2_agreeWith 43 = .ok (.if_icmp .le 5, 3) := by decide +kernel
theorem dX2_agreeWith_46 : decode cX2_agreeWith 46 = .ok (.iconst 0, 1) := by decide +kernel
theorem dX2_agreeWith_47 : decode cX2_agreeWith 47 = .ok (.ireturn, 1) := by decide +kernel
theorem dX2_agreeWith_48 : decode cX2_agreeWith 48 = .ok (.iinc 2 1, 3) := by decide +kernel
theorem dX2_agreeWith_51 : decode cX2_agreeWith 51 = .ok (.goto (-49), 3) := by decide +kernel
theorem dX2_agreeWith_54 : decode cX2_agreeWith 54 = .ok (.iconst 1, 1) := by decide +kernel
theorem dX2_agreeWith_55 : decode cX2_agreeWith 55 = .ok (.ireturn, 1) := by decide +kernel
end
section
theorem dX5_init_0 : decode cX5_init 0 = .ok (.aload_n 0, 1) := by decide +kernel
theorem dX5_init_1 : decode cX5_init 1 = .ok (.invokespecial 3, 3) := by decide +kernel
theorem dX5_init_4 : decode cX5_init 4 = .ok (.aload_n 0, 1) := by decide +kernel
theorem dX5_init_5 : decode cX5_init 5 = .ok (.bipush 20, 2) := by decide +kernel
theorem dX5_init_7 : decode cX5_init 7 = .ok (.newarray .int, 2) := by decide +kernel
theorem dX5_init_9 : decode cX5_init 9 = .ok (.putfield 9, 3) := by decide +kernel
theorem dX5_init_12 : decode cX5_init 12 = .ok (.aload_n 0, 1) := by decide +kernel
theorem dX5_init_13 : decode cX5_init 13 = .ok (.bipush 20, 2) := by decide +kernel
theorem dX5_init_15 : decode cX5_init 15 = .ok (.newarray .int, 2) := by decide +kernel
theorem dX5_init_17 : decode cX5_init 17 = .ok (.putfield 15, 3) := by decide +kernel
theorem dX5_init_20 : decode cX5_init 20 = .ok (.return_, 1) := by decide +kernel
theorem dX5_clear_0 : decode cX5_clear 0 = .ok (.aload_n 0, 1) := by decide +kernel
theorem dX5_clear_1 : decode cX5_clear 1 = .ok (.iconst 0, 1) := by decide +kernel
theorem dX5_clear_2 : decode cX5_clear 2 = .ok (.putfield 18, 3) := by decide +kernel
theorem dX5_clear_5 : decode cX5_clear 5 = .ok (.aload_n 0, 1) := by decide +kernel
theorem dX5_clear_6 : decode cX5_clear 6 = .ok (.iconst 0, 1) := by decide +kernel
theorem dX5_clear_7 : decode cX5_clear 7 = .ok (.putfield 22, 3) := by decide +kernel
theorem dX5_clear_10 : decode cX5_clear 10 = .ok (.aload_n 0, 1) := by decide +kernel
theorem dX5_clear_11 : decode cX5_clear 11 = .ok (.iconst 0, 1) := by decide +kernel
theorem dX5_clear_12 : decode cX5_clear 12 = .ok (.putfield 25, 3) := by decide +kernel
theorem dX5_clear_15 : decode cX5_clear 15 = .ok (.return_, 1) := by decide +kernel
theorem dX5_isFull_0 : decode cX5_isFull 0 = .ok (.aload_n 0, 1) := by decide +kernel
theorem dX5_isFull_1 : decode cX5_isFull 1 = .ok (.getfield 18, 3) := by decide +kernel
theorem dX5_isFull_4 : decode cX5_isFull 4 = .ok (.bipush 20, 2) := by decide +kernel
theorem dX5_isFull_6 : decode cX5_isFull 6 = .ok (.if_icmp .lt 7, 3) := by decide +kernel
theorem dX5_isFull_9 : decode cX5_isFull 9 = .ok (.iconst 1, 1) := by decide +kernel
theorem dX5_isFull_10 : decode cX5_isFull 10 = .ok (.goto 4, 3) := by decide +kernel
theorem dX5_isFull_13 : decode cX5_isFull 13 = .ok (.iconst 0, 1) := by decide +kernel
theorem dX5_isFull_14 : decode cX5_isFull 14 = .ok (.ireturn, 1) := by decide +kernel
theorem dX5_add_0 : decode cX5_add 0 = .ok (.aload_n 0, 1) := by decide +kernel
theorem dX5_add_1 : decode cX5_add 1 = .ok (.invokevirtual 28, 3) := by decide +kernel
theorem dX5_add_4 : decode cX5_add 4 = .ok (.ifCond .ne 10, 3) := by decide +kernel
theorem dX5_add_7 : decode cX5_add 7 = .ok (.aload_n 0, 1) := by decide +kernel
theorem dX5_add_8 : decode cX5_add 8 = .ok (.getfield 18, 3) := by decide +kernel
theorem dX5_add_11 : decode cX5_add 11 = .ok (.ifCond .ge 4, 3) := by decide +kernel
theorem dX5_add_14 : decode cX5_add 14 = .ok (.return_, 1) := by decide +kernel
theorem dX5_add_15 : decode cX5_add 15 = .ok (.aload_n 0, 1) := by decide +kernel
theorem dX5_add_16 : decode cX5_add 16 = .ok (.getfield 9, 3) := by decide +kernel
theorem dX5_add_19 : decode cX5_add 19 = .ok (.aload_n 0, 1) := by decide +kernel
theorem dX5_add_20 : decode cX5_add 20 = .ok (.getfield 18, 3) := by decide +kernel
theorem dX5_add_23 : decode cX5_add 23 = .ok (.iload_n 1, 1) := by decide +kernel
theorem dX5_add_24 : decode cX5_add 24 = .ok (.iastore, 1) := by decide +kernel
theorem dX5_add_25 : decode cX5_add 25 = .ok (.aload_n 0, 1) := by decide +kernel
theorem dX5_add_26 : decode cX5_add 26 = .ok (.getfield 15, 3) := by decide +kernel
theorem dX5_add_29 : decode cX5_add 29 = .ok (.aload_n 0, 1) := by decide +kernel
theorem dX5_add_30 : decode cX5_add 30 = .ok (.getfield 18, 3) := by decide +kernel
theorem dX5_add_33 : decode cX5_add 33 = .ok (.iload_n 2, 1) := by decide +kernel
theorem dX5_add_34 : decode cX5_add 34 = .ok (.iastore, 1) := by decide +kernel
theorem dX5_add_35 : decode cX5_add 35 = .ok (.aload_n 0, 1) := by decide +kernel
theorem dX5_add_36 : decode cX5_add 36 = .ok (.dup, 1) := by decide +kernel
theorem dX5_add_37 : decode cX5_add 37 = .ok (.getfield 18, 3) := by decide +kernel
theorem dX5_add_40 : decode cX5_add 40 = .ok (.iconst 1, 1) := by decide +kernel
theorem dX5_add_41 : decode cX5_add 41 = .ok (.iadd, 1) := by decide +kernel
theorem dX5_add_42 : decode cX5_add 42 = .ok (.putfield 18, 3) := by decide +kernel
theorem dX5_add_45 : decode cX5_add 45 = .ok (.return_, 1) := by decide +kernel
theorem dX5_next_0 : decode cX5_next 0 = .ok (.aload_n 0, 1) := by decide +kernel
theorem dX5_next_1 : decode cX5_next 1 = .ok (.getfield 22, 3) := by decide +kernel
theorem dX5_next_4 : decode cX5_next 4 = .ok (.ifCond .lt 38, 3) := by decide +kernel
theorem dX5_next_7 : decode cX5_next 7 = .ok (.aload_n 0, 1) := by decide +kernel
theorem dX5_next_8 : decode cX5_next 8 = .ok (.getfield 22, 3) := by decide +kernel
theorem dX5_next_11 : decode cX5_next 11 = .ok (.aload_n 0, 1) := by decide +kernel
theorem dX5_next_12 : decode cX5_next 12 = .ok (.getfield 18, 3) := by decide +kernel
theorem dX5_next_15 : decode cX5_next 15 = .ok (.if_icmp .ge 27, 3) := by decide +kernel
theorem dX5_next_18 : decode cX5_next 18 = .ok (.aload_n 0, 1) := by decide +kernel
theorem dX5_next_19 : decode cX5_next 19 = .ok (.getfield 22, 3) := by decide +kernel
theorem dX5_next_22 : decode cX5_next 22 = .ok (.aload_n 0, 1) := by decide +kernel
theorem dX5_next_23 : decode cX5_next 23 = .ok (.getfield 9, 3) := by decide +kernel
theorem dX5_next_26 : decode cX5_next 26 = .ok (.arraylength, 1) := by decide +kernel
theorem dX5_next_27 : decode cX5_next 27 = .ok (.if_icmp .ge 15, 3) := by decide +kernel
theorem dX5_next_30 : decode cX5_next 30 = .ok (.aload_n 0, 1) := by decide +kernel
theorem dX5_next_31 : decode cX5_next 31 = .ok (.getfield 9, 3) := by decide +kernel
theorem dX5_next_34 : decode cX5_next 34 = .ok (.aload_n 0, 1) := by decide +kernel
theorem dX5_next_35 : decode cX5_next 35 = .ok (.getfield 22, 3) := by decide +kernel
theorem dX5_next_38 : decode cX5_next 38 = .ok (.iaload, 1) := by decide +kernel
theorem dX5_next_39 : decode cX5_next 39 = .ok (.goto 4, 3) := by decide +kernel
theorem dX5_next_42 : decode cX5_next 42 = .ok (.iconst 4, 1) := by decide +kernel
theorem dX5_next_43 : decode cX5_next 43 = .ok (.ireturn, 1) := by decide +kernel
theorem dX5_passDay_0 : decode cX5_passDay 0 = .ok (.aload_n 0, 1) := by decide +kernel
theorem dX5_passDay_1 : decode cX5_passDay 1 = .ok (.getfield 22, 3) := by decide +kernel
theorem dX5_passDay_4 : decode cX5_passDay 4 = .ok (.ifCond .lt 26, 3) := by decide +kernel
theorem dX5_passDay_7 : decode cX5_passDay 7 = .ok (.aload_n 0, 1) := by decide +kernel
theorem dX5_passDay_8 : decode cX5_passDay 8 = .ok (.getfield 22, 3) := by decide +kernel
theorem dX5_passDay_11 : decode cX5_passDay 11 = .ok (.aload_n 0, 1) := by decide +kernel
theorem dX5_passDay_12 : decode cX5_passDay 12 = .ok (.getfield 18, 3) := by decide +kernel
theorem dX5_passDay_15 : decode cX5_passDay 15 = .ok (.if_icmp .ge 15, 3) := by decide +kernel
theorem dX5_passDay_18 : decode cX5_passDay 18 = .ok (.aload_n 0, 1) := by decide +kernel
theorem dX5_passDay_19 : decode cX5_passDay 19 = .ok (.getfield 22, 3) := by decide +kernel
theorem dX5_passDay_22 : decode cX5_passDay 22 = .ok (.aload_n 0, 1) := by decide +kernel
theorem dX5_passDay_23 : decode cX5_passDay 23 = .ok (.getfield 15, 3) := by decide +kernel
theorem dX5_passDay_26 : decode cX5_passDay 26 = .ok (.arraylength, 1) := by decide +kernel
theorem dX5_passDay_27 : decode cX5_passDay 27 = .ok (.if_icmp .lt 4, 3) := by decide +kernel
theorem dX5_passDay_30 : decode cX5_passDay 30 = .ok (.return_, 1) := by decide +kernel
theorem dX5_passDay_31 : decode cX5_passDay 31 = .ok (.aload_n 0, 1) := by decide +kernel
theorem dX5_passDay_32 : decode cX5_passDay 32 = .ok (.dup, 1) := by decide +kernel
theorem dX5_passDay_33 : decode cX5_passDay 33 = .ok (.getfield 25, 3) := by decide +kernel
theorem dX5_passDay_36 : decode cX5_passDay 36 = .ok (.iconst 1, 1) := by decide +kernel
theorem dX5_passDay_37 : decode cX5_passDay 37 = .ok (.iadd, 1) := by decide +kernel
theorem dX5_passDay_38 : decode cX5_passDay 38 = .ok (.putfield 25, 3) := by decide +kernel
theorem dX5_passDay_41 : decode cX5_passDay 41 = .ok (.aload_n 0, 1) := by decide +kernel
theorem dX5_passDay_42 : decode cX5_passDay 42 = .ok (.getfield 25, 3) := by decide +kernel
theorem dX5_passDay_45 : decode cX5_passDay 45 = .ok (.aload_n 0, 1) := by decide +kernel
theorem dX5_passDay_46 : decode cX5_passDay 46 = .ok (.getfield 15, 3) := by decide +kernel
theorem dX5_passDay_49 : decode cX5_passDay 49 = .ok (.aload_n 0, 1) := by decide +kernel
theorem dX5_passDay_50 : decode cX5_passDay 50 = .ok (.getfield 22, 3) := by decide +kernel
theorem dX5_passDay_53 : decode cX5_passDay 53 = .ok (.iaload, 1) := by decide +kernel
theorem dX5_passDay_54 : decode cX5_passDay 54 = .ok (.if_icmp .lt 35, 3) := by decide +kernel
theorem dX5_passDay_57 : decode cX5_passDay 57 = .ok (.aload_n 0, 1) := by decide +kernel
theorem dX5_passDay_58 : decode cX5_passDay 58 = .ok (.iconst 0, 1) := by decide +kernel
theorem dX5_passDay_59 : decode cX5_passDay 59 = .ok (.putfield 25, 3) := by decide +kernel
theorem dX5_passDay_62 : decode cX5_passDay 62 = .ok (.aload_n 0, 1) := by decide +kernel
theorem dX5_passDay_63 : decode cX5_passDay 63 = .ok (.aload_n 0, 1) := by decide +kernel
theorem dX5_passDay_64 : decode cX5_passDay 64 = .ok (.getfield 22, 3) := by decide +kernel
theorem dX5_passDay_67 : decode cX5_passDay 67 = .ok (.iconst 1, 1) := by decide +kernel
theorem dX5_passDay_68 : decode cX5_passDay 68 = .ok (.iadd, 1) := by decide +kernel
theorem dX5_passDay_69 : decode cX5_passDay 69 = .ok (.aload_n 0, 1) := by decide +kernel
theorem dX5_passDay_70 : decode cX5_passDay 70 = .ok (.getfield 18, 3) := by decide +kernel
theorem dX5_passDay_73 : decode cX5_passDay 73 = .ok (.if_icmp .ge 12, 3) := by decide +kernel
theorem dX5_passDay_76 : decode cX5_passDay 76 = .ok (.aload_n 0, 1) := by decide +kernel
theorem dX5_passDay_77 : decode cX5_passDay 77 = .ok (.getfield 22, 3) := by decide +kernel
theorem dX5_passDay_80 : decode cX5_passDay 80 = .ok (.iconst 1, 1) := by decide +kernel
theorem dX5_passDay_81 : decode cX5_passDay 81 = .ok (.iadd, 1) := by decide +kernel
theorem dX5_passDay_82 : decode cX5_passDay 82 = .ok (.goto 4, 3) := by decide +kernel
theorem dX5_passDay_85 : decode cX5_passDay 85 = .ok (.iconst 0, 1) := by decide +kernel
theorem dX5_passDay_86 : decode cX5_passDay 86 = .ok (.putfield 22, 3) := by decide +kernel
theorem dX5_passDay_89 : decode cX5_passDay 89 = .ok (.return_, 1) := by decide +kernel
theorem dX5_copyFrom_0 : decode cX5_copyFrom 0 = .ok (.aload_n 1, 1) := by decide +kernel
theorem dX5_copyFrom_1 : decode cX5_copyFrom 1 = .ok (.getfield 9, 3) := by decide +kernel
theorem dX5_copyFrom_4 : decode cX5_copyFrom 4 = .ok (.aload_n 0, 1) := by decide +kernel
theorem dX5_copyFrom_5 : decode cX5_copyFrom 5 = .ok (.getfield 9, 3) := by decide +kernel
theorem dX5_copyFrom_8 : decode cX5_copyFrom 8 = .ok (.invokestatic 32, 3) := by decide +kernel
theorem dX5_copyFrom_11 : decode cX5_copyFrom 11 = .ok (.aload_n 1, 1) := by decide +kernel
theorem dX5_copyFrom_12 : decode cX5_copyFrom 12 = .ok (.getfield 15, 3) := by decide +kernel
theorem dX5_copyFrom_15 : decode cX5_copyFrom 15 = .ok (.aload_n 0, 1) := by decide +kernel
theorem dX5_copyFrom_16 : decode cX5_copyFrom 16 = .ok (.getfield 15, 3) := by decide +kernel
theorem dX5_copyFrom_19 : decode cX5_copyFrom 19 = .ok (.invokestatic 32, 3) := by decide +kernel
theorem dX5_copyFrom_22 : decode cX5_copyFrom 22 = .ok (.aload_n 0, 1) := by decide +kernel
theorem dX5_copyFrom_23 : decode cX5_copyFrom 23 = .ok (.aload_n 1, 1) := by decide +kernel
theorem dX5_copyFrom_24 : decode cX5_copyFrom 24 = .ok (.getfield 18, 3) := by decide +kernel
theorem dX5_copyFrom_27 : decode cX5_copyFrom 27 = .ok (.putfield 18, 3) := by decide +kernel
theorem dX5_copyFrom_30 : decode cX5_copyFrom 30 = .ok (.aload_n 0, 1) := by decide +kernel
theorem dX5_copyFrom_31 : decode cX5_copyFrom 31 = .ok (.aload_n 1, 1) := by decide +kernel
theorem dX5_copyFrom_32 : decode cX5_copyFrom 32 = .ok (.getfield 22, 3) := by decide +kernel
theorem dX5_copyFrom_35 : decode cX5_copyFrom 35 = .ok (.putfield 22, 3) := by decide +kernel
theorem dX5_copyFrom_38 : decode cX5_copyFrom 38 = .ok (.aload_n 0, 1) := by decide +kernel
theorem dX5_copyFrom_39 : decode cX5_copyFrom 39 = .ok (.aload_n 1, 1) := by decide +kernel
theorem dX5_copyFrom_40 : decode cX5_copyFrom 40 = .ok (.getfield 25, 3) := by decide +kernel
theorem dX5_copyFrom_43 : decode cX5_copyFrom 43 = .ok (.putfield 25, 3) := by decide +kernel
theorem dX5_copyFrom_46 : decode cX5_copyFrom 46 = .ok (.return_, 1) := by decide +kernel
end
section
theorem dX6_init_0 : decode cX6_init 0 = .ok (.aload_n 0, 1) := by decide +kernel
theorem dX6_init_1 : decode cX6_init 1 = .ok (.invokespecial 3, 3) := by decide +kernel
theorem dX6_init_4 : decode cX6_init 4 = .ok (.aload_n 0, 1) := by decide +kernel
theorem dX6_init_5 : decode cX6_init 5 = .ok (.iconst 4, 1) := by decide +kernel
theorem dX6_init_6 : decode cX6_init 6 = .ok (.newarray .int, 2) := by decide +kernel
theorem dX6_init_8 : decode cX6_init 8 = .ok (.putfield 9, 3) := by decide +kernel
theorem dX6_init_11 : decode cX6_init 11 = .ok (.aload_n 0, 1) := by decide +kernel
theorem dX6_init_12 : decode cX6_init 12 = .ok (.iconst 4, 1) := by decide +kernel
theorem dX6_init_13 : decode cX6_init 13 = .ok (.newarray .int, 2) := by decide +kernel
theorem dX6_init_15 : decode cX6_init 15 = .ok (.putfield 15, 3) := by decide +kernel
theorem dX6_init_18 : decode cX6_init 18 = .ok (.aload_n 0, 1) := by decide +kernel
theorem dX6_init_19 : decode cX6_init 19 = .ok (.iconst 4, 1) := by decide +kernel
theorem dX6_init_20 : decode cX6_init 20 = .ok (.newarray .int, 2) := by decide +kernel
theorem dX6_init_22 : decode cX6_init 22 = .ok (.putfield 18, 3) := by decide +kernel
theorem dX6_init_25 : decode cX6_init 25 = .ok (.aload_n 0, 1) := by decide +kernel
theorem dX6_init_26 : decode cX6_init 26 = .ok (.iconst 4, 1) := by decide +kernel
theorem dX6_init_27 : decode cX6_init 27 = .ok (.newarray .int, 2) := by decide +kernel
theorem dX6_init_29 : decode cX6_init 29 = .ok (.putfield 21, 3) := by decide +kernel
theorem dX6_init_32 : decode cX6_init 32 = .ok (.return_, 1) := by decide +kernel
theorem dX6_add_0 : decode cX6_add 0 = .ok (.aload_n 0, 1) := by decide +kernel
theorem dX6_add_1 : decode cX6_add 1 = .ok (.getfield 24, 3) := by decide +kernel
theorem dX6_add_4 : decode cX6_add 4 = .ok (.ifCond .lt 11, 3) := by decide +kernel
theorem dX6_add_7 : decode cX6_add 7 = .ok (.aload_n 0, 1) := by decide +kernel
theorem dX6_add_8 : decode cX6_add 8 = .ok (.getfield 24, 3) := by decide +kernel
theorem dX6_add_11 : decode cX6_add 11 = .ok (.iconst 4, 1) := by decide +kernel
theorem dX6_add_12 : decode cX6_add 12 = .ok (.if_icmp .lt 5, 3) := by decide +kernel
theorem dX6_add_15 : decode cX6_add 15 = .ok (.iconst (-1), 1) := by decide +kernel
theorem dX6_add_16 : decode cX6_add 16 = .ok (.ireturn, 1) := by decide +kernel
theorem dX6_add_17 : decode cX6_add 17 = .ok (.aload_n 0, 1) := by decide +kernel
theorem dX6_add_18 : decode cX6_add 18 = .ok (.getfield 9, 3) := by decide +kernel
theorem dX6_add_21 : decode cX6_add 21 = .ok (.aload_n 0, 1) := by decide +kernel
theorem dX6_add_22 : decode cX6_add 22 = .ok (.getfield 24, 3) := by decide +kernel
theorem dX6_add_25 : decode cX6_add 25 = .ok (.iload_n 1, 1) := by decide +kernel
theorem dX6_add_26 : decode cX6_add 26 = .ok (.iastore, 1) := by decide +kernel
theorem dX6_add_27 : decode cX6_add 27 = .ok (.aload_n 0, 1) := by decide +kernel
theorem dX6_add_28 : decode cX6_add 28 = .ok (.getfield 15, 3) := by decide +kernel
theorem dX6_add_31 : decode cX6_add 31 = .ok (.aload_n 0, 1) := by decide +kernel
theorem dX6_add_32 : decode cX6_add 32 = .ok (.getfield 24, 3) := by decide +kernel
theorem dX6_add_35 : decode cX6_add 35 = .ok (.iload_n 2, 1) := by decide +kernel
theorem dX6_add_36 : decode cX6_add 36 = .ok (.iastore, 1) := by decide +kernel
theorem dX6_add_37 : decode cX6_add 37 = .ok (.aload_n 0, 1) := by decide +kernel
theorem dX6_add_38 : decode cX6_add 38 = .ok (.getfield 18, 3) := by decide +kernel
theorem dX6_add_41 : decode cX6_add 41 = .ok (.aload_n 0, 1) := by decide +kernel
theorem dX6_add_42 : decode cX6_add 42 = .ok (.getfield 24, 3) := by decide +kernel
theorem dX6_add_45 : decode cX6_add 45 = .ok (.iload_n 3, 1) := by decide +kernel
theorem dX6_add_46 : decode cX6_add 46 = .ok (.iastore, 1) := by decide +kernel
theorem dX6_add_47 : decode cX6_add 47 = .ok (.aload_n 0, 1) := by decide +kernel
theorem dX6_add_48 : decode cX6_add 48 = .ok (.getfield 21, 3) := by decide +kernel
theorem dX6_add_51 : decode cX6_add 51 = .ok (.aload_n 0, 1) := by decide +kernel
theorem dX6_add_52 : decode cX6_add 52 = .ok (.getfield 24, 3) := by decide +kernel
theorem dX6_add_55 : decode cX6_add 55 = .ok (.iload 4, 2) := by decide +kernel
theorem dX6_add_57 : decode cX6_add 57 = .ok (.iastore, 1) := by decide +kernel
theorem dX6_add_58 : decode cX6_add 58 = .ok (.aload_n 0, 1) := by decide +kernel
theorem dX6_add_59 : decode cX6_add 59 = .ok (.dup, 1) := by decide +kernel
theorem dX6_add_60 : decode cX6_add 60 = .ok (.getfield 24, 3) := by decide +kernel
theorem dX6_add_63 : decode cX6_add 63 = .ok (.iconst 1, 1) := by decide +kernel
theorem dX6_add_64 : decode cX6_add 64 = .ok (.iadd, 1) := by decide +kernel
theorem dX6_add_65 : decode cX6_add 65 = .ok (.putfield 24, 3) := by decide +kernel
theorem dX6_add_68 : decode cX6_add 68 = .ok (.aload_n 0, 1) := by decide +kernel
theorem dX6_add_69 : decode cX6_add 69 = .ok (.getfield 24, 3) := by decide +kernel
theorem dX6_add_72 : decode cX6_add 72 = .ok (.iconst 1, 1) := by decide +kernel
theorem dX6_add_73 : decode cX6_add 73 = .ok (.isub, 1) := by decide +kernel
theorem dX6_add_74 : decode cX6_add 74 = .ok (.ireturn, 1) := by decide +kernel
theorem dX6_costOf_0 : decode cX6_costOf 0 = .ok (.iconst 0, 1) := by decide +kernel
theorem dX6_costOf_1 : decode cX6_costOf 1 = .ok (.istore_n 2, 1) := by decide +kernel
theorem dX6_costOf_2 : decode cX6_costOf 2 = .ok (.iconst 0, 1) := by decide +kernel
theorem dX6_costOf_3 : decode cX6_costOf 3 = .ok (.istore_n 3, 1) := by decide +kernel
theorem dX6_costOf_4 : decode cX6_costOf 4 = .ok (.iload_n 3, 1) := by decide +kernel
theorem dX6_costOf_5 : decode cX6_costOf 5 = .ok (.aload_n 0, 1) := by decide +kernel
theorem dX6_costOf_6 : decode cX6_costOf 6 = .ok (.getfield 24, 3) := by decide +kernel
theorem dX6_costOf_9 : decode cX6_costOf 9 = .ok (.if_icmp .ge 31, 3) := by decide +kernel
theorem dX6_costOf_12 : decode cX6_costOf 12 = .ok (.iload_n 3, 1) := by decide +kernel
theorem dX6_costOf_13 : decode cX6_costOf 13 = .ok (.iconst 4, 1) := by decide +kernel
theorem dX6_costOf_14 : decode cX6_costOf 14 = .ok (.if_icmp .ge 26, 3) := by decide +kernel
theorem dX6_costOf_17 : decode cX6_costOf 17 = .ok (.iload_n 1, 1) := by decide +kernel
theorem dX6_costOf_18 : decode cX6_costOf 18 = .ok (.iload_n 3, 1) := by decide +kernel
theorem dX6_costOf_19 : decode cX6_costOf 19 = .ok (.ishr, 1) := by decide +kernel
theorem dX6_costOf_20 : decode cX6_costOf 20 = .ok (.iconst 1, 1) := by decide +kernel
theorem dX6_costOf_21 : decode cX6_costOf 21 = .ok (.iand, 1) := by decide +kernel
theorem dX6_costOf_22 : decode cX6_costOf 22 = .ok (.ifCond .eq 12, 3) := by decide +kernel
theorem dX6_costOf_25 : decode cX6_costOf 25 = .ok (.iload_n 2, 1) := by decide +kernel
theorem dX6_costOf_26 : decode cX6_costOf 26 = .ok (.aload_n 0, 1) := by decide +kernel
theorem dX6_costOf_27 : decode cX6_costOf 27 = .ok (.getfield 21, 3) := by decide +kernel
theorem dX6_costOf_30 : decode cX6_costOf 30 = .ok (.iload_n 3, 1) := by decide +kernel
theorem dX6_costOf_31 : decode cX6_costOf 31 = .ok (.iaload, 1) := by decide +kernel
theorem dX6_costOf_32 : decode cX6_costOf 32 = .ok (.iadd, 1) := by decide +kernel
theorem dX6_costOf_33 : decode cX6_costOf 33 = .ok (.istore_n 2, 1) := by decide +kernel
theorem dX6_costOf_34 : decode cX6_costOf 34 = .ok (.iinc 3 1, 3) := by decide +kernel
theorem dX6_costOf_37 : decode cX6_costOf 37 = .ok (.goto (-33), 3) := by decide +kernel
theorem dX6_costOf_40 : decode cX6_costOf 40 = .ok (.iload_n 2, 1) := by decide +kernel
theorem dX6_costOf_41 : decode cX6_costOf 41 = .ok (.ireturn, 1) := by decide +kernel
theorem dX6_carryOut_0 : decode cX6_carryOut 0 = .ok (.iconst 0, 1) := by decide +kernel
theorem dX6_carryOut_1 : decode cX6_carryOut 1 = .ok (.istore_n 3, 1) := by decide +kernel
theorem dX6_carryOut_2 : decode cX6_carryOut 2 = .ok (.iload_n 3, 1) := by decide +kernel
theorem dX6_carryOut_3 : decode cX6_carryOut 3 = .ok (.aload_n 0, 1) := by decide +kernel
theorem dX6_carryOut_4 : decode cX6_carryOut 4 = .ok (.getfield 24, 3) := by decide +kernel
theorem dX6_carryOut_7 : decode cX6_carryOut 7 = .ok (.if_icmp .ge 100, 3) := by decide +kernel
theorem dX6_carryOut_10 : decode cX6_carryOut 10 = .ok (.iload_n 3, 1) := by decide +kernel
theorem dX6_carryOut_11 : decode cX6_carryOut 11 = .ok (.iconst 4, 1) := by decide +kernel
theorem dX6_carryOut_12 : decode cX6_carryOut 12 = .ok (.if_icmp .ge 95, 3) := by decide +kernel
theorem dX6_carryOut_15 : decode cX6_carryOut 15 = .ok (.iload_n 1, 1) := by decide +kernel
theorem dX6_carryOut_16 : decode cX6_carryOut 16 = .ok (.iload_n 3, 1) := by decide +kernel
theorem dX6_carryOut_17 : decode cX6_carryOut 17 = .ok (.ishr, 1) := by decide +kernel
theorem dX6_carryOut_18 : decode cX6_carryOut 18 = .ok (.iconst 1, 1) := by decide +kernel
theorem dX6_carryOut_19 : decode cX6_carryOut 19 = .ok (.iand, 1) := by decide +kernel
theorem dX6_carryOut_20 : decode cX6_carryOut 20 = .ok (.ifCond .ne 6, 3) := by decide +kernel
theorem dX6_carryOut_23 : decode cX6_carryOut 23 = .ok (.goto 78, 3) := by decide +kernel
theorem dX6_carryOut_26 : decode cX6_carryOut 26 = .ok (.aload_n 0, 1) := by decide +kernel
theorem dX6_carryOut_27 : decode cX6_carryOut 27 = .ok (.getfield 9, 3) := by decide +kernel
theorem dX6_carryOut_30 : decode cX6_carryOut 30 = .ok (.iload_n 3, 1) := by decide +kernel
theorem dX6_carryOut_31 : decode cX6_carryOut 31 = .ok (.iaload, 1) := by decide +kernel
theorem dX6_carryOut_32 : decode cX6_carryOut 32 = .ok (.ifCond .ne 23, 3) := by decide +kernel
theorem dX6_carryOut_35 : decode cX6_carryOut 35 = .ok (.aload_n 2, 1) := by decide +kernel
theorem dX6_carryOut_36 : decode cX6_carryOut 36 = .ok (.aload_n 0, 1) := by decide +kernel
theorem dX6_carryOut_37 : decode cX6_carryOut 37 = .ok (.getfield 15, 3) := by decide +kernel
theorem dX6_carryOut_40 : decode cX6_carryOut 40 = .ok (.iload_n 3, 1) := by decide +kernel
theorem dX6_carryOut_41 : decode cX6_carryOut 41 = .ok (.iaload, 1) := by decide +kernel
theorem dX6_carryOut_42 : decode cX6_carryOut 42 = .ok (.iconst 1, 1) := by decide +kernel
theorem dX6_carryOut_43 : decode cX6_carryOut 43 = .ok (.aload_n 0, 1) := by decide +kernel
theorem dX6_carryOut_44 : decode cX6_carryOut 44 = .ok (.getfield 18, 3) := by decide +kernel
theorem dX6_carryOut_47 : decode cX6_carryOut 47 = .ok (.iload_n 3, 1) := by decide +kernel
theorem dX6_carryOut_48 : decode cX6_carryOut 48 = .ok (.iaload, 1) := by decide +kernel
theorem dX6_carryOut_49 : decode cX6_carryOut 49 = .ok (.invokevirtual 28, 3) := by decide +kernel
theorem dX6_carryOut_52 : decode cX6_carryOut 52 = .ok (.goto 49, 3) := by decide +kernel
theorem dX6_carryOut_55 : decode cX6_carryOut 55 = .ok (.aload_n 0, 1) := by decide +kernel
theorem dX6_carryOut_56 : decode cX6_carryOut 56 = .ok (.getfield 9, 3) := by decide +kernel
theorem dX6_carryOut_59 : decode cX6_carryOut 59 = .ok (.iload_n 3, 1) := by decide +kernel
theorem dX6_carryOut_60 : decode cX6_carryOut 60 = .ok (.iaload, 1) := by decide +kernel
theorem dX6_carryOut_61 : decode cX6_carryOut 61 = .ok (.iconst 1, 1) := by decide +kernel
theorem dX6_carryOut_62 : decode cX6_carryOut 62 = .ok (.if_icmp .ne 23, 3) := by decide +kernel
theorem dX6_carryOut_65 : decode cX6_carryOut 65 = .ok (.aload_n 2, 1) := by decide +kernel
theorem dX6_carryOut_66 : decode cX6_carryOut 66 = .ok (.aload_n 0, 1) := by decide +kernel
theorem dX6_carryOut_67 : decode cX6_carryOut 67 = .ok (.getfield 15, 3) := by decide +kernel
theorem dX6_carryOut_70 : decode cX6_carryOut 70 = .ok (.iload_n 3, 1) := by decide +kernel
theorem dX6_carryOut_71 : decode cX6_carryOut 71 = .ok (.iaload, 1) := by decide +kernel
theorem dX6_carryOut_72 : decode cX6_carryOut 72 = .ok (.iconst 0, 1) := by decide +kernel
theorem dX6_carryOut_73 : decode cX6_carryOut 73 = .ok (.aload_n 0, 1) := by decide +kernel
theorem dX6_carryOut_74 : decode cX6_carryOut 74 = .ok (.getfield 18, 3) := by decide +kernel
theorem dX6_carryOut_77 : decode cX6_carryOut 77 = .ok (.iload_n 3, 1) := by decide +kernel
theorem dX6_carryOut_78 : decode cX6_carryOut 78 = .ok (.iaload, 1) := by decide +kernel
theorem dX6_carryOut_79 : decode cX6_carryOut 79 = .ok (.invokevirtual 28, 3) := by decide +kernel
theorem dX6_carryOut_82 : decode cX6_carryOut 82 = .ok (.goto 19, 3) := by decide +kernel
theorem dX6_carryOut_85 : decode cX6_carryOut 85 = .ok (.aload_n 2, 1) := by decide +kernel
theorem dX6_carryOut_86 : decode cX6_carryOut 86 = .ok (.aload_n 0, 1) := by decide +kernel
theorem dX6_carryOut_87 : decode cX6_carryOut 87 = .ok (.getfield 15, 3) := by decide +kernel
theorem dX6_carryOut_90 : decode cX6_carryOut 90 = .ok (.iload_n 3, 1) := by decide +kernel
theorem dX6_carryOut_91 : decode cX6_carryOut 91 = .ok (.iaload, 1) := by decide +kernel
theorem dX6_carryOut_92 : decode cX6_carryOut 92 = .ok (.aload_n 0, 1) := by decide +kernel
theorem dX6_carryOut_93 : decode cX6_carryOut 93 = .ok (.getfield 18, 3) := by decide +kernel
theorem dX6_carryOut_96 : decode cX6_carryOut 96 = .ok (.iload_n 3, 1) := by decide +kernel
theorem dX6_carryOut_97 : decode cX6_carryOut 97 = .ok (.iaload, 1) := by decide +kernel
theorem dX6_carryOut_98 : decode cX6_carryOut 98 = .ok (.invokevirtual 34, 3) := by decide +kernel
theorem dX6_carryOut_101 : decode cX6_carryOut 101 = .ok (.iinc 3 1, 3) := by decide +kernel
theorem dX6_carryOut_104 : decode cX6_carryOut 104 = .ok (.goto (-102), 3) := by decide +kernel
theorem dX6_carryOut_107 : decode cX6_carryOut 107 = .ok (.return_, 1) := by decide +kernel
end
section
theorem dX4_init_0 : decode cX4_init 0 = .ok (.aload_n 0, 1) := by decide +kernel
theorem dX4_init_1 : decode cX4_init 1 = .ok (.invokespecial 3, 3) := by decide +kernel
theorem dX4_init_4 : decode cX4_init 4 = .ok (.aload_n 0, 1) := by decide +kernel
theorem dX4_init_5 : decode cX4_init 5 = .ok (.sipush 200, 3) := by decide +kernel
theorem dX4_init_8 : decode cX4_init 8 = .ok (.newarray .byte, 2) := by decide +kernel
theorem dX4_init_10 : decode cX4_init 10 = .ok (.putfield 9, 3) := by decide +kernel
theorem dX4_init_13 : decode cX4_init 13 = .ok (.aload_n 0, 1) := by decide +kernel
theorem dX4_init_14 : decode cX4_init 14 = .ok (.iconst (-1), 1) := by decide +kernel
theorem dX4_init_15 : decode cX4_init 15 = .ok (.putfield 15, 3) := by decide +kernel
theorem dX4_init_18 : decode cX4_init 18 = .ok (.aload_n 0, 1) := by decide +kernel
theorem dX4_init_19 : decode cX4_init 19 = .ok (.iconst (-1), 1) := by decide +kernel
theorem dX4_init_20 : decode cX4_init 20 = .ok (.putfield 19, 3) := by decide +kernel
theorem dX4_init_23 : decode cX4_init 23 = .ok (.aload_n 0, 1) := by decide +kernel
theorem dX4_init_24 : decode cX4_init 24 = .ok (.new 22, 3) := by decide +kernel
theorem dX4_init_27 : decode cX4_init 27 = .ok (.dup, 1) := by decide +kernel
theorem dX4_init_28 : decode cX4_init 28 = .ok (.invokespecial 24, 3) := by decide +kernel
theorem dX4_init_31 : decode cX4_init 31 = .ok (.putfield 25, 3) := by decide +kernel
theorem dX4_init_34 : decode cX4_init 34 = .ok (.return_, 1) := by decide +kernel
theorem dX4_append_0 : decode cX4_append 0 = .ok (.bipush 24, 2) := by decide +kernel
theorem dX4_append_2 : decode cX4_append 2 = .ok (.istore_n 2, 1) := by decide +kernel
theorem dX4_append_3 : decode cX4_append 3 = .ok (.iload_n 2, 1) := by decide +kernel
theorem dX4_append_4 : decode cX4_append 4 = .ok (.ifCond .lt 51, 3) := by decide +kernel
theorem dX4_append_7 : decode cX4_append 7 = .ok (.aload_n 0, 1) := by decide +kernel
theorem dX4_append_8 : decode cX4_append 8 = .ok (.getfield 29, 3) := by decide +kernel
theorem dX4_append_11 : decode cX4_append 11 = .ok (.ifCond .lt 44, 3) := by decide +kernel
theorem dX4_append_14 : decode cX4_append 14 = .ok (.aload_n 0, 1) := by decide +kernel
theorem dX4_append_15 : decode cX4_append 15 = .ok (.getfield 29, 3) := by decide +kernel
theorem dX4_append_18 : decode cX4_append 18 = .ok (.aload_n 0, 1) := by decide +kernel
theorem dX4_append_19 : decode cX4_append 19 = .ok (.getfield 9, 3) := by decide +kernel
theorem dX4_append_22 : decode cX4_append 22 = .ok (.arraylength, 1) := by decide +kernel
theorem dX4_append_23 : decode cX4_append 23 = .ok (.if_icmp .ge 32, 3) := by decide +kernel
theorem dX4_append_26 : decode cX4_append 26 = .ok (.aload_n 0, 1) := by decide +kernel
theorem dX4_append_27 : decode cX4_append 27 = .ok (.getfield 9, 3) := by decide +kernel
theorem dX4_append_30 : decode cX4_append 30 = .ok (.aload_n 0, 1) := by decide +kernel
theorem dX4_append_31 : decode cX4_append 31 = .ok (.getfield 29, 3) := by decide +kernel
theorem dX4_append_34 : decode cX4_append 34 = .ok (.iload_n 1, 1) := by decide +kernel
theorem dX4_append_35 : decode cX4_append 35 = .ok (.iload_n 2, 1) := by decide +kernel
theorem dX4_append_36 : decode cX4_append 36 = .ok (.ishr, 1) := by decide +kernel
theorem dX4_append_37 : decode cX4_append 37 = .ok (.i2b, 1) := by decide +kernel
theorem dX4_append_38 : decode cX4_append 38 = .ok (.bastore, 1) := by decide +kernel
theorem dX4_append_39 : decode cX4_append 39 = .ok (.aload_n 0, 1) := by decide +kernel
theorem dX4_append_40 : decode cX4_append 40 = .ok (.dup, 1) := by decide +kernel
theorem dX4_append_41 : decode cX4_append 41 = .ok (.getfield 29, 3) := by decide +kernel
theorem dX4_append_44 : decode cX4_append 44 = .ok (.iconst 1, 1) := by decide +kernel
theorem dX4_append_45 : decode cX4_append 45 = .ok (.iadd, 1) := by decide +kernel
theorem dX4_append_46 : decode cX4_append 46 = .ok (.putfield 29, 3) := by decide +kernel
theorem dX4_append_49 : decode cX4_append 49 = .ok (.iinc 2 (-8), 3) := by decide +kernel
theorem dX4_append_52 : decode cX4_append 52 = .ok (.goto (-49), 3) := by decide +kernel
theorem dX4_append_55 : decode cX4_append 55 = .ok (.return_, 1) := by decide +kernel
theorem dX4_read_0 : decode cX4_read 0 = .ok (.aload_n 0, 1) := by decide +kernel
theorem dX4_read_1 : decode cX4_read 1 = .ok (.getfield 25, 3) := by decide +kernel
theorem dX4_read_4 : decode cX4_read 4 = .ok (.invokevirtual 32, 3) := by decide +kernel
theorem dX4_read_7 : decode cX4_read 7 = .ok (.iconst 0, 1) := by decide +kernel
theorem dX4_read_8 : decode cX4_read 8 = .ok (.istore_n 1, 1) := by decide +kernel
theorem dX4_read_9 : decode cX4_read 9 = .ok (.iconst 4, 1) := by decide +kernel
theorem dX4_read_10 : decode cX4_read 10 = .ok (.istore_n 2, 1) := by decide +kernel
theorem dX4_read_11 : decode cX4_read 11 = .ok (.aload_n 0, 1) := by decide +kernel
theorem dX4_read_12 : decode cX4_read 12 = .ok (.iconst 0, 1) := by decide +kernel
theorem dX4_read_13 : decode cX4_read 13 = .ok (.invokevirtual 35, 3) := by decide +kernel
theorem dX4_read_16 : decode cX4_read 16 = .ok (.istore_n 3, 1) := by decide +kernel
theorem dX4_read_17 : decode cX4_read 17 = .ok (.iconst 0, 1) := by decide +kernel
theorem dX4_read_18 : decode cX4_read 18 = .ok (.istore 4, 2) := by decide +kernel
theorem dX4_read_20 : decode cX4_read 20 = .ok (.iload 4, 2) := by decide +kernel
theorem dX4_read_22 : decode cX4_read 22 = .ok (.sipush 200, 3) := by decide +kernel
theorem dX4_read_25 : decode cX4_read 25 = .ok (.if_icmp .ge 102, 3) := by decide +kernel
theorem dX4_read_28 : decode cX4_read 28 = .ok (.iload_n 3, 1) := by decide +kernel
theorem dX4_read_29 : decode cX4_read 29 = .ok (.aload_n 0, 1) := by decide +kernel
theorem dX4_read_30 : decode cX4_read 30 = .ok (.getfield 29, 3) := by decide +kernel
theorem dX4_read_33 : decode cX4_read 33 = .ok (.if_icmp .ge 94, 3) := by decide +kernel
theorem dX4_read_36 : decode cX4_read 36 = .ok (.aload_n 0, 1) := by decide +kernel
theorem dX4_read_37 : decode cX4_read 37 = .ok (.iload_n 3, 1) := by decide +kernel
theorem dX4_read_38 : decode cX4_read 38 = .ok (.invokevirtual 39, 3) := by decide +kernel
theorem dX4_read_41 : decode cX4_read 41 = .ok (.istore 5, 2) := by decide +kernel
theorem dX4_read_43 : decode cX4_read 43 = .ok (.aload_n 0, 1) := by decide +kernel
theorem dX4_read_44 : decode cX4_read 44 = .ok (.iload_n 1, 1) := by decide +kernel
theorem dX4_read_45 : decode cX4_read 45 = .ok (.iload_n 3, 1) := by decide +kernel
theorem dX4_read_46 : decode cX4_read 46 = .ok (.iload 5, 2) := by decide +kernel
theorem dX4_read_48 : decode cX4_read 48 = .ok (.invokevirtual 42, 3) := by decide +kernel
theorem dX4_read_51 : decode cX4_read 51 = .ok (.istore 6, 2) := by decide +kernel
theorem dX4_read_53 : decode cX4_read 53 = .ok (.iload 6, 2) := by decide +kernel
theorem dX4_read_55 : decode cX4_read 55 = .ok (.ifCond .eq 11, 3) := by decide +kernel
theorem dX4_read_58 : decode cX4_read 58 = .ok (.aload_n 0, 1) := by decide +kernel
theorem dX4_read_59 : decode cX4_read 59 = .ok (.iload 6, 2) := by decide +kernel
theorem dX4_read_61 : decode cX4_read 61 = .ok (.iload_n 3, 1) := by decide +kernel
theorem dX4_read_62 : decode cX4_read 62 = .ok (.invokevirtual 46, 3) := by decide +kernel
theorem dX4_read_65 : decode cX4_read 65 = .ok (.ireturn, 1) := by decide +kernel
theorem dX4_read_66 : decode cX4_read 66 = .ok (.iload_n 1, 1) := by decide +kernel
theorem dX4_read_67 : decode cX4_read 67 = .ok (.ifCond .ne 14, 3) := by decide +kernel
theorem dX4_read_70 : decode cX4_read 70 = .ok (.aload_n 0, 1) := by decide +kernel
theorem dX4_read_71 : decode cX4_read 71 = .ok (.iload_n 3, 1) := by decide +kernel
theorem dX4_read_72 : decode cX4_read 72 = .ok (.iload 5, 2) := by decide +kernel
theorem dX4_read_74 : decode cX4_read 74 = .ok (.invokevirtual 50, 3) := by decide +kernel
theorem dX4_read_77 : decode cX4_read 77 = .ok (.istore_n 2, 1) := by decide +kernel
theorem dX4_read_78 : decode cX4_read 78 = .ok (.goto 23, 3) := by decide +kernel
theorem dX4_read_81 : decode cX4_read 81 = .ok (.iload_n 1, 1) := by decide +kernel
theorem dX4_read_82 : decode cX4_read 82 = .ok (.iconst 1, 1) := by decide +kernel
theorem dX4_read_83 : decode cX4_read 83 = .ok (.if_icmp .ne 18, 3) := by decide +kernel
theorem dX4_read_86 : decode cX4_read 86 = .ok (.aload_n 0, 1) := by decide +kernel
theorem dX4_read_87 : decode cX4_read 87 = .ok (.getfield 25, 3) := by decide +kernel
theorem dX4_read_90 : decode cX4_read 90 = .ok (.iload_n 2, 1) := by decide +kernel
theorem dX4_read_91 : decode cX4_read 91 = .ok (.aload_n 0, 1) := by decide +kernel
theorem dX4_read_92 : decode cX4_read 92 = .ok (.iload_n 3, 1) := by decide +kernel
theorem dX4_read_93 : decode cX4_read 93 = .ok (.iload 5, 2) := by decide +kernel
theorem dX4_read_95 : decode cX4_read 95 = .ok (.invokevirtual 54, 3) := by decide +kernel
theorem dX4_read_98 : decode cX4_read 98 = .ok (.invokevirtual 57, 3) := by decide +kernel
theorem dX4_read_101 : decode cX4_read 101 = .ok (.iload_n 1, 1) := by decide +kernel
theorem dX4_read_102 : decode cX4_read 102 = .ok (.iconst 2, 1) := by decide +kernel
theorem dX4_read_103 : decode cX4_read 103 = .ok (.if_icmp .ne 7, 3) := by decide +kernel
theorem dX4_read_106 : decode cX4_read 106 = .ok (.iconst 0, 1) := by decide +kernel
theorem dX4_read_107 : decode cX4_read 107 = .ok (.goto 6, 3) := by decide +kernel
theorem dX4_read_110 : decode cX4_read 110 = .ok (.iload_n 1, 1) := by decide +kernel
theorem dX4_read_111 : decode cX4_read 111 = .ok (.iconst 1, 1) := by decide +kernel
theorem dX4_read_112 : decode cX4_read 112 = .ok (.iadd, 1) := by decide +kernel
theorem dX4_read_113 : decode cX4_read 113 = .ok (.istore_n 1, 1) := by decide +kernel
theorem dX4_read_114 : decode cX4_read 114 = .ok (.aload_n 0, 1) := by decide +kernel
theorem dX4_read_115 : decode cX4_read 115 = .ok (.iload 5, 2) := by decide +kernel
theorem dX4_read_117 : decode cX4_read 117 = .ok (.invokevirtual 35, 3) := by decide +kernel
theorem dX4_read_120 : decode cX4_read 120 = .ok (.istore_n 3, 1) := by decide +kernel
theorem dX4_read_121 : decode cX4_read 121 = .ok (.iinc 4 1, 3) := by decide +kernel
theorem dX4_read_124 : decode cX4_read 124 = .ok (.goto (-104), 3) := by decide +kernel
theorem dX4_read_127 : decode cX4_read 127 = .ok (.iload_n 1, 1) := by decide +kernel
theorem dX4_read_128 : decode cX4_read 128 = .ok (.ifCond .ne 12, 3) := by decide +kernel
theorem dX4_read_131 : decode cX4_read 131 = .ok (.aload_n 0, 1) := by decide +kernel
theorem dX4_read_132 : decode cX4_read 132 = .ok (.iconst 0, 1) := by decide +kernel
theorem dX4_read_133 : decode cX4_read 133 = .ok (.iconst (-1), 1) := by decide +kernel
theorem dX4_read_134 : decode cX4_read 134 = .ok (.invokevirtual 46, 3) := by decide +kernel
theorem dX4_read_137 : decode cX4_read 137 = .ok (.goto 12, 3) := by decide +kernel
theorem dX4_read_140 : decode cX4_read 140 = .ok (.aload_n 0, 1) := by decide +kernel
theorem dX4_read_141 : decode cX4_read 141 = .ok (.iconst 1, 1) := by decide +kernel
theorem dX4_read_142 : decode cX4_read 142 = .ok (.aload_n 0, 1) := by decide +kernel
theorem dX4_read_143 : decode cX4_read 143 = .ok (.getfield 29, 3) := by decide +kernel
theorem dX4_read_146 : decode cX4_read 146 = .ok (.invokevirtual 46, 3) := by decide +kernel
theorem dX4_read_149 : decode cX4_read 149 = .ok (.ireturn, 1) := by decide +kernel
theorem dX4_tell_0 : decode cX4_tell 0 = .ok (.aload_n 0, 1) := by decide +kernel
theorem dX4_tell_1 : decode cX4_tell 1 = .ok (.iload_n 1, 1) := by decide +kernel
theorem dX4_tell_2 : decode cX4_tell 2 = .ok (.putfield 15, 3) := by decide +kernel
theorem dX4_tell_5 : decode cX4_tell 5 = .ok (.aload_n 0, 1) := by decide +kernel
theorem dX4_tell_6 : decode cX4_tell 6 = .ok (.iload_n 2, 1) := by decide +kernel
theorem dX4_tell_7 : decode cX4_tell 7 = .ok (.putfield 19, 3) := by decide +kernel
theorem dX4_tell_10 : decode cX4_tell 10 = .ok (.iload_n 1, 1) := by decide +kernel
theorem dX4_tell_11 : decode cX4_tell 11 = .ok (.ifCond .ne 7, 3) := by decide +kernel
theorem dX4_tell_14 : decode cX4_tell 14 = .ok (.iconst 1, 1) := by decide +kernel
theorem dX4_tell_15 : decode cX4_tell 15 = .ok (.goto 4, 3) := by decide +kernel
theorem dX4_tell_18 : decode cX4_tell 18 = .ok (.iconst 0, 1) := by decide +kernel
theorem dX4_tell_19 : decode cX4_tell 19 = .ok (.ireturn, 1) := by decide +kernel
theorem dX4_faultOf_0 : decode cX4_faultOf 0 = .ok (.iload_n 1, 1) := by decide +kernel
theorem dX4_faultOf_1 : decode cX4_faultOf 1 = .ok (.ifCond .ne 31, 3) := by decide +kernel
theorem dX4_faultOf_4 : decode cX4_faultOf 4 = .ok (.aload_n 0, 1) := by decide +kernel
theorem dX4_faultOf_5 : decode cX4_faultOf 5 = .ok (.iload_n 2, 1) := by decide +kernel
theorem dX4_faultOf_6 : decode cX4_faultOf 6 = .ok (.iload_n 3, 1) := by decide +kernel
theorem dX4_faultOf_7 : decode cX4_faultOf 7 = .ok (.invokevirtual 50, 3) := by decide +kernel
theorem dX4_faultOf_10 : decode cX4_faultOf 10 = .ok (.iconst (-1), 1) := by decide +kernel
theorem dX4_faultOf_11 : decode cX4_faultOf 11 = .ok (.if_icmp .ne 5, 3) := by decide +kernel
theorem dX4_faultOf_14 : decode cX4_faultOf 14 = .ok (.iconst 1, 1) := by decide +kernel
theorem dX4_faultOf_15 : decode cX4_faultOf 15 = .ok (.ireturn, 1) := by decide +kernel
theorem dX4_faultOf_16 : decode cX4_faultOf 16 = .ok (.aload_n 0, 1) := by decide +kernel
theorem dX4_faultOf_17 : decode cX4_faultOf 17 = .ok (.getfield 25, 3) := by decide +kernel
theorem dX4_faultOf_20 : decode cX4_faultOf 20 = .ok (.invokevirtual 61, 3) := by decide +kernel
theorem dX4_faultOf_23 : decode cX4_faultOf 23 = .ok (.ifCond .eq 7, 3) := by decide +kernel
theorem dX4_faultOf_26 : decode cX4_faultOf 26 = .ok (.iconst 3, 1) := by decide +kernel
theorem dX4_faultOf_27 : decode cX4_faultOf 27 = .ok (.goto 4, 3) := by decide +kernel
theorem dX4_faultOf_30 : decode cX4_faultOf 30 = .ok (.iconst 0, 1) := by decide +kernel
theorem dX4_faultOf_31 : decode cX4_faultOf 31 = .ok (.ireturn, 1) := by decide +kernel
theorem dX4_faultOf_32 : decode cX4_faultOf 32 = .ok (.iload_n 1, 1) := by decide +kernel
theorem dX4_faultOf_33 : decode cX4_faultOf 33 = .ok (.iconst 1, 1) := by decide +kernel
theorem dX4_faultOf_34 : decode cX4_faultOf 34 = .ok (.if_icmp .ne 37, 3) := by decide +kernel
theorem dX4_faultOf_37 : decode cX4_faultOf 37 = .ok (.aload_n 0, 1) := by decide +kernel
theorem dX4_faultOf_38 : decode cX4_faultOf 38 = .ok (.iload_n 2, 1) := by decide +kernel
theorem dX4_faultOf_39 : decode cX4_faultOf 39 = .ok (.invokevirtual 65, 3) := by decide +kernel
theorem dX4_faultOf_42 : decode cX4_faultOf 42 = .ok (.invokestatic 68, 3) := by decide +kernel
theorem dX4_faultOf_45 : decode cX4_faultOf 45 = .ok (.ifCond .ne 5, 3) := by decide +kernel
theorem dX4_faultOf_48 : decode cX4_faultOf 48 = .ok (.iconst 1, 1) := by decide +kernel
theorem dX4_faultOf_49 : decode cX4_faultOf 49 = .ok (.ireturn, 1) := by decide +kernel
theorem dX4_faultOf_50 : decode cX4_faultOf 50 = .ok (.aload_n 0, 1) := by decide +kernel
theorem dX4_faultOf_51 : decode cX4_faultOf 51 = .ok (.iload_n 2, 1) := by decide +kernel
theorem dX4_faultOf_52 : decode cX4_faultOf 52 = .ok (.iload_n 3, 1) := by decide +kernel
theorem dX4_faultOf_53 : decode cX4_faultOf 53 = .ok (.invokevirtual 54, 3) := by decide +kernel
theorem dX4_faultOf_56 : decode cX4_faultOf 56 = .ok (.iconst 1, 1) := by decide +kernel
theorem dX4_faultOf_57 : decode cX4_faultOf 57 = .ok (.bipush 60, 2) := by decide +kernel
theorem dX4_faultOf_59 : decode cX4_faultOf 59 = .ok (.invokestatic 72, 3) := by decide +kernel
theorem dX4_faultOf_62 : decode cX4_faultOf 62 = .ok (.ifCond .eq 7, 3) := by decide +kernel
theorem dX4_faultOf_65 : decode cX4_faultOf 65 = .ok (.iconst 0, 1) := by decide +kernel
theorem dX4_faultOf_66 : decode cX4_faultOf 66 = .ok (.goto 4, 3) := by decide +kernel
theorem dX4_faultOf_69 : decode cX4_faultOf 69 = .ok (.iconst 2, 1) := by decide +kernel
theorem dX4_faultOf_70 : decode cX4_faultOf 70 = .ok (.ireturn, 1) := by decide +kernel
theorem dX4_faultOf_71 : decode cX4_faultOf 71 = .ok (.aload_n 0, 1) := by decide +kernel
theorem dX4_faultOf_72 : decode cX4_faultOf 72 = .ok (.iload_n 2, 1) := by decide +kernel
theorem dX4_faultOf_73 : decode cX4_faultOf 73 = .ok (.invokevirtual 65, 3) := by decide +kernel
theorem dX4_faultOf_76 : decode cX4_faultOf 76 = .ok (.bipush 59, 2) := by decide +kernel
theorem dX4_faultOf_78 : decode cX4_faultOf 78 = .ok (.if_icmp .ne 7, 3) := by decide +kernel
theorem dX4_faultOf_81 : decode cX4_faultOf 81 = .ok (.iconst 0, 1) := by decide +kernel
theorem dX4_faultOf_82 : decode cX4_faultOf 82 = .ok (.goto 4, 3) := by decide +kernel
theorem dX4_faultOf_85 : decode cX4_faultOf 85 = .ok (.iconst 1, 1) := by decide +kernel
theorem dX4_faultOf_86 : decode cX4_faultOf 86 = .ok (.ireturn, 1) := by decide +kernel
theorem dX4_byteAt_0 : decode cX4_byteAt 0 = .ok (.iload_n 1, 1) := by decide +kernel
theorem dX4_byteAt_1 : decode cX4_byteAt 1 = .ok (.ifCond .lt 29, 3) := by decide +kernel
theorem dX4_byteAt_4 : decode cX4_byteAt 4 = .ok (.iload_n 1, 1) := by decide +kernel
theorem dX4_byteAt_5 : decode cX4_byteAt 5 = .ok (.aload_n 0, 1) := by decide +kernel
theorem dX4_byteAt_6 : decode cX4_byteAt 6 = .ok (.getfield 29, 3) := by decide +kernel
theorem dX4_byteAt_9 : decode cX4_byteAt 9 = .ok (.if_icmp .ge 21, 3) := by decide +kernel
theorem dX4_byteAt_12 : decode cX4_byteAt 12 = .ok (.iload_n 1, 1) := by decide +kernel
theorem dX4_byteAt_13 : decode cX4_byteAt 13 = .ok (.aload_n 0, 1) := by decide +kernel
theorem dX4_byteAt_14 : decode cX4_byteAt 14 = .ok (.getfield 9, 3) := by decide +kernel
theorem dX4_byteAt_17 : decode cX4_byteAt 17 = .ok (.arraylength, 1) := by decide +kernel
theorem dX4_byteAt_18 : decode cX4_byteAt 18 = .ok (.if_icmp .ge 12, 3) := by decide +kernel
theorem dX4_byteAt_21 : decode cX4_byteAt 21 = .ok (.aload_n 0, 1) := by decide +kernel
theorem dX4_byteAt_22 : decode cX4_byteAt 22 = .ok (.getfield 9, 3) := by decide +kernel
theorem dX4_byteAt_25 : decode cX4_byteAt 25 = .ok (.iload_n 1, 1) := by decide +kernel
theorem dX4_byteAt_26 : decode cX4_byteAt 26 = .ok (.baload, 1) := by decide +kernel
theorem dX4_byteAt_27 : decode cX4_byteAt 27 = .ok (.goto 4, 3) := by decide +kernel
theorem dX4_byteAt_30 : decode cX4_byteAt 30 = .ok (.iconst 0, 1) := by decide +kernel
theorem dX4_byteAt_31 : decode cX4_byteAt 31 = .ok (.ireturn, 1) := by decide +kernel
theorem dX4_afterBlanks_0 : decode cX4_afterBlanks 0 = .ok (.iload_n 1, 1) := by decide +kernel
theorem dX4_afterBlanks_1 : decode cX4_afterBlanks 1 = .ok (.istore_n 2, 1) := by decide +kernel
theorem dX4_afterBlanks_2 : decode cX4_afterBlanks 2 = .ok (.iload_n 2, 1) := by decide +kernel
theorem dX4_afterBlanks_3 : decode cX4_afterBlanks 3 = .ok (.aload_n 0, 1) := by decide +kernel
theorem dX4_afterBlanks_4 : decode cX4_afterBlanks 4 = .ok (.getfield 29, 3) := by decide +kernel
theorem dX4_afterBlanks_7 : decode cX4_afterBlanks 7 = .ok (.if_icmp .ge 19, 3) := by decide +kernel
theorem dX4_afterBlanks_10 : decode cX4_afterBlanks 10 = .ok (.aload_n 0, 1) := by decide +kernel
theorem dX4_afterBlanks_11 : decode cX4_afterBlanks 11 = .ok (.iload_n 2, 1) := by decide +kernel
theorem dX4_afterBlanks_12 : decode cX4_afterBlanks 12 = .ok (.invokevirtual 65, 3) := by decide +kernel
theorem dX4_afterBlanks_15 : decode cX4_afterBlanks 15 = .ok (.bipush 32, 2) := by decide +kernel
theorem dX4_afterBlanks_17 : decode cX4_afterBlanks 17 = .ok (.if_icmp .ne 9, 3) := by decide +kernel
theorem dX4_afterBlanks_20 : decode cX4_afterBlanks 20 = .ok (.iinc 2 1, 3) := by decide +kernel
theorem dX4_afterBlanks_23 : decode cX4_afterBlanks 23 = .ok (.goto (-21), 3) := by decide +kernel
theorem dX4_afterBlanks_26 : decode cX4_afterBlanks 26 = .ok (.iload_n 2, 1) := by decide +kernel
theorem dX4_afterBlanks_27 : decode cX4_afterBlanks 27 = .ok (.ireturn, 1) := by decide +kernel
theorem dX4_tokenEnd_0 : decode cX4_tokenEnd 0 = .ok (.iload_n 1, 1) := by decide +kernel
theorem dX4_tokenEnd_1 : decode cX4_tokenEnd 1 = .ok (.iconst 1, 1) := by decide +kernel
theorem dX4_tokenEnd_2 : decode cX4_tokenEnd 2 = .ok (.iadd, 1) := by decide +kernel
theorem dX4_tokenEnd_3 : decode cX4_tokenEnd 3 = .ok (.istore_n 2, 1) := by decide +kernel
theorem dX4_tokenEnd_4 : decode cX4_tokenEnd 4 = .ok (.aload_n 0, 1) := by decide +kernel
theorem dX4_tokenEnd_5 : decode cX4_tokenEnd 5 = .ok (.iload_n 1, 1) := by decide +kernel
theorem dX4_tokenEnd_6 : decode cX4_tokenEnd 6 = .ok (.invokevirtual 65, 3) := by decide +kernel
theorem dX4_tokenEnd_9 : decode cX4_tokenEnd 9 = .ok (.invokestatic 76, 3) := by decide +kernel
theorem dX4_tokenEnd_12 : decode cX4_tokenEnd 12 = .ok (.ifCond .eq 28, 3) := by decide +kernel
theorem dX4_tokenEnd_15 : decode cX4_tokenEnd 15 = .ok (.iload_n 2, 1) := by decide +kernel
theorem dX4_tokenEnd_16 : decode cX4_tokenEnd 16 = .ok (.aload_n 0, 1) := by decide +kernel
theorem dX4_tokenEnd_17 : decode cX4_tokenEnd 17 = .ok (.getfield 29, 3) := by decide +kernel
theorem dX4_tokenEnd_20 : decode cX4_tokenEnd 20 = .ok (.if_icmp .ge 56, 3) := by decide +kernel
theorem dX4_tokenEnd_23 : decode cX4_tokenEnd 23 = .ok (.aload_n 0, 1) := by decide +kernel
theorem dX4_tokenEnd_24 : decode cX4_tokenEnd 24 = .ok (.iload_n 2, 1) := by decide +kernel
theorem dX4_tokenEnd_25 : decode cX4_tokenEnd 25 = .ok (.invokevirtual 65, 3) := by decide +kernel
theorem dX4_tokenEnd_28 : decode cX4_tokenEnd 28 = .ok (.invokestatic 76, 3) := by decide +kernel
theorem dX4_tokenEnd_31 : decode cX4_tokenEnd 31 = .ok (.ifCond .eq 45, 3) := by decide +kernel
theorem dX4_tokenEnd_34 : decode cX4_tokenEnd 34 = .ok (.iinc 2 1, 3) := by decide +kernel
theorem dX4_tokenEnd_37 : decode cX4_tokenEnd 37 = .ok (.goto (-22), 3) := by decide +kernel
theorem dX4_tokenEnd_40 : decode cX4_tokenEnd 40 = .ok (.aload_n 0, 1) := by decide +kernel
theorem dX4_tokenEnd_41 : decode cX4_tokenEnd 41 = .ok (.iload_n 1, 1) := by decide +kernel
theorem dX4_tokenEnd_42 : decode cX4_tokenEnd 42 = .ok (.invokevirtual 65, 3) := by decide +kernel
theorem dX4_tokenEnd_45 : decode cX4_tokenEnd 45 = .ok (.invokestatic 68, 3) := by decide +kernel
theorem dX4_tokenEnd_48 : decode cX4_tokenEnd 48 = .ok (.ifCond .eq 28, 3) := by decide +kernel
theorem dX4_tokenEnd_51 : decode cX4_tokenEnd 51 = .ok (.iload_n 2, 1) := by decide +kernel
theorem dX4_tokenEnd_52 : decode cX4_tokenEnd 52 = .ok (.aload_n 0, 1) := by decide +kernel
theorem dX4_tokenEnd_53 : decode cX4_tokenEnd 53 = .ok (.getfield 29, 3) := by decide +kernel
theorem dX4_tokenEnd_56 : decode cX4_tokenEnd 56 = .ok (.if_icmp .ge 20, 3) := by decide +kernel
theorem dX4_tokenEnd_59 : decode cX4_tokenEnd 59 = .ok (.aload_n 0, 1) := by decide +kernel
theorem dX4_tokenEnd_60 : decode cX4_tokenEnd 60 = .ok (.iload_n 2, 1) := by decide +kernel
theorem dX4_tokenEnd_61 : decode cX4_tokenEnd 61 = .ok (.invokevirtual 65, 3) := by decide +kernel
theorem dX4_tokenEnd_64 : decode cX4_tokenEnd 64 = .ok (.invokestatic 68, 3) := by decide +kernel
theorem dX4_tokenEnd_67 : decode cX4_tokenEnd 67 = .ok (.ifCond .eq 9, 3) := by decide +kernel
theorem dX4_tokenEnd_70 : decode cX4_tokenEnd 70 = .ok (.iinc 2 1, 3) := by decide +kernel
theorem dX4_tokenEnd_73 : decode cX4_tokenEnd 73 = .ok (.goto (-22), 3) := by decide +kernel
theorem dX4_tokenEnd_76 : decode cX4_tokenEnd 76 = .ok (.iload_n 2, 1) := by decide +kernel
theorem dX4_tokenEnd_77 : decode cX4_tokenEnd 77 = .ok (.ireturn, 1) := by decide +kernel
theorem dX4_windOf_0 : decode cX4_windOf 0 = .ok (.iconst 0, 1) := by decide +kernel
theorem dX4_windOf_1 : decode cX4_windOf 1 = .ok (.istore_n 3, 1) := by decide +kernel
theorem dX4_windOf_2 : decode cX4_windOf 2 = .ok (.iload_n 3, 1) := by decide +kernel
theorem dX4_windOf_3 : decode cX4_windOf 3 = .ok (.iconst 4, 1) := by decide +kernel
theorem dX4_windOf_4 : decode cX4_windOf 4 = .ok (.if_icmp .gt 24, 3) := by decide +kernel
theorem dX4_windOf_7 : decode cX4_windOf 7 = .ok (.aload_n 0, 1) := by decide +kernel
theorem dX4_windOf_8 : decode cX4_windOf 8 = .ok (.iload_n 3, 1) := by decide +kernel
theorem dX4_windOf_9 : decode cX4_windOf 9 = .ok (.invokestatic 79, 3) := by decide +kernel
theorem dX4_windOf_12 : decode cX4_windOf 12 = .ok (.iload_n 1, 1) := by decide +kernel
theorem dX4_windOf_13 : decode cX4_windOf 13 = .ok (.iload_n 2, 1) := by decide +kernel
theorem dX4_windOf_14 : decode cX4_windOf 14 = .ok (.invokevirtual 83, 3) := by decide +kernel
theorem dX4_windOf_17 : decode cX4_windOf 17 = .ok (.ifCond .eq 5, 3) := by decide +kernel
theorem dX4_windOf_20 : decode cX4_windOf 20 = .ok (.iload_n 3, 1) := by decide +kernel
theorem dX4_windOf_21 : decode cX4_windOf 21 = .ok (.ireturn, 1) := by decide +kernel
theorem dX4_windOf_22 : decode cX4_windOf 22 = .ok (.iinc 3 1, 3) := by decide +kernel
theorem dX4_windOf_25 : decode cX4_windOf 25 = .ok (.goto (-23), 3) := by decide +kernel
theorem dX4_windOf_28 : decode cX4_windOf 28 = .ok (.iconst (-1), 1) := by decide +kernel
theorem dX4_windOf_29 : decode cX4_windOf 29 = .ok (.ireturn, 1) := by decide +kernel
theorem dX4_isWord_0 : decode cX4_isWord 0 = .ok (.iload_n 3, 1) := by decide +kernel
theorem dX4_isWord_1 : decode cX4_isWord 1 = .ok (.iload_n 2, 1) := by decide +kernel
theorem dX4_isWord_2 : decode cX4_isWord 2 = .ok (.isub, 1) := by decide +kernel
theorem dX4_isWord_3 : decode cX4_isWord 3 = .ok (.aload_n 1, 1) := by decide +kernel
theorem dX4_isWord_4 : decode cX4_isWord 4 = .ok (.invokevirtual 87, 3) := by decide +kernel
theorem dX4_isWord_7 : decode cX4_isWord 7 = .ok (.if_icmp .eq 5, 3) := by decide +kernel
theorem dX4_isWord_10 : decode cX4_isWord 10 = .ok (.iconst 0, 1) := by decide +kernel
theorem dX4_isWord_11 : decode cX4_isWord 11 = .ok (.ireturn, 1) := by decide +kernel
theorem dX4_isWord_12 : decode cX4_isWord 12 = .ok (.iconst 0, 1) := by decide +kernel
theorem dX4_isWord_13 : decode cX4_isWord 13 = .ok (.istore 4, 2) := by decide +kernel
theorem dX4_isWord_15 : decode cX4_isWord 15 = .ok (.iload 4, 2) := by decide +kernel
theorem dX4_isWord_17 : decode cX4_isWord 17 = .ok (.aload_n 1, 1) := by decide +kernel
theorem dX4_isWord_18 : decode cX4_isWord 18 = .ok (.invokevirtual 87, 3) := by decide +kernel
theorem dX4_isWord_21 : decode cX4_isWord 21 = .ok (.if_icmp .ge 28, 3) := by decide +kernel
theorem dX4_isWord_24 : decode cX4_isWord 24 = .ok (.aload_n 0, 1) := by decide +kernel
theorem dX4_isWord_25 : decode cX4_isWord 25 = .ok (.iload_n 2, 1) := by decide +kernel
theorem dX4_isWord_26 : decode cX4_isWord 26 = .ok (.iload 4, 2) := by decide +kernel
theorem dX4_isWord_28 : decode cX4_isWord 28 = .ok (.iadd, 1) := by decide +kernel
theorem dX4_isWord_29 : decode cX4_isWord 29 = .ok (.invokevirtual 65, 3) := by decide +kernel
theorem dX4_isWord_32 : decode cX4_isWord 32 = .ok (.aload_n 1, 1) := by decide +kernel
theorem dX4_isWord_33 : decode cX4_isWord 33 = .ok (.iload 4, 2) := by decide +kernel
theorem dX4_isWord_35 : decode cX4_isWord 35 = .ok (.invokevirtual 92, 3) := by decide +kernel
theorem dX4_isWord_38 : decode cX4_isWord 38 = .ok (.if_icmp .eq 5, 3) := by decide +kernel
theorem dX4_isWord_41 : decode cX4_isWord 41 = .ok (.iconst 0, 1) := by decide +kernel
theorem dX4_isWord_42 : decode cX4_isWord 42 = .ok (.ireturn, 1) := by decide +kernel
theorem dX4_isWord_43 : decode cX4_isWord 43 = .ok (.iinc 4 1, 3) := by decide +kernel
theorem dX4_isWord_46 : decode cX4_isWord 46 = .ok (.goto (-31), 3) := by decide +kernel
theorem dX4_isWord_49 : decode cX4_isWord 49 = .ok (.iconst 1, 1) := by decide +kernel
theorem dX4_isWord_50 : decode cX4_isWord 50 = .ok (.ireturn, 1) := by decide +kernel
theorem dX4_numberOf_0 : decode cX4_numberOf 0 = .ok (.iconst 0, 1) := by decide +kernel
theorem dX4_numberOf_1 : decode cX4_numberOf 1 = .ok (.istore_n 3, 1) := by decide +kernel
theorem dX4_numberOf_2 : decode cX4_numberOf 2 = .ok (.iload_n 1, 1) := by decide +kernel
theorem dX4_numberOf_3 : decode cX4_numberOf 3 = .ok (.istore 4, 2) := by decide +kernel
theorem dX4_numberOf_5 : decode cX4_numberOf 5 = .ok (.iload 4, 2) := by decide +kernel
theorem dX4_numberOf_7 : decode cX4_numberOf 7 = .ok (.iload_n 2, 1) := by decide +kernel
theorem dX4_numberOf_8 : decode cX4_numberOf 8 = .ok (.if_icmp .ge 30, 3) := by decide +kernel
theorem dX4_numberOf_11 : decode cX4_numberOf 11 = .ok (.sipush 1000, 3) := by decide +kernel
theorem dX4_numberOf_14 : decode cX4_numberOf 14 = .ok (.iload_n 3, 1) := by decide +kernel
theorem dX4_numberOf_15 : decode cX4_numberOf 15 = .ok (.bipush 10, 2) := by decide +kernel
theorem dX4_numberOf_17 : decode cX4_numberOf 17 = .ok (.imul, 1) := by decide +kernel
theorem dX4_numberOf_18 : decode cX4_numberOf 18 = .ok (.aload_n 0, 1) := by decide +kernel
theorem dX4_numberOf_19 : decode cX4_numberOf 19 = .ok (.iload 4, 2) := by decide +kernel
theorem dX4_numberOf_21 : decode cX4_numberOf 21 = .ok (.invokevirtual 65, 3) := by decide +kernel
theorem dX4_numberOf_24 : decode cX4_numberOf 24 = .ok (.iadd, 1) := by decide +kernel
theorem dX4_numberOf_25 : decode cX4_numberOf 25 = .ok (.bipush 48, 2) := by decide +kernel
theorem dX4_numberOf_27 : decode cX4_numberOf 27 = .ok (.isub, 1) := by decide +kernel
theorem dX4_numberOf_28 : decode cX4_numberOf 28 = .ok (.invokestatic 96, 3) := by decide +kernel
theorem dX4_numberOf_31 : decode cX4_numberOf 31 = .ok (.istore_n 3, 1) := by decide +kernel
theorem dX4_numberOf_32 : decode cX4_numberOf 32 = .ok (.iinc 4 1, 3) := by decide +kernel
theorem dX4_numberOf_35 : decode cX4_numberOf 35 = .ok (.goto (-30), 3) := by decide +kernel
theorem dX4_numberOf_38 : decode cX4_numberOf 38 = .ok (.iload_n 3, 1) := by decide +kernel
theorem dX4_numberOf_39 : decode cX4_numberOf 39 = .ok (.ireturn, 1) := by decide +kernel
theorem dX4_nameOf_0 : decode cX4_nameOf 0 = .ok (.iload_n 0, 1) := by decide +kernel
theorem dX4_nameOf_1 : decode cX4_nameOf 1 = .ok (.tableswitch 43 0 3 #[31, 34, 37, 40], 31) := by decide +kernel
theorem dX4_nameOf_32 : decode cX4_nameOf 32 = .ok (.ldc 101, 2) := by decide +kernel
theorem dX4_nameOf_34 : decode cX4_nameOf 34 = .ok (.areturn, 1) := by decide +kernel
theorem dX4_nameOf_35 : decode cX4_nameOf 35 = .ok (.ldc 103, 2) := by decide +kernel
theorem dX4_nameOf_37 : decode cX4_nameOf 37 = .ok (.areturn, 1) := by decide +kernel
theorem dX4_nameOf_38 : decode cX4_nameOf 38 = .ok (.ldc 105, 2) := by decide +kernel
theorem dX4_nameOf_40 : decode cX4_nameOf 40 = .ok (.areturn, 1) := by decide +kernel
theorem dX4_nameOf_41 : decode cX4_nameOf 41 = .ok (.ldc 107, 2) := by decide +kernel
theorem dX4_nameOf_43 : decode cX4_nameOf 43 = .ok (.areturn, 1) := by decide +kernel
theorem dX4_nameOf_44 : decode cX4_nameOf 44 = .ok (.ldc 109, 2) := by decide +kernel
theorem dX4_nameOf_46 : decode cX4_nameOf 46 = .ok (.areturn, 1) := by decide +kernel
theorem dX4_isLetter_0 : decode cX4_isLetter 0 = .ok (.iload_n 0, 1) := by decide +kernel
theorem dX4_isLetter_1 : decode cX4_isLetter 1 = .ok (.bipush 97, 2) := by decide +kernel
theorem dX4_isLetter_3 : decode cX4_isLetter 3 = .ok (.bipush 122, 2) := by decide +kernel
theorem dX4_isLetter_5 : decode cX4_isLetter 5 = .ok (.invokestatic 72, 3) := by decide +kernel
theorem dX4_isLetter_8 : decode cX4_isLetter 8 = .ok (.ifCond .ne 14, 3) := by decide +kernel
theorem dX4_isLetter_11 : decode cX4_isLetter 11 = .ok (.iload_n 0, 1) := by decide +kernel
theorem dX4_isLetter_12 : decode cX4_isLetter 12 = .ok (.bipush 65, 2) := by decide +kernel
theorem dX4_isLetter_14 : decode cX4_isLetter 14 = .ok (.bipush 90, 2) := by decide +kernel
theorem dX4_isLetter_16 : decode cX4_isLetter 16 = .ok (.invokestatic 72, 3) := by decide +kernel
theorem dX4_isLetter_19 : decode cX4_isLetter 19 = .ok (.ifCond .eq 7, 3) := by decide +kernel
theorem dX4_isLetter_22 : decode cX4_isLetter 22 = .ok (.iconst 1, 1) := by decide +kernel
theorem dX4_isLetter_23 : decode cX4_isLetter 23 = .ok (.goto 4, 3) := by decide +kernel
theorem dX4_isLetter_26 : decode cX4_isLetter 26 = .ok (.iconst 0, 1) := by decide +kernel
theorem dX4_isLetter_27 : decode cX4_isLetter 27 = .ok (.ireturn, 1) := by decide +kernel
theorem dX4_isDigit_0 : decode cX4_isDigit 0 = .ok (.iload_n 0, 1) := by decide +kernel
theorem dX4_isDigit_1 : decode cX4_isDigit 1 = .ok (.bipush 48, 2) := by decide +kernel
theorem dX4_isDigit_3 : decode cX4_isDigit 3 = .ok (.bipush 57, 2) := by decide +kernel
theorem dX4_isDigit_5 : decode cX4_isDigit 5 = .ok (.invokestatic 72, 3) := by decide +kernel
theorem dX4_isDigit_8 : decode cX4_isDigit 8 = .ok (.ireturn, 1) := by decide +kernel
end
section
theorem dX1_init_0 : decode cX1_init 0 = .ok (.aload_n 0, 1) := by decide +kernel
theorem dX1_init_1 : decode cX1_init 1 = .ok (.invokespecial 3, 3) := by decide +kernel
theorem dX1_init_4 : decode cX1_init 4 = .ok (.aload_n 0, 1) := by decide +kernel
theorem dX1_init_5 : decode cX1_init 5 = .ok (.new 9, 3) := by decide +kernel
theorem dX1_init_8 : decode cX1_init 8 = .ok (.dup, 1) := by decide +kernel
theorem dX1_init_9 : decode cX1_init 9 = .ok (.invokespecial 11, 3) := by decide +kernel
theorem dX1_init_12 : decode cX1_init 12 = .ok (.putfield 12, 3) := by decide +kernel
theorem dX1_init_15 : decode cX1_init 15 = .ok (.aload_n 0, 1) := by decide +kernel
theorem dX1_init_16 : decode cX1_init 16 = .ok (.getstatic 18, 3) := by decide +kernel
theorem dX1_init_19 : decode cX1_init 19 = .ok (.arraylength, 1) := by decide +kernel
theorem dX1_init_20 : decode cX1_init 20 = .ok (.newarray .int, 2) := by decide +kernel
theorem dX1_init_22 : decode cX1_init 22 = .ok (.putfield 22, 3) := by decide +kernel
theorem dX1_init_25 : decode cX1_init 25 = .ok (.aload_n 0, 1) := by decide +kernel
theorem dX1_init_26 : decode cX1_init 26 = .ok (.new 25, 3) := by decide +kernel
theorem dX1_init_29 : decode cX1_init 29 = .ok (.dup, 1) := by decide +kernel
theorem dX1_init_30 : decode cX1_init 30 = .ok (.invokespecial 27, 3) := by decide +kernel
theorem dX1_init_33 : decode cX1_init 33 = .ok (.putfield 28, 3) := by decide +kernel
theorem dX1_init_36 : decode cX1_init 36 = .ok (.aload_n 0, 1) := by decide +kernel
theorem dX1_init_37 : decode cX1_init 37 = .ok (.iconst 1, 1) := by decide +kernel
theorem dX1_init_38 : decode cX1_init 38 = .ok (.putfield 32, 3) := by decide +kernel
theorem dX1_init_41 : decode cX1_init 41 = .ok (.aload_n 0, 1) := by decide +kernel
theorem dX1_init_42 : decode cX1_init 42 = .ok (.aload_n 1, 1) := by decide +kernel
theorem dX1_init_43 : decode cX1_init 43 = .ok (.putfield 36, 3) := by decide +kernel
theorem dX1_init_46 : decode cX1_init 46 = .ok (.aload_n 0, 1) := by decide +kernel
theorem dX1_init_47 : decode cX1_init 47 = .ok (.aload_n 1, 1) := by decide +kernel
theorem dX1_init_48 : decode cX1_init 48 = .ok (.getfield 40, 3) := by decide +kernel
theorem dX1_init_51 : decode cX1_init 51 = .ok (.newarray .int, 2) := by decide +kernel
theorem dX1_init_53 : decode cX1_init 53 = .ok (.putfield 45, 3) := by decide +kernel
theorem dX1_init_56 : decode cX1_init 56 = .ok (.aload_n 0, 1) := by decide +kernel
theorem dX1_init_57 : decode cX1_init 57 = .ok (.aload_n 1, 1) := by decide +kernel
theorem dX1_init_58 : decode cX1_init 58 = .ok (.getfield 40, 3) := by decide +kernel
theorem dX1_init_61 : decode cX1_init 61 = .ok (.newarray .int, 2) := by decide +kernel
theorem dX1_init_63 : decode cX1_init 63 = .ok (.putfield 48, 3) := by decide +kernel
theorem dX1_init_66 : decode cX1_init 66 = .ok (.aload_n 0, 1) := by decide +kernel
theorem dX1_init_67 : decode cX1_init 67 = .ok (.aload_n 1, 1) := by decide +kernel
theorem dX1_init_68 : decode cX1_init 68 = .ok (.getfield 40, 3) := by decide +kernel
theorem dX1_init_71 : decode cX1_init 71 = .ok (.newarray .int, 2) := by decide +kernel
theorem dX1_init_73 : decode cX1_init 73 = .ok (.putfield 51, 3) := by decide +kernel
theorem dX1_init_76 : decode cX1_init 76 = .ok (.aload_n 0, 1) := by decide +kernel
theorem dX1_init_77 : decode cX1_init 77 = .ok (.aload_n 1, 1) := by decide +kernel
theorem dX1_init_78 : decode cX1_init 78 = .ok (.getfield 40, 3) := by decide +kernel
theorem dX1_init_81 : decode cX1_init 81 = .ok (.newarray .int, 2) := by decide +kernel
theorem dX1_init_83 : decode cX1_init 83 = .ok (.putfield 54, 3) := by decide +kernel
theorem dX1_init_86 : decode cX1_init 86 = .ok (.aload_n 0, 1) := by decide +kernel
theorem dX1_init_87 : decode cX1_init 87 = .ok (.aload_n 1, 1) := by decide +kernel
theorem dX1_init_88 : decode cX1_init 88 = .ok (.getfield 40, 3) := by decide +kernel
theorem dX1_init_91 : decode cX1_init 91 = .ok (.newarray .int, 2) := by decide +kernel
theorem dX1_init_93 : decode cX1_init 93 = .ok (.putfield 57, 3) := by decide +kernel
theorem dX1_init_96 : decode cX1_init 96 = .ok (.aload_n 0, 1) := by decide +kernel
theorem dX1_init_97 : decode cX1_init 97 = .ok (.aload_n 1, 1) := by decide +kernel
theorem dX1_init_98 : decode cX1_init 98 = .ok (.getfield 40, 3) := by decide +kernel
theorem dX1_init_101 : decode cX1_init 101 = .ok (.newarray .int, 2) := by decide +kernel
theorem dX1_init_103 : decode cX1_init 103 = .ok (.putfield 60, 3) := by decide +kernel
theorem dX1_init_106 : decode cX1_init 106 = .ok (.aload_n 0, 1) := by decide +kernel
theorem dX1_init_107 : decode cX1_init 107 = .ok (.aload_n 1, 1) := by decide +kernel
theorem dX1_init_108 : decode cX1_init 108 = .ok (.getfield 40, 3) := by decide +kernel
theorem dX1_init_111 : decode cX1_init 111 = .ok (.newarray .int, 2) := by decide +kernel
theorem dX1_init_113 : decode cX1_init 113 = .ok (.putfield 63, 3) := by decide +kernel
theorem dX1_init_116 : decode cX1_init 116 = .ok (.iconst 0, 1) := by decide +kernel
theorem dX1_init_117 : decode cX1_init 117 = .ok (.istore_n 2, 1) := by decide +kernel
theorem dX1_init_118 : decode cX1_init 118 = .ok (.iload_n 2, 1) := by decide +kernel
theorem dX1_init_119 : decode cX1_init 119 = .ok (.aload_n 0, 1) := by decide +kernel
theorem dX1_init_120 : decode cX1_init 120 = .ok (.getfield 63, 3) := by decide +kernel
theorem dX1_init_123 : decode cX1_init 123 = .ok (.arraylength, 1) := by decide +kernel
theorem dX1_init_124 : decode cX1_init 124 = .ok (.if_icmp .ge 16, 3) := by decide +kernel
theorem dX1_init_127 : decode cX1_init 127 = .ok (.aload_n 0, 1) := by decide +kernel
theorem dX1_init_128 : decode cX1_init 128 = .ok (.getfield 63, 3) := by decide +kernel
theorem dX1_init_131 : decode cX1_init 131 = .ok (.iload_n 2, 1) := by decide +kernel
theorem dX1_init_132 : decode cX1_init 132 = .ok (.iconst (-1), 1) := by decide +kernel
theorem dX1_init_133 : decode cX1_init 133 = .ok (.iastore, 1) := by decide +kernel
theorem dX1_init_134 : decode cX1_init 134 = .ok (.iinc 2 1, 3) := by decide +kernel
theorem dX1_init_137 : decode cX1_init 137 = .ok (.goto (-19), 3) := by decide +kernel
theorem dX1_init_140 : decode cX1_init 140 = .ok (.getstatic 18, 3) := by decide +kernel
theorem dX1_init_143 : decode cX1_init 143 = .ok (.aload_n 0, 1) := by decide +kernel
theorem dX1_init_144 : decode cX1_init 144 = .ok (.getfield 22, 3) := by decide +kernel
theorem dX1_init_147 : decode cX1_init 147 = .ok (.invokestatic 66, 3) := by decide +kernel
theorem dX1_init_150 : decode cX1_init 150 = .ok (.return_, 1) := by decide +kernel
theorem dX1_copyFrom_0 : decode cX1_copyFrom 0 = .ok (.aload_n 1, 1) := by decide +kernel
theorem dX1_copyFrom_1 : decode cX1_copyFrom 1 = .ok (.getfield 45, 3) := by decide +kernel
theorem dX1_copyFrom_4 : decode cX1_copyFrom 4 = .ok (.aload_n 0, 1) := by decide +kernel
theorem dX1_copyFrom_5 : decode cX1_copyFrom 5 = .ok (.getfield 45, 3) := by decide +kernel
theorem dX1_copyFrom_8 : decode cX1_copyFrom 8 = .ok (.invokestatic 66, 3) := by decide +kernel
theorem dX1_copyFrom_11 : decode cX1_copyFrom 11 = .ok (.aload_n 1, 1) := by decide +kernel
theorem dX1_copyFrom_12 : decode cX1_copyFrom 12 = .ok (.getfield 48, 3) := by decide +kernel
theorem dX1_copyFrom_15 : decode cX1_copyFrom 15 = .ok (.aload_n 0, 1) := by decide +kernel
theorem dX1_copyFrom_16 : decode cX1_copyFrom 16 = .ok (.getfield 48, 3) := by decide +kernel
theorem dX1_copyFrom_19 : decode cX1_copyFrom 19 = .ok (.invokestatic 66, 3) := by decide +kernel
theorem dX1_copyFrom_22 : decode cX1_copyFrom 22 = .ok (.aload_n 1, 1) := by decide +kernel
theorem dX1_copyFrom_23 : decode cX1_copyFrom 23 = .ok (.getfield 51, 3) := by decide +kernel
theorem dX1_copyFrom_26 : decode cX1_copyFrom 26 = .ok (.aload_n 0, 1) := by decide +kernel
theorem dX1_copyFrom_27 : decode cX1_copyFrom 27 = .ok (.getfield 51, 3) := by decide +kernel
theorem dX1_copyFrom_30 : decode cX1_copyFrom 30 = .ok (.invokestatic 66, 3) := by decide +kernel
theorem dX1_copyFrom_33 : decode cX1_copyFrom 33 = .ok (.aload_n 1, 1) := by decide +kernel
theorem dX1_copyFrom_34 : decode cX1_copyFrom 34 = .ok (.getfield 54, 3) := by decide +kernel
theorem dX1_copyFrom_37 : decode cX1_copyFrom 37 = .ok (.aload_n 0, 1) := by decide +kernel
theorem dX1_copyFrom_38 : decode cX1_copyFrom 38 = .ok (.getfield 54, 3) := by decide +kernel
theorem dX1_copyFrom_41 : decode cX1_copyFrom 41 = .ok (.invokestatic 66, 3) := by decide +kernel
theorem dX1_copyFrom_44 : decode cX1_copyFrom 44 = .ok (.aload_n 1, 1) := by decide +kernel
theorem dX1_copyFrom_45 : decode cX1_copyFrom 45 = .ok (.getfield 57, 3) := by decide +kernel
theorem dX1_copyFrom_48 : decode cX1_copyFrom 48 = .ok (.aload_n 0, 1) := by decide +kernel
theorem dX1_copyFrom_49 : decode cX1_copyFrom 49 = .ok (.getfield 57, 3) := by decide +kernel
theorem dX1_copyFrom_52 : decode cX1_copyFrom 52 = .ok (.invokestatic 66, 3) := by decide +kernel
theorem dX1_copyFrom_55 : decode cX1_copyFrom 55 = .ok (.aload_n 1, 1) := by decide +kernel
theorem dX1_copyFrom_56 : decode cX1_copyFrom 56 = .ok (.getfield 60, 3) := by decide +kernel
theorem dX1_copyFrom_59 : decode cX1_copyFrom 59 = .ok (.aload_n 0, 1) := by decide +kernel
theorem dX1_copyFrom_60 : decode cX1_copyFrom 60 = .ok (.getfield 60, 3) := by decide +kernel
theorem dX1_copyFrom_63 : decode cX1_copyFrom 63 = .ok (.invokestatic 66, 3) := by decide +kernel
theorem dX1_copyFrom_66 : decode cX1_copyFrom 66 = .ok (.aload_n 1, 1) := by decide +kernel
theorem dX1_copyFrom_67 : decode cX1_copyFrom 67 = .ok (.getfield 63, 3) := by decide +kernel
theorem dX1_copyFrom_70 : decode cX1_copyFrom 70 = .ok (.aload_n 0, 1) := by decide +kernel
theorem dX1_copyFrom_71 : decode cX1_copyFrom 71 = .ok (.getfield 63, 3) := by decide +kernel
theorem dX1_copyFrom_74 : decode cX1_copyFrom 74 = .ok (.invokestatic 66, 3) := by decide +kernel
theorem dX1_copyFrom_77 : decode cX1_copyFrom 77 = .ok (.aload_n 1, 1) := by decide +kernel
theorem dX1_copyFrom_78 : decode cX1_copyFrom 78 = .ok (.getfield 22, 3) := by decide +kernel
theorem dX1_copyFrom_81 : decode cX1_copyFrom 81 = .ok (.aload_n 0, 1) := by decide +kernel
theorem dX1_copyFrom_82 : decode cX1_copyFrom 82 = .ok (.getfield 22, 3) := by decide +kernel
theorem dX1_copyFrom_85 : decode cX1_copyFrom 85 = .ok (.invokestatic 66, 3) := by decide +kernel
theorem dX1_copyFrom_88 : decode cX1_copyFrom 88 = .ok (.aload_n 0, 1) := by decide +kernel
theorem dX1_copyFrom_89 : decode cX1_copyFrom 89 = .ok (.getfield 28, 3) := by decide +kernel
theorem dX1_copyFrom_92 : decode cX1_copyFrom 92 = .ok (.aload_n 1, 1) := by decide +kernel
theorem dX1_copyFrom_93 : decode cX1_copyFrom 93 = .ok (.getfield 28, 3) := by decide +kernel
theorem dX1_copyFrom_96 : decode cX1_copyFrom 96 = .ok (.invokevirtual 70, 3) := by decide +kernel
theorem dX1_copyFrom_99 : decode cX1_copyFrom 99 = .ok (.aload_n 0, 1) := by decide +kernel
theorem dX1_copyFrom_100 : decode cX1_copyFrom 100 = .ok (.aload_n 1, 1) := by decide +kernel
theorem dX1_copyFrom_101 : decode cX1_copyFrom 101 = .ok (.getfield 32, 3) := by decide +kernel
theorem dX1_copyFrom_104 : decode cX1_copyFrom 104 = .ok (.putfield 32, 3) := by decide +kernel
theorem dX1_copyFrom_107 : decode cX1_copyFrom 107 = .ok (.aload_n 0, 1) := by decide +kernel
theorem dX1_copyFrom_108 : decode cX1_copyFrom 108 = .ok (.aload_n 1, 1) := by decide +kernel
theorem dX1_copyFrom_109 : decode cX1_copyFrom 109 = .ok (.getfield 74, 3) := by decide +kernel
theorem dX1_copyFrom_112 : decode cX1_copyFrom 112 = .ok (.putfield 74, 3) := by decide +kernel
theorem dX1_copyFrom_115 : decode cX1_copyFrom 115 = .ok (.aload_n 0, 1) := by decide +kernel
theorem dX1_copyFrom_116 : decode cX1_copyFrom 116 = .ok (.aload_n 1, 1) := by decide +kernel
theorem dX1_copyFrom_117 : decode cX1_copyFrom 117 = .ok (.getfield 77, 3) := by decide +kernel
theorem dX1_copyFrom_120 : decode cX1_copyFrom 120 = .ok (.putfield 77, 3) := by decide +kernel
theorem dX1_copyFrom_123 : decode cX1_copyFrom 123 = .ok (.aload_n 0, 1) := by decide +kernel
theorem dX1_copyFrom_124 : decode cX1_copyFrom 124 = .ok (.aload_n 1, 1) := by decide +kernel
theorem dX1_copyFrom_125 : decode cX1_copyFrom 125 = .ok (.getfield 80, 3) := by decide +kernel
theorem dX1_copyFrom_128 : decode cX1_copyFrom 128 = .ok (.putfield 80, 3) := by decide +kernel
theorem dX1_copyFrom_131 : decode cX1_copyFrom 131 = .ok (.aload_n 0, 1) := by decide +kernel
theorem dX1_copyFrom_132 : decode cX1_copyFrom 132 = .ok (.aload_n 1, 1) := by decide +kernel
theorem dX1_copyFrom_133 : decode cX1_copyFrom 133 = .ok (.getfield 83, 3) := by decide +kernel
theorem dX1_copyFrom_136 : decode cX1_copyFrom 136 = .ok (.putfield 83, 3) := by decide +kernel
theorem dX1_copyFrom_139 : decode cX1_copyFrom 139 = .ok (.return_, 1) := by decide +kernel
theorem dX1_pile_0 : decode cX1_pile 0 = .ok (.aload_n 0, 1) := by decide +kernel
theorem dX1_pile_1 : decode cX1_pile 1 = .ok (.getfield 36, 3) := by decide +kernel
theorem dX1_pile_4 : decode cX1_pile 4 = .ok (.iload_n 1, 1) := by decide +kernel
theorem dX1_pile_5 : decode cX1_pile 5 = .ok (.invokevirtual 86, 3) := by decide +kernel
theorem dX1_pile_8 : decode cX1_pile 8 = .ok (.ifCond .ne 4, 3) := by decide +kernel
theorem dX1_pile_11 : decode cX1_pile 11 = .ok (.return_, 1) := by decide +kernel
theorem dX1_pile_12 : decode cX1_pile 12 = .ok (.aload_n 0, 1) := by decide +kernel
theorem dX1_pile_13 : decode cX1_pile 13 = .ok (.getfield 45, 3) := by decide +kernel
theorem dX1_pile_16 : decode cX1_pile 16 = .ok (.iload_n 1, 1) := by decide +kernel
theorem dX1_pile_17 : decode cX1_pile 17 = .ok (.iload_n 2, 1) := by decide +kernel
theorem dX1_pile_18 : decode cX1_pile 18 = .ok (.iastore, 1) := by decide +kernel
theorem dX1_pile_19 : decode cX1_pile 19 = .ok (.aload_n 0, 1) := by decide +kernel
theorem dX1_pile_20 : decode cX1_pile 20 = .ok (.getfield 48, 3) := by decide +kernel
theorem dX1_pile_23 : decode cX1_pile 23 = .ok (.iload_n 1, 1) := by decide +kernel
theorem dX1_pile_24 : decode cX1_pile 24 = .ok (.iload_n 2, 1) := by decide +kernel
theorem dX1_pile_25 : decode cX1_pile 25 = .ok (.iastore, 1) := by decide +kernel
theorem dX1_pile_26 : decode cX1_pile 26 = .ok (.aload_n 0, 1) := by decide +kernel
theorem dX1_pile_27 : decode cX1_pile 27 = .ok (.iload_n 1, 1) := by decide +kernel
theorem dX1_pile_28 : decode cX1_pile 28 = .ok (.invokevirtual 90, 3) := by decide +kernel
theorem dX1_pile_31 : decode cX1_pile 31 = .ok (.aload_n 0, 1) := by decide +kernel
theorem dX1_pile_32 : decode cX1_pile 32 = .ok (.getfield 12, 3) := by decide +kernel
theorem dX1_pile_35 : decode cX1_pile 35 = .ok (.iload_n 1, 1) := by decide +kernel
theorem dX1_pile_36 : decode cX1_pile 36 = .ok (.invokevirtual 94, 3) := by decide +kernel
theorem dX1_pile_39 : decode cX1_pile 39 = .ok (.aload_n 0, 1) := by decide +kernel
theorem dX1_pile_40 : decode cX1_pile 40 = .ok (.invokevirtual 97, 3) := by decide +kernel
theorem dX1_pile_43 : decode cX1_pile 43 = .ok (.return_, 1) := by decide +kernel
theorem dX1_put_0 : decode cX1_put 0 = .ok (.aload_n 0, 1) := by decide +kernel
theorem dX1_put_1 : decode cX1_put 1 = .ok (.getfield 36, 3) := by decide +kernel
theorem dX1_put_4 : decode cX1_put 4 = .ok (.iload_n 1, 1) := by decide +kernel
theorem dX1_put_5 : decode cX1_put 5 = .ok (.invokevirtual 86, 3) := by decide +kernel
theorem dX1_put_8 : decode cX1_put 8 = .ok (.ifCond .ne 4, 3) := by decide +kernel
theorem dX1_put_11 : decode cX1_put 11 = .ok (.return_, 1) := by decide +kernel
theorem dX1_put_12 : decode cX1_put 12 = .ok (.iload_n 2, 1) := by decide +kernel
theorem dX1_put_13 : decode cX1_put 13 = .ok (.tableswitch 57 0 2 #[27, 37, 47], 27) := by decide +kernel
theorem dX1_put_40 : decode cX1_put 40 = .ok (.aload_n 0, 1) := by decide +kernel
theorem dX1_put_41 : decode cX1_put 41 = .ok (.getfield 51, 3) := by decide +kernel
theorem dX1_put_44 : decode cX1_put 44 = .ok (.iload_n 1, 1) := by decide +kernel
theorem dX1_put_45 : decode cX1_put 45 = .ok (.iload_n 3, 1) := by decide +kernel
theorem dX1_put_46 : decode cX1_put 46 = .ok (.iastore, 1) := by decide +kernel
theorem dX1_put_47 : decode cX1_put 47 = .ok (.goto 37, 3) := by decide +kernel
theorem dX1_put_50 : decode cX1_put 50 = .ok (.aload_n 0, 1) := by decide +kernel
theorem dX1_put_51 : decode cX1_put 51 = .ok (.getfield 54, 3) := by decide +kernel
theorem dX1_put_54 : decode cX1_put 54 = .ok (.iload_n 1, 1) := by decide +kernel
theorem dX1_put_55 : decode cX1_put 55 = .ok (.iload_n 3, 1) := by decide +kernel
theorem dX1_put_56 : decode cX1_put 56 = .ok (.iastore, 1) := by decide +kernel
theorem dX1_put_57 : decode cX1_put 57 = .ok (.goto 27, 3) := by decide +kernel
theorem dX1_put_60 : decode cX1_put 60 = .ok (.aload_n 0, 1) := by decide +kernel
theorem dX1_put_61 : decode cX1_put 61 = .ok (.getfield 57, 3) := by decide +kernel
theorem dX1_put_64 : decode cX1_put 64 = .ok (.iload_n 1, 1) := by decide +kernel
theorem dX1_put_65 : decode cX1_put 65 = .ok (.iload_n 3, 1) := by decide +kernel
theorem dX1_put_66 : decode cX1_put 66 = .ok (.iastore, 1) := by decide +kernel
theorem dX1_put_67 : decode cX1_put 67 = .ok (.goto 17, 3) := by decide +kernel
theorem dX1_put_70 : decode cX1_put 70 = .ok (.aload_n 0, 1) := by decide +kernel
theorem dX1_put_71 : decode cX1_put 71 = .ok (.getfield 60, 3) := by decide +kernel
theorem dX1_put_74 : decode cX1_put 74 = .ok (.iload_n 1, 1) := by decide +kernel
theorem dX1_put_75 : decode cX1_put 75 = .ok (.iload_n 3, 1) := by decide +kernel
theorem dX1_put_76 : decode cX1_put 76 = .ok (.iastore, 1) := by decide +kernel
theorem dX1_put_77 : decode cX1_put 77 = .ok (.aload_n 0, 1) := by decide +kernel
theorem dX1_put_78 : decode cX1_put 78 = .ok (.getfield 63, 3) := by decide +kernel
theorem dX1_put_81 : decode cX1_put 81 = .ok (.iload_n 1, 1) := by decide +kernel
theorem dX1_put_82 : decode cX1_put 82 = .ok (.iconst (-1), 1) := by decide +kernel
theorem dX1_put_83 : decode cX1_put 83 = .ok (.iastore, 1) := by decide +kernel
theorem dX1_put_84 : decode cX1_put 84 = .ok (.return_, 1) := by decide +kernel
theorem dX1_look_0 : decode cX1_look 0 = .ok (.aload_n 0, 1) := by decide +kernel
theorem dX1_look_1 : decode cX1_look 1 = .ok (.getfield 36, 3) := by decide +kernel
theorem dX1_look_4 : decode cX1_look 4 = .ok (.iload_n 1, 1) := by decide +kernel
theorem dX1_look_5 : decode cX1_look 5 = .ok (.invokevirtual 86, 3) := by decide +kernel
theorem dX1_look_8 : decode cX1_look 8 = .ok (.ifCond .ne 5, 3) := by decide +kernel
theorem dX1_look_11 : decode cX1_look 11 = .ok (.iconst (-1), 1) := by decide +kernel
theorem dX1_look_12 : decode cX1_look 12 = .ok (.ireturn, 1) := by decide +kernel
theorem dX1_look_13 : decode cX1_look 13 = .ok (.iload_n 2, 1) := by decide +kernel
theorem dX1_look_14 : decode cX1_look 14 = .ok (.tableswitch 114 0 9 #[54, 61, 68, 75, 82, 89, 96, 96, 96, 96], 54) := by decide +kernel
theorem dX1_look_68 : decode cX1_look 68 = .ok (.aload_n 0, 1) := by decide +kernel
theorem dX1_look_69 : decode cX1_look 69 = .ok (.getfield 45, 3) := by decide +kernel
theorem dX1_look_72 : decode cX1_look 72 = .ok (.iload_n 1, 1) := by decide +kernel
theorem dX1_look_73 : decode cX1_look 73 = .ok (.iaload, 1) := by decide +kernel
theorem dX1_look_74 : decode cX1_look 74 = .ok (.ireturn, 1) := by decide +kernel
theorem dX1_look_75 : decode cX1_look 75 = .ok (.aload_n 0, 1) := by decide +kernel
theorem dX1_look_76 : decode cX1_look 76 = .ok (.getfield 51, 3) := by decide +kernel
theorem dX1_look_79 : decode cX1_look 79 = .ok (.iload_n 1, 1) := by decide +kernel
theorem dX1_look_80 : decode cX1_look 80 = .ok (.iaload, 1) := by decide +kernel
theorem dX1_look_81 : decode cX1_look 81 = .ok (.ireturn, 1) := by decide +kernel
theorem dX1_look_82 : decode cX1_look 82 = .ok (.aload_n 0, 1) := by decide +kernel
theorem dX1_look_83 : decode cX1_look 83 = .ok (.getfield 54, 3) := by decide +kernel
theorem dX1_look_86 : decode cX1_look 86 = .ok (.iload_n 1, 1) := by decide +kernel
theorem dX1_look_87 : decode cX1_look 87 = .ok (.iaload, 1) := by decide +kernel
theorem dX1_look_88 : decode cX1_look 88 = .ok (.ireturn, 1) := by decide +kernel
theorem dX1_look_89 : decode cX1_look 89 = .ok (.aload_n 0, 1) := by decide +kernel
theorem dX1_look_90 : decode cX1_look 90 = .ok (.getfield 57, 3) := by decide +kernel
theorem dX1_look_93 : decode cX1_look 93 = .ok (.iload_n 1, 1) := by decide +kernel
theorem dX1_look_94 : decode cX1_look 94 = .ok (.iaload, 1) := by decide +kernel
theorem dX1_look_95 : decode cX1_look 95 = .ok (.ireturn, 1) := by decide +kernel
theorem dX1_look_96 : decode cX1_look 96 = .ok (.aload_n 0, 1) := by decide +kernel
theorem dX1_look_97 : decode cX1_look 97 = .ok (.getfield 60, 3) := by decide +kernel
theorem dX1_look_100 : decode cX1_look 100 = .ok (.iload_n 1, 1) := by decide +kernel
theorem dX1_look_101 : decode cX1_look 101 = .ok (.iaload, 1) := by decide +kernel
theorem dX1_look_102 : decode cX1_look 102 = .ok (.ireturn, 1) := by decide +kernel
theorem dX1_look_103 : decode cX1_look 103 = .ok (.aload_n 0, 1) := by decide +kernel
theorem dX1_look_104 : decode cX1_look 104 = .ok (.getfield 63, 3) := by decide +kernel
theorem dX1_look_107 : decode cX1_look 107 = .ok (.iload_n 1, 1) := by decide +kernel
theorem dX1_look_108 : decode cX1_look 108 = .ok (.iaload, 1) := by decide +kernel
theorem dX1_look_109 : decode cX1_look 109 = .ok (.ireturn, 1) := by decide +kernel
theorem dX1_look_110 : decode cX1_look 110 = .ok (.aload_n 0, 1) := by decide +kernel
theorem dX1_look_111 : decode cX1_look 111 = .ok (.iload_n 1, 1) := by decide +kernel
theorem dX1_look_112 : decode cX1_look 112 = .ok (.iload_n 2, 1) := by decide +kernel
theorem dX1_look_113 : decode cX1_look 113 = .ok (.bipush 6, 2) := by decide +kernel
theorem dX1_look_115 : decode cX1_look 115 = .ok (.isub, 1) := by decide +kernel
theorem dX1_look_116 : decode cX1_look 116 = .ok (.invokevirtual 100, 3) := by decide +kernel
theorem dX1_look_119 : decode cX1_look 119 = .ok (.ifCond .eq 7, 3) := by decide +kernel
theorem dX1_look_122 : decode cX1_look 122 = .ok (.iconst 1, 1) := by decide +kernel
theorem dX1_look_123 : decode cX1_look 123 = .ok (.goto 4, 3) := by decide +kernel
theorem dX1_look_126 : decode cX1_look 126 = .ok (.iconst 0, 1) := by decide +kernel
theorem dX1_look_127 : decode cX1_look 127 = .ok (.ireturn, 1) := by decide +kernel
theorem dX1_look_128 : decode cX1_look 128 = .ok (.iconst (-1), 1) := by decide +kernel
theorem dX1_look_129 : decode cX1_look 129 = .ok (.ireturn, 1) := by decide +kernel
theorem dX1_grains_0 : decode cX1_grains 0 = .ok (.iconst 0, 1) := by decide +kernel
theorem dX1_grains_1 : decode cX1_grains 1 = .ok (.istore_n 1, 1) := by decide +kernel
theorem dX1_grains_2 : decode cX1_grains 2 = .ok (.iconst 0, 1) := by decide +kernel
theorem dX1_grains_3 : decode cX1_grains 3 = .ok (.istore_n 2, 1) := by decide +kernel
theorem dX1_grains_4 : decode cX1_grains 4 = .ok (.iload_n 2, 1) := by decide +kernel
theorem dX1_grains_5 : decode cX1_grains 5 = .ok (.aload_n 0, 1) := by decide +kernel
theorem dX1_grains_6 : decode cX1_grains 6 = .ok (.getfield 45, 3) := by decide +kernel
theorem dX1_grains_9 : decode cX1_grains 9 = .ok (.arraylength, 1) := by decide +kernel
theorem dX1_grains_10 : decode cX1_grains 10 = .ok (.if_icmp .ge 18, 3) := by decide +kernel
theorem dX1_grains_13 : decode cX1_grains 13 = .ok (.iload_n 1, 1) := by decide +kernel
theorem dX1_grains_14 : decode cX1_grains 14 = .ok (.aload_n 0, 1) := by decide +kernel
theorem dX1_grains_15 : decode cX1_grains 15 = .ok (.getfield 45, 3) := by decide +kernel
theorem dX1_grains_18 : decode cX1_grains 18 = .ok (.iload_n 2, 1) := by decide +kernel
theorem dX1_grains_19 : decode cX1_grains 19 = .ok (.iaload, 1) := by decide +kernel
theorem dX1_grains_20 : decode cX1_grains 20 = .ok (.iadd, 1) := by decide +kernel
theorem dX1_grains_21 : decode cX1_grains 21 = .ok (.istore_n 1, 1) := by decide +kernel
theorem dX1_grains_22 : decode cX1_grains 22 = .ok (.iinc 2 1, 3) := by decide +kernel
theorem dX1_grains_25 : decode cX1_grains 25 = .ok (.goto (-21), 3) := by decide +kernel
theorem dX1_grains_28 : decode cX1_grains 28 = .ok (.iload_n 1, 1) := by decide +kernel
theorem dX1_grains_29 : decode cX1_grains 29 = .ok (.ireturn, 1) := by decide +kernel
theorem dX1_grainsOnHouses_0 : decode cX1_grainsOnHouses 0 = .ok (.iconst 0, 1) := by decide +kernel
theorem dX1_grainsOnHouses_1 : decode cX1_grainsOnHouses 1 = .ok (.istore_n 1, 1) := by decide +kernel
theorem dX1_grainsOnHouses_2 : decode cX1_grainsOnHouses 2 = .ok (.iconst 0, 1) := by decide +kernel
theorem dX1_grainsOnHouses_3 : decode cX1_grainsOnHouses 3 = .ok (.istore_n 2, 1) := by decide +kernel
theorem dX1_grainsOnHouses_4 : decode cX1_grainsOnHouses 4 = .ok (.iload_n 2, 1) := by decide +kernel
theorem dX1_grainsOnHouses_5 : decode cX1_grainsOnHouses 5 = .ok (.aload_n 0, 1) := by decide +kernel
theorem dX1_grainsOnHouses_6 : decode cX1_grainsOnHouses 6 = .ok (.getfield 45, 3) := by decide +kernel
theorem dX1_grainsOnHouses_9 : decode cX1_grainsOnHouses 9 = .ok (.arraylength, 1) := by decide +kernel
theorem dX1_grainsOnHouses_10 : decode cX1_grainsOnHouses 10 = .ok (.if_icmp .ge 27, 3) := by decide +kernel
theorem dX1_grainsOnHouses_13 : decode cX1_grainsOnHouses 13 = .ok (.aload_n 0, 1) := by decide +kernel
theorem dX1_grainsOnHouses_14 : decode cX1_grainsOnHouses 14 = .ok (.getfield 60, 3) := by decide +kernel
theorem dX1_grainsOnHouses_17 : decode cX1_grainsOnHouses 17 = .ok (.iload_n 2, 1) := by decide +kernel
theorem dX1_grainsOnHouses_18 : decode cX1_grainsOnHouses 18 = .ok (.iaload, 1) := by decide +kernel
theorem dX1_grainsOnHouses_19 : decode cX1_grainsOnHouses 19 = .ok (.ifCond .le 12, 3) := by decide +kernel
theorem dX1_grainsOnHouses_22 : decode cX1_grainsOnHouses 22 = .ok (.iload_n 1, 1) := by decide +kernel
theorem dX1_grainsOnHouses_23 : decode cX1_grainsOnHouses 23 = .ok (.aload_n 0, 1) := by decide +kernel
theorem dX1_grainsOnHouses_24 : decode cX1_grainsOnHouses 24 = .ok (.getfield 45, 3) := by decide +kernel
theorem dX1_grainsOnHouses_27 : decode cX1_grainsOnHouses 27 = .ok (.iload_n 2, 1) := by decide +kernel
theorem dX1_grainsOnHouses_28 : decode cX1_grainsOnHouses 28 = .ok (.iaload, 1) := by decide +kernel
theorem dX1_grainsOnHouses_29 : decode cX1_grainsOnHouses 29 = .ok (.iadd, 1) := by decide +kernel
theorem dX1_grainsOnHouses_30 : decode cX1_grainsOnHouses 30 = .ok (.istore_n 1, 1) := by decide +kernel
theorem dX1_grainsOnHouses_31 : decode cX1_grainsOnHouses 31 = .ok (.iinc 2 1, 3) := by decide +kernel
theorem dX1_grainsOnHouses_34 : decode cX1_grainsOnHouses 34 = .ok (.goto (-30), 3) := by decide +kernel
theorem dX1_grainsOnHouses_37 : decode cX1_grainsOnHouses 37 = .ok (.iload_n 1, 1) := by decide +kernel
theorem dX1_grainsOnHouses_38 : decode cX1_grainsOnHouses 38 = .ok (.ireturn, 1) := by decide +kernel
theorem dX1_cut_0 : decode cX1_cut 0 = .ok (.iconst 0, 1) := by decide +kernel
theorem dX1_cut_1 : decode cX1_cut 1 = .ok (.istore_n 2, 1) := by decide +kernel
theorem dX1_cut_2 : decode cX1_cut 2 = .ok (.iconst 0, 1) := by decide +kernel
theorem dX1_cut_3 : decode cX1_cut 3 = .ok (.istore_n 3, 1) := by decide +kernel
theorem dX1_cut_4 : decode cX1_cut 4 = .ok (.iload_n 3, 1) := by decide +kernel
theorem dX1_cut_5 : decode cX1_cut 5 = .ok (.aload_n 0, 1) := by decide +kernel
theorem dX1_cut_6 : decode cX1_cut 6 = .ok (.getfield 36, 3) := by decide +kernel
theorem dX1_cut_9 : decode cX1_cut 9 = .ok (.getfield 104, 3) := by decide +kernel
theorem dX1_cut_12 : decode cX1_cut 12 = .ok (.if_icmp .ge 85, 3) := by decide +kernel
theorem dX1_cut_15 : decode cX1_cut 15 = .ok (.iload_n 1, 1) := by decide +kernel
theorem dX1_cut_16 : decode cX1_cut 16 = .ok (.istore 4, 2) := by decide +kernel
theorem dX1_cut_18 : decode cX1_cut 18 = .ok (.iconst 0, 1) := by decide +kernel
theorem dX1_cut_19 : decode cX1_cut 19 = .ok (.istore 5, 2) := by decide +kernel
theorem dX1_cut_21 : decode cX1_cut 21 = .ok (.iload 5, 2) := by decide +kernel
theorem dX1_cut_23 : decode cX1_cut 23 = .ok (.aload_n 0, 1) := by decide +kernel
theorem dX1_cut_24 : decode cX1_cut 24 = .ok (.getfield 36, 3) := by decide +kernel
theorem dX1_cut_27 : decode cX1_cut 27 = .ok (.getfield 107, 3) := by decide +kernel
theorem dX1_cut_30 : decode cX1_cut 30 = .ok (.if_icmp .ge 61, 3) := by decide +kernel
theorem dX1_cut_33 : decode cX1_cut 33 = .ok (.iload_n 3, 1) := by decide +kernel
theorem dX1_cut_34 : decode cX1_cut 34 = .ok (.aload_n 0, 1) := by decide +kernel
theorem dX1_cut_35 : decode cX1_cut 35 = .ok (.getfield 36, 3) := by decide +kernel
theorem dX1_cut_38 : decode cX1_cut 38 = .ok (.getfield 107, 3) := by decide +kernel
theorem dX1_cut_41 : decode cX1_cut 41 = .ok (.imul, 1) := by decide +kernel
theorem dX1_cut_42 : decode cX1_cut 42 = .ok (.iload 5, 2) := by decide +kernel
theorem dX1_cut_44 : decode cX1_cut 44 = .ok (.iadd, 1) := by decide +kernel
theorem dX1_cut_45 : decode cX1_cut 45 = .ok (.istore 6, 2) := by decide +kernel
theorem dX1_cut_47 : decode cX1_cut 47 = .ok (.iload 4, 2) := by decide +kernel
theorem dX1_cut_49 : decode cX1_cut 49 = .ok (.aload_n 0, 1) := by decide +kernel
theorem dX1_cut_50 : decode cX1_cut 50 = .ok (.getfield 45, 3) := by decide +kernel
theorem dX1_cut_53 : decode cX1_cut 53 = .ok (.iload 6, 2) := by decide +kernel
theorem dX1_cut_55 : decode cX1_cut 55 = .ok (.iaload, 1) := by decide +kernel
theorem dX1_cut_56 : decode cX1_cut 56 = .ok (.invokestatic 110, 3) := by decide +kernel
theorem dX1_cut_59 : decode cX1_cut 59 = .ok (.istore 7, 2) := by decide +kernel
theorem dX1_cut_61 : decode cX1_cut 61 = .ok (.aload_n 0, 1) := by decide +kernel
theorem dX1_cut_62 : decode cX1_cut 62 = .ok (.getfield 45, 3) := by decide +kernel
theorem dX1_cut_65 : decode cX1_cut 65 = .ok (.iload 6, 2) := by decide +kernel
theorem dX1_cut_67 : decode cX1_cut 67 = .ok (.dup2, 1) := by decide +kernel
theorem dX1_cut_68 : decode cX1_cut 68 = .ok (.iaload, 1) := by decide +kernel
theorem dX1_cut_69 : decode cX1_cut 69 = .ok (.iload 7, 2) := by decide +kernel
theorem dX1_cut_71 : decode cX1_cut 71 = .ok (.isub, 1) := by decide +kernel
theorem dX1_cut_72 : decode cX1_cut 72 = .ok (.iastore, 1) := by decide +kernel
theorem dX1_cut_73 : decode cX1_cut 73 = .ok (.iload 4, 2) := by decide +kernel
theorem dX1_cut_75 : decode cX1_cut 75 = .ok (.iload 7, 2) := by decide +kernel
theorem dX1_cut_77 : decode cX1_cut 77 = .ok (.isub, 1) := by decide +kernel
theorem dX1_cut_78 : decode cX1_cut 78 = .ok (.istore 4, 2) := by decide +kernel
theorem dX1_cut_80 : decode cX1_cut 80 = .ok (.iload_n 2, 1) := by decide +kernel
theorem dX1_cut_81 : decode cX1_cut 81 = .ok (.iload 7, 2) := by decide +kernel
theorem dX1_cut_83 : decode cX1_cut 83 = .ok (.iadd, 1) := by decide +kernel
theorem dX1_cut_84 : decode cX1_cut 84 = .ok (.istore_n 2, 1) := by decide +kernel
theorem dX1_cut_85 : decode cX1_cut 85 = .ok (.iinc 5 1, 3) := by decide +kernel
theorem dX1_cut_88 : decode cX1_cut 88 = .ok (.goto (-67), 3) := by decide +kernel
theorem dX1_cut_91 : decode cX1_cut 91 = .ok (.iinc 3 1, 3) := by decide +kernel
theorem dX1_cut_94 : decode cX1_cut 94 = .ok (.goto (-90), 3) := by decide +kernel
theorem dX1_cut_97 : decode cX1_cut 97 = .ok (.aload_n 0, 1) := by decide +kernel
theorem dX1_cut_98 : decode cX1_cut 98 = .ok (.dup, 1) := by decide +kernel
theorem dX1_cut_99 : decode cX1_cut 99 = .ok (.getfield 77, 3) := by decide +kernel
theorem dX1_cut_102 : decode cX1_cut 102 = .ok (.iload_n 2, 1) := by decide +kernel
theorem dX1_cut_103 : decode cX1_cut 103 = .ok (.iadd, 1) := by decide +kernel
theorem dX1_cut_104 : decode cX1_cut 104 = .ok (.putfield 77, 3) := by decide +kernel
theorem dX1_cut_107 : decode cX1_cut 107 = .ok (.aload_n 0, 1) := by decide +kernel
theorem dX1_cut_108 : decode cX1_cut 108 = .ok (.invokevirtual 116, 3) := by decide +kernel
theorem dX1_cut_111 : decode cX1_cut 111 = .ok (.iload_n 2, 1) := by decide +kernel
theorem dX1_cut_112 : decode cX1_cut 112 = .ok (.ireturn, 1) := by decide +kernel
theorem dX1_settleAll_0 : decode cX1_settleAll 0 = .ok (.iconst 0, 1) := by decide +kernel
theorem dX1_settleAll_1 : decode cX1_settleAll 1 = .ok (.istore_n 1, 1) := by decide +kernel
theorem dX1_settleAll_2 : decode cX1_settleAll 2 = .ok (.iload_n 1, 1) := by decide +kernel
theorem dX1_settleAll_3 : decode cX1_settleAll 3 = .ok (.aload_n 0, 1) := by decide +kernel
theorem dX1_settleAll_4 : decode cX1_settleAll 4 = .ok (.getfield 45, 3) := by decide +kernel
theorem dX1_settleAll_7 : decode cX1_settleAll 7 = .ok (.arraylength, 1) := by decide +kernel
theorem dX1_settleAll_8 : decode cX1_settleAll 8 = .ok (.if_icmp .ge 17, 3) := by decide +kernel
theorem dX1_settleAll_11 : decode cX1_settleAll 11 = .ok (.aload_n 0, 1) := by decide +kernel
theorem dX1_settleAll_12 : decode cX1_settleAll 12 = .ok (.getfield 12, 3) := by decide +kernel
theorem dX1_settleAll_15 : decode cX1_settleAll 15 = .ok (.iload_n 1, 1) := by decide +kernel
theorem dX1_settleAll_16 : decode cX1_settleAll 16 = .ok (.invokevirtual 94, 3) := by decide +kernel
theorem dX1_settleAll_19 : decode cX1_settleAll 19 = .ok (.iinc 1 1, 3) := by decide +kernel
theorem dX1_settleAll_22 : decode cX1_settleAll 22 = .ok (.goto (-20), 3) := by decide +kernel
theorem dX1_settleAll_25 : decode cX1_settleAll 25 = .ok (.aload_n 0, 1) := by decide +kernel
theorem dX1_settleAll_26 : decode cX1_settleAll 26 = .ok (.invokevirtual 97, 3) := by decide +kernel
theorem dX1_settleAll_29 : decode cX1_settleAll 29 = .ok (.return_, 1) := by decide +kernel
theorem dX1_doubtAbove_0 : decode cX1_doubtAbove 0 = .ok (.iconst 0, 1) := by decide +kernel
theorem dX1_doubtAbove_1 : decode cX1_doubtAbove 1 = .ok (.istore_n 2, 1) := by decide +kernel
theorem dX1_doubtAbove_2 : decode cX1_doubtAbove 2 = .ok (.iload_n 2, 1) := by decide +kernel
theorem dX1_doubtAbove_3 : decode cX1_doubtAbove 3 = .ok (.iconst 4, 1) := by decide +kernel
theorem dX1_doubtAbove_4 : decode cX1_doubtAbove 4 = .ok (.if_icmp .ge 54, 3) := by decide +kernel
theorem dX1_doubtAbove_7 : decode cX1_doubtAbove 7 = .ok (.aload_n 0, 1) := by decide +kernel
theorem dX1_doubtAbove_8 : decode cX1_doubtAbove 8 = .ok (.getfield 36, 3) := by decide +kernel
theorem dX1_doubtAbove_11 : decode cX1_doubtAbove 11 = .ok (.iload_n 1, 1) := by decide +kernel
theorem dX1_doubtAbove_12 : decode cX1_doubtAbove 12 = .ok (.iload_n 2, 1) := by decide +kernel
theorem dX1_doubtAbove_13 : decode cX1_doubtAbove 13 = .ok (.invokevirtual 119, 3) := by decide +kernel
theorem dX1_doubtAbove_16 : decode cX1_doubtAbove 16 = .ok (.istore_n 3, 1) := by decide +kernel
theorem dX1_doubtAbove_17 : decode cX1_doubtAbove 17 = .ok (.iload_n 3, 1) := by decide +kernel
theorem dX1_doubtAbove_18 : decode cX1_doubtAbove 18 = .ok (.iconst (-1), 1) := by decide +kernel
theorem dX1_doubtAbove_19 : decode cX1_doubtAbove 19 = .ok (.if_icmp .eq 33, 3) := by decide +kernel
theorem dX1_doubtAbove_22 : decode cX1_doubtAbove 22 = .ok (.aload_n 0, 1) := by decide +kernel
theorem dX1_doubtAbove_23 : decode cX1_doubtAbove 23 = .ok (.getfield 45, 3) := by decide +kernel
theorem dX1_doubtAbove_26 : decode cX1_doubtAbove 26 = .ok (.iload_n 3, 1) := by decide +kernel
theorem dX1_doubtAbove_27 : decode cX1_doubtAbove 27 = .ok (.iaload, 1) := by decide +kernel
theorem dX1_doubtAbove_28 : decode cX1_doubtAbove 28 = .ok (.aload_n 0, 1) := by decide +kernel
theorem dX1_doubtAbove_29 : decode cX1_doubtAbove 29 = .ok (.getfield 45, 3) := by decide +kernel
theorem dX1_doubtAbove_32 : decode cX1_doubtAbove 32 = .ok (.iload_n 1, 1) := by decide +kernel
theorem dX1_doubtAbove_33 : decode cX1_doubtAbove 33 = .ok (.iaload, 1) := by decide +kernel
theorem dX1_doubtAbove_34 : decode cX1_doubtAbove 34 = .ok (.isub, 1) := by decide +kernel
theorem dX1_doubtAbove_35 : decode cX1_doubtAbove 35 = .ok (.aload_n 0, 1) := by decide +kernel
theorem dX1_doubtAbove_36 : decode cX1_doubtAbove 36 = .ok (.getfield 22, 3) := by decide +kernel
theorem dX1_doubtAbove_39 : decode cX1_doubtAbove 39 = .ok (.iconst 3, 1) := by decide +kernel
theorem dX1_doubtAbove_40 : decode cX1_doubtAbove 40 = .ok (.iaload, 1) := by decide +kernel
theorem dX1_doubtAbove_41 : decode cX1_doubtAbove 41 = .ok (.if_icmp .le 11, 3) := by decide +kernel
theorem dX1_doubtAbove_44 : decode cX1_doubtAbove 44 = .ok (.aload_n 0, 1) := by decide +kernel
theorem dX1_doubtAbove_45 : decode cX1_doubtAbove 45 = .ok (.getfield 12, 3) := by decide +kernel
theorem dX1_doubtAbove_48 : decode cX1_doubtAbove 48 = .ok (.iload_n 3, 1) := by decide +kernel
theorem dX1_doubtAbove_49 : decode cX1_doubtAbove 49 = .ok (.invokevirtual 94, 3) := by decide +kernel
theorem dX1_doubtAbove_52 : decode cX1_doubtAbove 52 = .ok (.iinc 2 1, 3) := by decide +kernel
theorem dX1_doubtAbove_55 : decode cX1_doubtAbove 55 = .ok (.goto (-53), 3) := by decide +kernel
theorem dX1_doubtAbove_58 : decode cX1_doubtAbove 58 = .ok (.return_, 1) := by decide +kernel
theorem dX1_raise_0 : decode cX1_raise 0 = .ok (.aload_n 0, 1) := by decide +kernel
theorem dX1_raise_1 : decode cX1_raise 1 = .ok (.getfield 36, 3) := by decide +kernel
theorem dX1_raise_4 : decode cX1_raise 4 = .ok (.iload_n 1, 1) := by decide +kernel
theorem dX1_raise_5 : decode cX1_raise 5 = .ok (.invokevirtual 86, 3) := by decide +kernel
theorem dX1_raise_8 : decode cX1_raise 8 = .ok (.ifCond .ne 4, 3) := by decide +kernel
theorem dX1_raise_11 : decode cX1_raise 11 = .ok (.return_, 1) := by decide +kernel
theorem dX1_raise_12 : decode cX1_raise 12 = .ok (.aload_n 0, 1) := by decide +kernel
theorem dX1_raise_13 : decode cX1_raise 13 = .ok (.getfield 45, 3) := by decide +kernel
theorem dX1_raise_16 : decode cX1_raise 16 = .ok (.iload_n 1, 1) := by decide +kernel
theorem dX1_raise_17 : decode cX1_raise 17 = .ok (.dup2, 1) := by decide +kernel
theorem dX1_raise_18 : decode cX1_raise 18 = .ok (.iaload, 1) := by decide +kernel
theorem dX1_raise_19 : decode cX1_raise 19 = .ok (.iconst 1, 1) := by decide +kernel
theorem dX1_raise_20 : decode cX1_raise 20 = .ok (.iadd, 1) := by decide +kernel
theorem dX1_raise_21 : decode cX1_raise 21 = .ok (.iastore, 1) := by decide +kernel
theorem dX1_raise_22 : decode cX1_raise 22 = .ok (.aload_n 0, 1) := by decide +kernel
theorem dX1_raise_23 : decode cX1_raise 23 = .ok (.getfield 12, 3) := by decide +kernel
theorem dX1_raise_26 : decode cX1_raise 26 = .ok (.iload_n 1, 1) := by decide +kernel
theorem dX1_raise_27 : decode cX1_raise 27 = .ok (.invokevirtual 94, 3) := by decide +kernel
theorem dX1_raise_30 : decode cX1_raise 30 = .ok (.aload_n 0, 1) := by decide +kernel
theorem dX1_raise_31 : decode cX1_raise 31 = .ok (.invokevirtual 97, 3) := by decide +kernel
theorem dX1_raise_34 : decode cX1_raise 34 = .ok (.return_, 1) := by decide +kernel
theorem dX1_lower_0 : decode cX1_lower 0 = .ok (.aload_n 0, 1) := by decide +kernel
theorem dX1_lower_1 : decode cX1_lower 1 = .ok (.getfield 36, 3) := by decide +kernel
theorem dX1_lower_4 : decode cX1_lower 4 = .ok (.iload_n 1, 1) := by decide +kernel
theorem dX1_lower_5 : decode cX1_lower 5 = .ok (.invokevirtual 86, 3) := by decide +kernel
theorem dX1_lower_8 : decode cX1_lower 8 = .ok (.ifCond .ne 4, 3) := by decide +kernel
theorem dX1_lower_11 : decode cX1_lower 11 = .ok (.return_, 1) := by decide +kernel
theorem dX1_lower_12 : decode cX1_lower 12 = .ok (.aload_n 0, 1) := by decide +kernel
theorem dX1_lower_13 : decode cX1_lower 13 = .ok (.getfield 45, 3) := by decide +kernel
theorem dX1_lower_16 : decode cX1_lower 16 = .ok (.iload_n 1, 1) := by decide +kernel
theorem dX1_lower_17 : decode cX1_lower 17 = .ok (.dup2, 1) := by decide +kernel
theorem dX1_lower_18 : decode cX1_lower 18 = .ok (.iaload, 1) := by decide +kernel
theorem dX1_lower_19 : decode cX1_lower 19 = .ok (.iload_n 2, 1) := by decide +kernel
theorem dX1_lower_20 : decode cX1_lower 20 = .ok (.aload_n 0, 1) := by decide +kernel
theorem dX1_lower_21 : decode cX1_lower 21 = .ok (.getfield 45, 3) := by decide +kernel
theorem dX1_lower_24 : decode cX1_lower 24 = .ok (.iload_n 1, 1) := by decide +kernel
theorem dX1_lower_25 : decode cX1_lower 25 = .ok (.iaload, 1) := by decide +kernel
theorem dX1_lower_26 : decode cX1_lower 26 = .ok (.invokestatic 110, 3) := by decide +kernel
theorem dX1_lower_29 : decode cX1_lower 29 = .ok (.isub, 1) := by decide +kernel
theorem dX1_lower_30 : decode cX1_lower 30 = .ok (.iastore, 1) := by decide +kernel
theorem dX1_lower_31 : decode cX1_lower 31 = .ok (.aload_n 0, 1) := by decide +kernel
theorem dX1_lower_32 : decode cX1_lower 32 = .ok (.iload_n 1, 1) := by decide +kernel
theorem dX1_lower_33 : decode cX1_lower 33 = .ok (.invokevirtual 90, 3) := by decide +kernel
theorem dX1_lower_36 : decode cX1_lower 36 = .ok (.aload_n 0, 1) := by decide +kernel
theorem dX1_lower_37 : decode cX1_lower 37 = .ok (.invokevirtual 97, 3) := by decide +kernel
theorem dX1_lower_40 : decode cX1_lower 40 = .ok (.return_, 1) := by decide +kernel
theorem dX1_settle_0 : decode cX1_settle 0 = .ok (.iconst 0, 1) := by decide +kernel
theorem dX1_settle_1 : decode cX1_settle 1 = .ok (.istore_n 1, 1) := by decide +kernel
theorem dX1_settle_2 : decode cX1_settle 2 = .ok (.iload_n 1, 1) := by decide +kernel
theorem dX1_settle_3 : decode cX1_settle 3 = .ok (.ldc 122, 2) := by decide +kernel
theorem dX1_settle_5 : decode cX1_settle 5 = .ok (.if_icmp .ge 112, 3) := by decide +kernel
theorem dX1_settle_8 : decode cX1_settle 8 = .ok (.aload_n 0, 1) := by decide +kernel
theorem dX1_settle_9 : decode cX1_settle 9 = .ok (.getfield 12, 3) := by decide +kernel
theorem dX1_settle_12 : decode cX1_settle 12 = .ok (.invokevirtual 123, 3) := by decide +kernel
theorem dX1_settle_15 : decode cX1_settle 15 = .ok (.istore_n 2, 1) := by decide +kernel
theorem dX1_settle_16 : decode cX1_settle 16 = .ok (.aload_n 0, 1) := by decide +kernel
theorem dX1_settle_17 : decode cX1_settle 17 = .ok (.getfield 36, 3) := by decide +kernel
theorem dX1_settle_20 : decode cX1_settle 20 = .ok (.iload_n 2, 1) := by decide +kernel
theorem dX1_settle_21 : decode cX1_settle 21 = .ok (.invokevirtual 86, 3) := by decide +kernel
theorem dX1_settle_24 : decode cX1_settle 24 = .ok (.ifCond .ne 4, 3) := by decide +kernel
theorem dX1_settle_27 : decode cX1_settle 27 = .ok (.return_, 1) := by decide +kernel
theorem dX1_settle_28 : decode cX1_settle 28 = .ok (.aload_n 0, 1) := by decide +kernel
theorem dX1_settle_29 : decode cX1_settle 29 = .ok (.iload_n 2, 1) := by decide +kernel
theorem dX1_settle_30 : decode cX1_settle 30 = .ok (.invokevirtual 127, 3) := by decide +kernel
theorem dX1_settle_33 : decode cX1_settle 33 = .ok (.istore_n 3, 1) := by decide +kernel
theorem dX1_settle_34 : decode cX1_settle 34 = .ok (.aload_n 0, 1) := by decide +kernel
theorem dX1_settle_35 : decode cX1_settle 35 = .ok (.getfield 36, 3) := by decide +kernel
theorem dX1_settle_38 : decode cX1_settle 38 = .ok (.iload_n 3, 1) := by decide +kernel
theorem dX1_settle_39 : decode cX1_settle 39 = .ok (.invokevirtual 86, 3) := by decide +kernel
theorem dX1_settle_42 : decode cX1_settle 42 = .ok (.ifCond .eq 61, 3) := by decide +kernel
theorem dX1_settle_45 : decode cX1_settle 45 = .ok (.aload_n 0, 1) := by decide +kernel
theorem dX1_settle_46 : decode cX1_settle 46 = .ok (.getfield 45, 3) := by decide +kernel
theorem dX1_settle_49 : decode cX1_settle 49 = .ok (.iload_n 2, 1) := by decide +kernel
theorem dX1_settle_50 : decode cX1_settle 50 = .ok (.iaload, 1) := by decide +kernel
theorem dX1_settle_51 : decode cX1_settle 51 = .ok (.aload_n 0, 1) := by decide +kernel
theorem dX1_settle_52 : decode cX1_settle 52 = .ok (.getfield 45, 3) := by decide +kernel
theorem dX1_settle_55 : decode cX1_settle 55 = .ok (.iload_n 3, 1) := by decide +kernel
theorem dX1_settle_56 : decode cX1_settle 56 = .ok (.iaload, 1) := by decide +kernel
theorem dX1_settle_57 : decode cX1_settle 57 = .ok (.isub, 1) := by decide +kernel
theorem dX1_settle_58 : decode cX1_settle 58 = .ok (.aload_n 0, 1) := by decide +kernel
theorem dX1_settle_59 : decode cX1_settle 59 = .ok (.getfield 22, 3) := by decide +kernel
theorem dX1_settle_62 : decode cX1_settle 62 = .ok (.iconst 3, 1) := by decide +kernel
theorem dX1_settle_63 : decode cX1_settle 63 = .ok (.iaload, 1) := by decide +kernel
theorem dX1_settle_64 : decode cX1_settle 64 = .ok (.if_icmp .le 39, 3) := by decide +kernel
theorem dX1_settle_67 : decode cX1_settle 67 = .ok (.aload_n 0, 1) := by decide +kernel
theorem dX1_settle_68 : decode cX1_settle 68 = .ok (.getfield 45, 3) := by decide +kernel
theorem dX1_settle_71 : decode cX1_settle 71 = .ok (.iload_n 2, 1) := by decide +kernel
theorem dX1_settle_72 : decode cX1_settle 72 = .ok (.dup2, 1) := by decide +kernel
theorem dX1_settle_73 : decode cX1_settle 73 = .ok (.iaload, 1) := by decide +kernel
theorem dX1_settle_74 : decode cX1_settle 74 = .ok (.iconst 1, 1) := by decide +kernel
theorem dX1_settle_75 : decode cX1_settle 75 = .ok (.isub, 1) := by decide +kernel
theorem dX1_settle_76 : decode cX1_settle 76 = .ok (.iastore, 1) := by decide +kernel
theorem dX1_settle_77 : decode cX1_settle 77 = .ok (.aload_n 0, 1) := by decide +kernel
theorem dX1_settle_78 : decode cX1_settle 78 = .ok (.getfield 45, 3) := by decide +kernel
theorem dX1_settle_81 : decode cX1_settle 81 = .ok (.iload_n 3, 1) := by decide +kernel
theorem dX1_settle_82 : decode cX1_settle 82 = .ok (.dup2, 1) := by decide +kernel
theorem dX1_settle_83 : decode cX1_settle 83 = .ok (.iaload, 1) := by decide +kernel
theorem dX1_settle_84 : decode cX1_settle 84 = .ok (.iconst 1, 1) := by decide +kernel
theorem dX1_settle_85 : decode cX1_settle 85 = .ok (.iadd, 1) := by decide +kernel
theorem dX1_settle_86 : decode cX1_settle 86 = .ok (.iastore, 1) := by decide +kernel
theorem dX1_settle_87 : decode cX1_settle 87 = .ok (.aload_n 0, 1) := by decide +kernel
theorem dX1_settle_88 : decode cX1_settle 88 = .ok (.iload_n 2, 1) := by decide +kernel
theorem dX1_settle_89 : decode cX1_settle 89 = .ok (.invokevirtual 90, 3) := by decide +kernel
theorem dX1_settle_92 : decode cX1_settle 92 = .ok (.aload_n 0, 1) := by decide +kernel
theorem dX1_settle_93 : decode cX1_settle 93 = .ok (.getfield 12, 3) := by decide +kernel
theorem dX1_settle_96 : decode cX1_settle 96 = .ok (.iload_n 3, 1) := by decide +kernel
theorem dX1_settle_97 : decode cX1_settle 97 = .ok (.invokevirtual 94, 3) := by decide +kernel
theorem dX1_settle_100 : decode cX1_settle 100 = .ok (.goto 11, 3) := by decide +kernel
theorem dX1_settle_103 : decode cX1_settle 103 = .ok (.aload_n 0, 1) := by decide +kernel
theorem dX1_settle_104 : decode cX1_settle 104 = .ok (.getfield 12, 3) := by decide +kernel
theorem dX1_settle_107 : decode cX1_settle 107 = .ok (.iload_n 2, 1) := by decide +kernel
theorem dX1_settle_108 : decode cX1_settle 108 = .ok (.invokevirtual 131, 3) := by decide +kernel
theorem dX1_settle_111 : decode cX1_settle 111 = .ok (.iinc 1 1, 3) := by decide +kernel
theorem dX1_settle_114 : decode cX1_settle 114 = .ok (.goto (-112), 3) := by decide +kernel
theorem dX1_settle_117 : decode cX1_settle 117 = .ok (.return_, 1) := by decide +kernel
theorem dX1_lowestBeside_0 : decode cX1_lowestBeside 0 = .ok (.iconst (-1), 1) := by decide +kernel
theorem dX1_lowestBeside_1 : decode cX1_lowestBeside 1 = .ok (.istore_n 2, 1) := by decide +kernel
theorem dX1_lowestBeside_2 : decode cX1_lowestBeside 2 = .ok (.iconst 0, 1) := by decide +kernel
theorem dX1_lowestBeside_3 : decode cX1_lowestBeside 3 = .ok (.istore_n 3, 1) := by decide +kernel
theorem dX1_lowestBeside_4 : decode cX1_lowestBeside 4 = .ok (.iload_n 3, 1) := by decide +kernel
theorem dX1_lowestBeside_5 : decode cX1_lowestBeside 5 = .ok (.iconst 4, 1) := by decide +kernel
theorem dX1_lowestBeside_6 : decode cX1_lowestBeside 6 = .ok (.if_icmp .ge 50, 3) := by decide +kernel
theorem dX1_lowestBeside_9 : decode cX1_lowestBeside 9 = .ok (.aload_n 0, 1) := by decide +kernel
theorem dX1_lowestBeside_10 : decode cX1_lowestBeside 10 = .ok (.getfield 36, 3) := by decide +kernel
theorem dX1_lowestBeside_13 : decode cX1_lowestBeside 13 = .ok (.iload_n 1, 1) := by decide +kernel
theorem dX1_lowestBeside_14 : decode cX1_lowestBeside 14 = .ok (.iload_n 3, 1) := by decide +kernel
theorem dX1_lowestBeside_15 : decode cX1_lowestBeside 15 = .ok (.invokevirtual 119, 3) := by decide +kernel
theorem dX1_lowestBeside_18 : decode cX1_lowestBeside 18 = .ok (.istore 4, 2) := by decide +kernel
theorem dX1_lowestBeside_20 : decode cX1_lowestBeside 20 = .ok (.iload 4, 2) := by decide +kernel
theorem dX1_lowestBeside_22 : decode cX1_lowestBeside 22 = .ok (.iconst (-1), 1) := by decide +kernel
theorem dX1_lowestBeside_23 : decode cX1_lowestBeside 23 = .ok (.if_icmp .eq 27, 3) := by decide +kernel
theorem dX1_lowestBeside_26 : decode cX1_lowestBeside 26 = .ok (.iload_n 2, 1) := by decide +kernel
theorem dX1_lowestBeside_27 : decode cX1_lowestBeside 27 = .ok (.iconst (-1), 1) := by decide +kernel
theorem dX1_lowestBeside_28 : decode cX1_lowestBeside 28 = .ok (.if_icmp .eq 19, 3) := by decide +kernel
theorem dX1_lowestBeside_31 : decode cX1_lowestBeside 31 = .ok (.aload_n 0, 1) := by decide +kernel
theorem dX1_lowestBeside_32 : decode cX1_lowestBeside 32 = .ok (.getfield 45, 3) := by decide +kernel
theorem dX1_lowestBeside_35 : decode cX1_lowestBeside 35 = .ok (.iload 4, 2) := by decide +kernel
theorem dX1_lowestBeside_37 : decode cX1_lowestBeside 37 = .ok (.iaload, 1) := by decide +kernel
theorem dX1_lowestBeside_38 : decode cX1_lowestBeside 38 = .ok (.aload_n 0, 1) := by decide +kernel
theorem dX1_lowestBeside_39 : decode cX1_lowestBeside 39 = .ok (.getfield 45, 3) := by decide +kernel
theorem dX1_lowestBeside_42 : decode cX1_lowestBeside 42 = .ok (.iload_n 2, 1) := by decide +kernel
theorem dX1_lowestBeside_43 : decode cX1_lowestBeside 43 = .ok (.iaload, 1) := by decide +kernel
theorem dX1_lowestBeside_44 : decode cX1_lowestBeside 44 = .ok (.if_icmp .ge 6, 3) := by decide +kernel
theorem dX1_lowestBeside_47 : decode cX1_lowestBeside 47 = .ok (.iload 4, 2) := by decide +kernel
theorem dX1_lowestBeside_49 : decode cX1_lowestBeside 49 = .ok (.istore_n 2, 1) := by decide +kernel
theorem dX1_lowestBeside_50 : decode cX1_lowestBeside 50 = .ok (.iinc 3 1, 3) := by decide +kernel
theorem dX1_lowestBeside_53 : decode cX1_lowestBeside 53 = .ok (.goto (-49), 3) := by decide +kernel
theorem dX1_lowestBeside_56 : decode cX1_lowestBeside 56 = .ok (.iload_n 2, 1) := by decide +kernel
theorem dX1_lowestBeside_57 : decode cX1_lowestBeside 57 = .ok (.ireturn, 1) := by decide +kernel
theorem dX1_isInShadow_0 : decode cX1_isInShadow 0 = .ok (.iload_n 2, 1) := by decide +kernel
theorem dX1_isInShadow_1 : decode cX1_isInShadow 1 = .ok (.iconst 1, 1) := by decide +kernel
theorem dX1_isInShadow_2 : decode cX1_isInShadow 2 = .ok (.ixor, 1) := by decide +kernel
theorem dX1_isInShadow_3 : decode cX1_isInShadow 3 = .ok (.istore_n 3, 1) := by decide +kernel
theorem dX1_isInShadow_4 : decode cX1_isInShadow 4 = .ok (.iload_n 1, 1) := by decide +kernel
theorem dX1_isInShadow_5 : decode cX1_isInShadow 5 = .ok (.istore 4, 2) := by decide +kernel
theorem dX1_isInShadow_7 : decode cX1_isInShadow 7 = .ok (.iconst 1, 1) := by decide +kernel
theorem dX1_isInShadow_8 : decode cX1_isInShadow 8 = .ok (.istore 5, 2) := by decide +kernel
theorem dX1_isInShadow_10 : decode cX1_isInShadow 10 = .ok (.iload 5, 2) := by decide +kernel
theorem dX1_isInShadow_12 : decode cX1_isInShadow 12 = .ok (.bipush 8, 2) := by decide +kernel
theorem dX1_isInShadow_14 : decode cX1_isInShadow 14 = .ok (.if_icmp .gt 50, 3) := by decide +kernel
theorem dX1_isInShadow_17 : decode cX1_isInShadow 17 = .ok (.aload_n 0, 1) := by decide +kernel
theorem dX1_isInShadow_18 : decode cX1_isInShadow 18 = .ok (.getfield 36, 3) := by decide +kernel
theorem dX1_isInShadow_21 : decode cX1_isInShadow 21 = .ok (.iload 4, 2) := by decide +kernel
theorem dX1_isInShadow_23 : decode cX1_isInShadow 23 = .ok (.iload_n 3, 1) := by decide +kernel
theorem dX1_isInShadow_24 : decode cX1_isInShadow 24 = .ok (.invokevirtual 119, 3) := by decide +kernel
theorem dX1_isInShadow_27 : decode cX1_isInShadow 27 = .ok (.istore 4, 2) := by decide +kernel
theorem dX1_isInShadow_29 : decode cX1_isInShadow 29 = .ok (.iload 4, 2) := by decide +kernel
theorem dX1_isInShadow_31 : decode cX1_isInShadow 31 = .ok (.iconst (-1), 1) := by decide +kernel
theorem dX1_isInShadow_32 : decode cX1_isInShadow 32 = .ok (.if_icmp .ne 5, 3) := by decide +kernel
theorem dX1_isInShadow_35 : decode cX1_isInShadow 35 = .ok (.iconst 0, 1) := by decide +kernel
theorem dX1_isInShadow_36 : decode cX1_isInShadow 36 = .ok (.ireturn, 1) := by decide +kernel
theorem dX1_isInShadow_37 : decode cX1_isInShadow 37 = .ok (.aload_n 0, 1) := by decide +kernel
theorem dX1_isInShadow_38 : decode cX1_isInShadow 38 = .ok (.getfield 45, 3) := by decide +kernel
theorem dX1_isInShadow_41 : decode cX1_isInShadow 41 = .ok (.iload 4, 2) := by decide +kernel
theorem dX1_isInShadow_43 : decode cX1_isInShadow 43 = .ok (.iaload, 1) := by decide +kernel
theorem dX1_isInShadow_44 : decode cX1_isInShadow 44 = .ok (.aload_n 0, 1) := by decide +kernel
theorem dX1_isInShadow_45 : decode cX1_isInShadow 45 = .ok (.getfield 45, 3) := by decide +kernel
theorem dX1_isInShadow_48 : decode cX1_isInShadow 48 = .ok (.iload_n 1, 1) := by decide +kernel
theorem dX1_isInShadow_49 : decode cX1_isInShadow 49 = .ok (.iaload, 1) := by decide +kernel
theorem dX1_isInShadow_50 : decode cX1_isInShadow 50 = .ok (.isub, 1) := by decide +kernel
theorem dX1_isInShadow_51 : decode cX1_isInShadow 51 = .ok (.iload 5, 2) := by decide +kernel
theorem dX1_isInShadow_53 : decode cX1_isInShadow 53 = .ok (.if_icmp .lt 5, 3) := by decide +kernel
theorem dX1_isInShadow_56 : decode cX1_isInShadow 56 = .ok (.iconst 1, 1) := by decide +kernel
theorem dX1_isInShadow_57 : decode cX1_isInShadow 57 = .ok (.ireturn, 1) := by decide +kernel
theorem dX1_isInShadow_58 : decode cX1_isInShadow 58 = .ok (.iinc 5 1, 3) := by decide +kernel
theorem dX1_isInShadow_61 : decode cX1_isInShadow 61 = .ok (.goto (-51), 3) := by decide +kernel
theorem dX1_isInShadow_64 : decode cX1_isInShadow 64 = .ok (.iconst 0, 1) := by decide +kernel
theorem dX1_isInShadow_65 : decode cX1_isInShadow 65 = .ok (.ireturn, 1) := by decide +kernel
theorem dX1_draw_0 : decode cX1_draw 0 = .ok (.aload_n 0, 1) := by decide +kernel
theorem dX1_draw_1 : decode cX1_draw 1 = .ok (.aload_n 0, 1) := by decide +kernel
theorem dX1_draw_2 : decode cX1_draw 2 = .ok (.getfield 32, 3) := by decide +kernel
theorem dX1_draw_5 : decode cX1_draw 5 = .ok (.ldc 134, 2) := by decide +kernel
theorem dX1_draw_7 : decode cX1_draw 7 = .ok (.imul, 1) := by decide +kernel
theorem dX1_draw_8 : decode cX1_draw 8 = .ok (.sipush 12345, 3) := by decide +kernel
theorem dX1_draw_11 : decode cX1_draw 11 = .ok (.iadd, 1) := by decide +kernel
theorem dX1_draw_12 : decode cX1_draw 12 = .ok (.putfield 32, 3) := by decide +kernel
theorem dX1_draw_15 : decode cX1_draw 15 = .ok (.iload_n 1, 1) := by decide +kernel
theorem dX1_draw_16 : decode cX1_draw 16 = .ok (.ifCond .le 15, 3) := by decide +kernel
theorem dX1_draw_19 : decode cX1_draw 19 = .ok (.aload_n 0, 1) := by decide +kernel
theorem dX1_draw_20 : decode cX1_draw 20 = .ok (.getfield 32, 3) := by decide +kernel
theorem dX1_draw_23 : decode cX1_draw 23 = .ok (.bipush 16, 2) := by decide +kernel
theorem dX1_draw_25 : decode cX1_draw 25 = .ok (.iushr, 1) := by decide +kernel
theorem dX1_draw_26 : decode cX1_draw 26 = .ok (.iload_n 1, 1) := by decide +kernel
theorem dX1_draw_27 : decode cX1_draw 27 = .ok (.irem, 1) := by decide +kernel
theorem dX1_draw_28 : decode cX1_draw 28 = .ok (.goto 4, 3) := by decide +kernel
theorem dX1_draw_31 : decode cX1_draw 31 = .ok (.iconst 0, 1) := by decide +kernel
theorem dX1_draw_32 : decode cX1_draw 32 = .ok (.ireturn, 1) := by decide +kernel
theorem dX1_canPass_0 : decode cX1_canPass 0 = .ok (.iload_n 1, 1) := by decide +kernel
theorem dX1_canPass_1 : decode cX1_canPass 1 = .ok (.iconst 1, 1) := by decide +kernel
theorem dX1_canPass_2 : decode cX1_canPass 2 = .ok (.bipush 60, 2) := by decide +kernel
theorem dX1_canPass_4 : decode cX1_canPass 4 = .ok (.invokestatic 135, 3) := by decide +kernel
theorem dX1_canPass_7 : decode cX1_canPass 7 = .ok (.ifCond .eq 19, 3) := by decide +kernel
theorem dX1_canPass_10 : decode cX1_canPass 10 = .ok (.aload_n 0, 1) := by decide +kernel
theorem dX1_canPass_11 : decode cX1_canPass 11 = .ok (.getfield 74, 3) := by decide +kernel
theorem dX1_canPass_14 : decode cX1_canPass 14 = .ok (.iload_n 1, 1) := by decide +kernel
theorem dX1_canPass_15 : decode cX1_canPass 15 = .ok (.iadd, 1) := by decide +kernel
theorem dX1_canPass_16 : decode cX1_canPass 16 = .ok (.sipush 3000, 3) := by decide +kernel
theorem dX1_canPass_19 : decode cX1_canPass 19 = .ok (.if_icmp .gt 7, 3) := by decide +kernel
theorem dX1_canPass_22 : decode cX1_canPass 22 = .ok (.iconst 1, 1) := by decide +kernel
theorem dX1_canPass_23 : decode cX1_canPass 23 = .ok (.goto 4, 3) := by decide +kernel
theorem dX1_canPass_26 : decode cX1_canPass 26 = .ok (.iconst 0, 1) := by decide +kernel
theorem dX1_canPass_27 : decode cX1_canPass 27 = .ok (.ireturn, 1) := by decide +kernel
theorem dX1_pass_0 : decode cX1_pass 0 = .ok (.iconst 0, 1) := by decide +kernel
theorem dX1_pass_1 : decode cX1_pass 1 = .ok (.istore_n 2, 1) := by decide +kernel
theorem dX1_pass_2 : decode cX1_pass 2 = .ok (.iload_n 2, 1) := by decide +kernel
theorem dX1_pass_3 : decode cX1_pass 3 = .ok (.iload_n 1, 1) := by decide +kernel
theorem dX1_pass_4 : decode cX1_pass 4 = .ok (.if_icmp .ge 70, 3) := by decide +kernel
theorem dX1_pass_7 : decode cX1_pass 7 = .ok (.aload_n 0, 1) := by decide +kernel
theorem dX1_pass_8 : decode cX1_pass 8 = .ok (.getfield 28, 3) := by decide +kernel
theorem dX1_pass_11 : decode cX1_pass 11 = .ok (.invokevirtual 139, 3) := by decide +kernel
theorem dX1_pass_14 : decode cX1_pass 14 = .ok (.istore_n 3, 1) := by decide +kernel
theorem dX1_pass_15 : decode cX1_pass 15 = .ok (.iload_n 3, 1) := by decide +kernel
theorem dX1_pass_16 : decode cX1_pass 16 = .ok (.ifCond .ne 7, 3) := by decide +kernel
theorem dX1_pass_19 : decode cX1_pass 19 = .ok (.aload_n 0, 1) := by decide +kernel
theorem dX1_pass_20 : decode cX1_pass 20 = .ok (.invokevirtual 142, 3) := by decide +kernel
theorem dX1_pass_23 : decode cX1_pass 23 = .ok (.iload_n 3, 1) := by decide +kernel
theorem dX1_pass_24 : decode cX1_pass 24 = .ok (.iconst 4, 1) := by decide +kernel
theorem dX1_pass_25 : decode cX1_pass 25 = .ok (.if_icmp .eq 8, 3) := by decide +kernel
theorem dX1_pass_28 : decode cX1_pass 28 = .ok (.aload_n 0, 1) := by decide +kernel
theorem dX1_pass_29 : decode cX1_pass 29 = .ok (.iload_n 3, 1) := by decide +kernel
theorem dX1_pass_30 : decode cX1_pass 30 = .ok (.invokevirtual 145, 3) := by decide +kernel
theorem dX1_pass_33 : decode cX1_pass 33 = .ok (.aload_n 0, 1) := by decide +kernel
theorem dX1_pass_34 : decode cX1_pass 34 = .ok (.getfield 28, 3) := by decide +kernel
theorem dX1_pass_37 : decode cX1_pass 37 = .ok (.invokevirtual 148, 3) := by decide +kernel
theorem dX1_pass_40 : decode cX1_pass 40 = .ok (.aload_n 0, 1) := by decide +kernel
theorem dX1_pass_41 : decode cX1_pass 41 = .ok (.dup, 1) := by decide +kernel
theorem dX1_pass_42 : decode cX1_pass 42 = .ok (.getfield 74, 3) := by decide +kernel
theorem dX1_pass_45 : decode cX1_pass 45 = .ok (.iconst 1, 1) := by decide +kernel
theorem dX1_pass_46 : decode cX1_pass 46 = .ok (.iadd, 1) := by decide +kernel
theorem dX1_pass_47 : decode cX1_pass 47 = .ok (.putfield 74, 3) := by decide +kernel
theorem dX1_pass_50 : decode cX1_pass 50 = .ok (.aload_n 0, 1) := by decide +kernel
theorem dX1_pass_51 : decode cX1_pass 51 = .ok (.invokevirtual 151, 3) := by decide +kernel
theorem dX1_pass_54 : decode cX1_pass 54 = .ok (.aload_n 0, 1) := by decide +kernel
theorem dX1_pass_55 : decode cX1_pass 55 = .ok (.getfield 74, 3) := by decide +kernel
theorem dX1_pass_58 : decode cX1_pass 58 = .ok (.bipush 30, 2) := by decide +kernel
theorem dX1_pass_60 : decode cX1_pass 60 = .ok (.irem, 1) := by decide +kernel
theorem dX1_pass_61 : decode cX1_pass 61 = .ok (.ifCond .ne 7, 3) := by decide +kernel
theorem dX1_pass_64 : decode cX1_pass 64 = .ok (.aload_n 0, 1) := by decide +kernel
theorem dX1_pass_65 : decode cX1_pass 65 = .ok (.invokevirtual 154, 3) := by decide +kernel
theorem dX1_pass_68 : decode cX1_pass 68 = .ok (.iinc 2 1, 3) := by decide +kernel
theorem dX1_pass_71 : decode cX1_pass 71 = .ok (.goto (-69), 3) := by decide +kernel
theorem dX1_pass_74 : decode cX1_pass 74 = .ok (.return_, 1) := by decide +kernel
theorem dX1_bringSupply_0 : decode cX1_bringSupply 0 = .ok (.iconst 0, 1) := by decide +kernel
theorem dX1_bringSupply_1 : decode cX1_bringSupply 1 = .ok (.istore_n 1, 1) := by decide +kernel
theorem dX1_bringSupply_2 : decode cX1_bringSupply 2 = .ok (.iload_n 1, 1) := by decide +kernel
theorem dX1_bringSupply_3 : decode cX1_bringSupply 3 = .ok (.aload_n 0, 1) := by decide +kernel
theorem dX1_bringSupply_4 : decode cX1_bringSupply 4 = .ok (.getfield 22, 3) := by decide +kernel
theorem dX1_bringSupply_7 : decode cX1_bringSupply 7 = .ok (.iconst 4, 1) := by decide +kernel
theorem dX1_bringSupply_8 : decode cX1_bringSupply 8 = .ok (.iaload, 1) := by decide +kernel
theorem dX1_bringSupply_9 : decode cX1_bringSupply 9 = .ok (.if_icmp .ge 42, 3) := by decide +kernel
theorem dX1_bringSupply_12 : decode cX1_bringSupply 12 = .ok (.aload_n 0, 1) := by decide +kernel
theorem dX1_bringSupply_13 : decode cX1_bringSupply 13 = .ok (.dup, 1) := by decide +kernel
theorem dX1_bringSupply_14 : decode cX1_bringSupply 14 = .ok (.getfield 83, 3) := by decide +kernel
theorem dX1_bringSupply_17 : decode cX1_bringSupply 17 = .ok (.iconst 1, 1) := by decide +kernel
theorem dX1_bringSupply_18 : decode cX1_bringSupply 18 = .ok (.iadd, 1) := by decide +kernel
theorem dX1_bringSupply_19 : decode cX1_bringSupply 19 = .ok (.putfield 83, 3) := by decide +kernel
theorem dX1_bringSupply_22 : decode cX1_bringSupply 22 = .ok (.aload_n 0, 1) := by decide +kernel
theorem dX1_bringSupply_23 : decode cX1_bringSupply 23 = .ok (.aload_n 0, 1) := by decide +kernel
theorem dX1_bringSupply_24 : decode cX1_bringSupply 24 = .ok (.aload_n 0, 1) := by decide +kernel
theorem dX1_bringSupply_25 : decode cX1_bringSupply 25 = .ok (.getfield 36, 3) := by decide +kernel
theorem dX1_bringSupply_28 : decode cX1_bringSupply 28 = .ok (.getfield 104, 3) := by decide +kernel
theorem dX1_bringSupply_31 : decode cX1_bringSupply 31 = .ok (.invokevirtual 157, 3) := by decide +kernel
theorem dX1_bringSupply_34 : decode cX1_bringSupply 34 = .ok (.aload_n 0, 1) := by decide +kernel
theorem dX1_bringSupply_35 : decode cX1_bringSupply 35 = .ok (.getfield 36, 3) := by decide +kernel
theorem dX1_bringSupply_38 : decode cX1_bringSupply 38 = .ok (.getfield 107, 3) := by decide +kernel
theorem dX1_bringSupply_41 : decode cX1_bringSupply 41 = .ok (.imul, 1) := by decide +kernel
theorem dX1_bringSupply_42 : decode cX1_bringSupply 42 = .ok (.invokevirtual 160, 3) := by decide +kernel
theorem dX1_bringSupply_45 : decode cX1_bringSupply 45 = .ok (.iinc 1 1, 3) := by decide +kernel
theorem dX1_bringSupply_48 : decode cX1_bringSupply 48 = .ok (.goto (-46), 3) := by decide +kernel
theorem dX1_bringSupply_51 : decode cX1_bringSupply 51 = .ok (.return_, 1) := by decide +kernel
theorem dX1_blow_0 : decode cX1_blow 0 = .ok (.iconst 0, 1) := by decide +kernel
theorem dX1_blow_1 : decode cX1_blow 1 = .ok (.istore_n 2, 1) := by decide +kernel
theorem dX1_blow_2 : decode cX1_blow 2 = .ok (.iload_n 2, 1) := by decide +kernel
theorem dX1_blow_3 : decode cX1_blow 3 = .ok (.aload_n 0, 1) := by decide +kernel
theorem dX1_blow_4 : decode cX1_blow 4 = .ok (.getfield 45, 3) := by decide +kernel
theorem dX1_blow_7 : decode cX1_blow 7 = .ok (.arraylength, 1) := by decide +kernel
theorem dX1_blow_8 : decode cX1_blow 8 = .ok (.if_icmp .ge 62, 3) := by decide +kernel
theorem dX1_blow_11 : decode cX1_blow 11 = .ok (.aload_n 0, 1) := by decide +kernel
theorem dX1_blow_12 : decode cX1_blow 12 = .ok (.aload_n 0, 1) := by decide +kernel
theorem dX1_blow_13 : decode cX1_blow 13 = .ok (.getfield 45, 3) := by decide +kernel
theorem dX1_blow_16 : decode cX1_blow 16 = .ok (.arraylength, 1) := by decide +kernel
theorem dX1_blow_17 : decode cX1_blow 17 = .ok (.invokevirtual 157, 3) := by decide +kernel
theorem dX1_blow_20 : decode cX1_blow 20 = .ok (.istore_n 3, 1) := by decide +kernel
theorem dX1_blow_21 : decode cX1_blow 21 = .ok (.aload_n 0, 1) := by decide +kernel
theorem dX1_blow_22 : decode cX1_blow 22 = .ok (.iload_n 3, 1) := by decide +kernel
theorem dX1_blow_23 : decode cX1_blow 23 = .ok (.iload_n 1, 1) := by decide +kernel
theorem dX1_blow_24 : decode cX1_blow 24 = .ok (.invokevirtual 163, 3) := by decide +kernel
theorem dX1_blow_27 : decode cX1_blow 27 = .ok (.ifCond .eq 37, 3) := by decide +kernel
theorem dX1_blow_30 : decode cX1_blow 30 = .ok (.aload_n 0, 1) := by decide +kernel
theorem dX1_blow_31 : decode cX1_blow 31 = .ok (.iload_n 3, 1) := by decide +kernel
theorem dX1_blow_32 : decode cX1_blow 32 = .ok (.iconst 1, 1) := by decide +kernel
theorem dX1_blow_33 : decode cX1_blow 33 = .ok (.invokevirtual 166, 3) := by decide +kernel
theorem dX1_blow_36 : decode cX1_blow 36 = .ok (.aload_n 0, 1) := by decide +kernel
theorem dX1_blow_37 : decode cX1_blow 37 = .ok (.iload_n 3, 1) := by decide +kernel
theorem dX1_blow_38 : decode cX1_blow 38 = .ok (.iload_n 1, 1) := by decide +kernel
theorem dX1_blow_39 : decode cX1_blow 39 = .ok (.invokevirtual 170, 3) := by decide +kernel
theorem dX1_blow_42 : decode cX1_blow 42 = .ok (.istore 4, 2) := by decide +kernel
theorem dX1_blow_44 : decode cX1_blow 44 = .ok (.iload 4, 2) := by decide +kernel
theorem dX1_blow_46 : decode cX1_blow 46 = .ok (.iconst (-1), 1) := by decide +kernel
theorem dX1_blow_47 : decode cX1_blow 47 = .ok (.if_icmp .ne 11, 3) := by decide +kernel
theorem dX1_blow_50 : decode cX1_blow 50 = .ok (.aload_n 0, 1) := by decide +kernel
theorem dX1_blow_51 : decode cX1_blow 51 = .ok (.iload_n 1, 1) := by decide +kernel
theorem dX1_blow_52 : decode cX1_blow 52 = .ok (.invokevirtual 173, 3) := by decide +kernel
theorem dX1_blow_55 : decode cX1_blow 55 = .ok (.goto 9, 3) := by decide +kernel
theorem dX1_blow_58 : decode cX1_blow 58 = .ok (.aload_n 0, 1) := by decide +kernel
theorem dX1_blow_59 : decode cX1_blow 59 = .ok (.iload 4, 2) := by decide +kernel
theorem dX1_blow_61 : decode cX1_blow 61 = .ok (.invokevirtual 160, 3) := by decide +kernel
theorem dX1_blow_64 : decode cX1_blow 64 = .ok (.iinc 2 1, 3) := by decide +kernel
theorem dX1_blow_67 : decode cX1_blow 67 = .ok (.goto (-65), 3) := by decide +kernel
theorem dX1_blow_70 : decode cX1_blow 70 = .ok (.return_, 1) := by decide +kernel
theorem dX1_isLifted_0 : decode cX1_isLifted 0 = .ok (.aload_n 0, 1) := by decide +kernel
theorem dX1_isLifted_1 : decode cX1_isLifted 1 = .ok (.getfield 36, 3) := by decide +kernel
theorem dX1_isLifted_4 : decode cX1_isLifted 4 = .ok (.iload_n 1, 1) := by decide +kernel
theorem dX1_isLifted_5 : decode cX1_isLifted 5 = .ok (.invokevirtual 86, 3) := by decide +kernel
theorem dX1_isLifted_8 : decode cX1_isLifted 8 = .ok (.ifCond .eq 30, 3) := by decide +kernel
theorem dX1_isLifted_11 : decode cX1_isLifted 11 = .ok (.aload_n 0, 1) := by decide +kernel
theorem dX1_isLifted_12 : decode cX1_isLifted 12 = .ok (.getfield 45, 3) := by decide +kernel
theorem dX1_isLifted_15 : decode cX1_isLifted 15 = .ok (.iload_n 1, 1) := by decide +kernel
theorem dX1_isLifted_16 : decode cX1_isLifted 16 = .ok (.iaload, 1) := by decide +kernel
theorem dX1_isLifted_17 : decode cX1_isLifted 17 = .ok (.ifCond .eq 21, 3) := by decide +kernel
theorem dX1_isLifted_20 : decode cX1_isLifted 20 = .ok (.aload_n 0, 1) := by decide +kernel
theorem dX1_isLifted_21 : decode cX1_isLifted 21 = .ok (.getfield 60, 3) := by decide +kernel
theorem dX1_isLifted_24 : decode cX1_isLifted 24 = .ok (.iload_n 1, 1) := by decide +kernel
theorem dX1_isLifted_25 : decode cX1_isLifted 25 = .ok (.iaload, 1) := by decide +kernel
theorem dX1_isLifted_26 : decode cX1_isLifted 26 = .ok (.ifCond .gt 12, 3) := by decide +kernel
theorem dX1_isLifted_29 : decode cX1_isLifted 29 = .ok (.aload_n 0, 1) := by decide +kernel
theorem dX1_isLifted_30 : decode cX1_isLifted 30 = .ok (.iload_n 1, 1) := by decide +kernel
theorem dX1_isLifted_31 : decode cX1_isLifted 31 = .ok (.iload_n 2, 1) := by decide +kernel
theorem dX1_isLifted_32 : decode cX1_isLifted 32 = .ok (.invokevirtual 100, 3) := by decide +kernel
theorem dX1_isLifted_35 : decode cX1_isLifted 35 = .ok (.ifCond .eq 5, 3) := by decide +kernel
theorem dX1_isLifted_38 : decode cX1_isLifted 38 = .ok (.iconst 0, 1) := by decide +kernel
theorem dX1_isLifted_39 : decode cX1_isLifted 39 = .ok (.ireturn, 1) := by decide +kernel
theorem dX1_isLifted_40 : decode cX1_isLifted 40 = .ok (.aload_n 0, 1) := by decide +kernel
theorem dX1_isLifted_41 : decode cX1_isLifted 41 = .ok (.getfield 51, 3) := by decide +kernel
theorem dX1_isLifted_44 : decode cX1_isLifted 44 = .ok (.iload_n 1, 1) := by decide +kernel
theorem dX1_isLifted_45 : decode cX1_isLifted 45 = .ok (.iaload, 1) := by decide +kernel
theorem dX1_isLifted_46 : decode cX1_isLifted 46 = .ok (.ifCond .eq 18, 3) := by decide +kernel
theorem dX1_isLifted_49 : decode cX1_isLifted 49 = .ok (.aload_n 0, 1) := by decide +kernel
theorem dX1_isLifted_50 : decode cX1_isLifted 50 = .ok (.bipush 100, 2) := by decide +kernel
theorem dX1_isLifted_52 : decode cX1_isLifted 52 = .ok (.invokevirtual 157, 3) := by decide +kernel
theorem dX1_isLifted_55 : decode cX1_isLifted 55 = .ok (.aload_n 0, 1) := by decide +kernel
theorem dX1_isLifted_56 : decode cX1_isLifted 56 = .ok (.getfield 51, 3) := by decide +kernel
theorem dX1_isLifted_59 : decode cX1_isLifted 59 = .ok (.iload_n 1, 1) := by decide +kernel
theorem dX1_isLifted_60 : decode cX1_isLifted 60 = .ok (.iaload, 1) := by decide +kernel
theorem dX1_isLifted_61 : decode cX1_isLifted 61 = .ok (.if_icmp .lt 7, 3) := by decide +kernel
theorem dX1_isLifted_64 : decode cX1_isLifted 64 = .ok (.iconst 1, 1) := by decide +kernel
theorem dX1_isLifted_65 : decode cX1_isLifted 65 = .ok (.goto 4, 3) := by decide +kernel
theorem dX1_isLifted_68 : decode cX1_isLifted 68 = .ok (.iconst 0, 1) := by decide +kernel
theorem dX1_isLifted_69 : decode cX1_isLifted 69 = .ok (.ireturn, 1) := by decide +kernel
theorem dX1_landing_0 : decode cX1_landing 0 = .ok (.iload_n 1, 1) := by decide +kernel
theorem dX1_landing_1 : decode cX1_landing 1 = .ok (.istore_n 3, 1) := by decide +kernel
theorem dX1_landing_2 : decode cX1_landing 2 = .ok (.iconst 1, 1) := by decide +kernel
theorem dX1_landing_3 : decode cX1_landing 3 = .ok (.istore 4, 2) := by decide +kernel
theorem dX1_landing_5 : decode cX1_landing 5 = .ok (.iload 4, 2) := by decide +kernel
theorem dX1_landing_7 : decode cX1_landing 7 = .ok (.bipush 10, 2) := by decide +kernel
theorem dX1_landing_9 : decode cX1_landing 9 = .ok (.if_icmp .gt 39, 3) := by decide +kernel
theorem dX1_landing_12 : decode cX1_landing 12 = .ok (.aload_n 0, 1) := by decide +kernel
theorem dX1_landing_13 : decode cX1_landing 13 = .ok (.iload_n 3, 1) := by decide +kernel
theorem dX1_landing_14 : decode cX1_landing 14 = .ok (.iload_n 2, 1) := by decide +kernel
theorem dX1_landing_15 : decode cX1_landing 15 = .ok (.invokevirtual 176, 3) := by decide +kernel
theorem dX1_landing_18 : decode cX1_landing 18 = .ok (.istore_n 3, 1) := by decide +kernel
theorem dX1_landing_19 : decode cX1_landing 19 = .ok (.iload_n 3, 1) := by decide +kernel
theorem dX1_landing_20 : decode cX1_landing 20 = .ok (.iconst (-1), 1) := by decide +kernel
theorem dX1_landing_21 : decode cX1_landing 21 = .ok (.if_icmp .eq 19, 3) := by decide +kernel
theorem dX1_landing_24 : decode cX1_landing 24 = .ok (.iload 4, 2) := by decide +kernel
theorem dX1_landing_26 : decode cX1_landing 26 = .ok (.bipush 10, 2) := by decide +kernel
theorem dX1_landing_28 : decode cX1_landing 28 = .ok (.if_icmp .eq 12, 3) := by decide +kernel
theorem dX1_landing_31 : decode cX1_landing 31 = .ok (.aload_n 0, 1) := by decide +kernel
theorem dX1_landing_32 : decode cX1_landing 32 = .ok (.iload_n 3, 1) := by decide +kernel
theorem dX1_landing_33 : decode cX1_landing 33 = .ok (.iload_n 2, 1) := by decide +kernel
theorem dX1_landing_34 : decode cX1_landing 34 = .ok (.invokevirtual 179, 3) := by decide +kernel
theorem dX1_landing_37 : decode cX1_landing 37 = .ok (.ifCond .eq 5, 3) := by decide +kernel
theorem dX1_landing_40 : decode cX1_landing 40 = .ok (.iload_n 3, 1) := by decide +kernel
theorem dX1_landing_41 : decode cX1_landing 41 = .ok (.ireturn, 1) := by decide +kernel
theorem dX1_landing_42 : decode cX1_landing 42 = .ok (.iinc 4 1, 3) := by decide +kernel
theorem dX1_landing_45 : decode cX1_landing 45 = .ok (.goto (-40), 3) := by decide +kernel
theorem dX1_landing_48 : decode cX1_landing 48 = .ok (.iload_n 3, 1) := by decide +kernel
theorem dX1_landing_49 : decode cX1_landing 49 = .ok (.ireturn, 1) := by decide +kernel
theorem dX1_afterHop_0 : decode cX1_afterHop 0 = .ok (.iload_n 1, 1) := by decide +kernel
theorem dX1_afterHop_1 : decode cX1_afterHop 1 = .ok (.istore_n 3, 1) := by decide +kernel
theorem dX1_afterHop_2 : decode cX1_afterHop 2 = .ok (.iconst 0, 1) := by decide +kernel
theorem dX1_afterHop_3 : decode cX1_afterHop 3 = .ok (.istore 4, 2) := by decide +kernel
theorem dX1_afterHop_5 : decode cX1_afterHop 5 = .ok (.iload 4, 2) := by decide +kernel
theorem dX1_afterHop_7 : decode cX1_afterHop 7 = .ok (.aload_n 0, 1) := by decide +kernel
theorem dX1_afterHop_8 : decode cX1_afterHop 8 = .ok (.getfield 22, 3) := by decide +kernel
theorem dX1_afterHop_11 : decode cX1_afterHop 11 = .ok (.iconst 0, 1) := by decide +kernel
theorem dX1_afterHop_12 : decode cX1_afterHop 12 = .ok (.iaload, 1) := by decide +kernel
theorem dX1_afterHop_13 : decode cX1_afterHop 13 = .ok (.if_icmp .ge 19, 3) := by decide +kernel
theorem dX1_afterHop_16 : decode cX1_afterHop 16 = .ok (.aload_n 0, 1) := by decide +kernel
theorem dX1_afterHop_17 : decode cX1_afterHop 17 = .ok (.getfield 36, 3) := by decide +kernel
theorem dX1_afterHop_20 : decode cX1_afterHop 20 = .ok (.iload_n 3, 1) := by decide +kernel
theorem dX1_afterHop_21 : decode cX1_afterHop 21 = .ok (.iload_n 2, 1) := by decide +kernel
theorem dX1_afterHop_22 : decode cX1_afterHop 22 = .ok (.invokevirtual 119, 3) := by decide +kernel
theorem dX1_afterHop_25 : decode cX1_afterHop 25 = .ok (.istore_n 3, 1) := by decide +kernel
theorem dX1_afterHop_26 : decode cX1_afterHop 26 = .ok (.iinc 4 1, 3) := by decide +kernel
theorem dX1_afterHop_29 : decode cX1_afterHop 29 = .ok (.goto (-24), 3) := by decide +kernel
theorem dX1_afterHop_32 : decode cX1_afterHop 32 = .ok (.iload_n 3, 1) := by decide +kernel
theorem dX1_afterHop_33 : decode cX1_afterHop 33 = .ok (.ireturn, 1) := by decide +kernel
theorem dX1_isLaid_0 : decode cX1_isLaid 0 = .ok (.aload_n 0, 1) := by decide +kernel
theorem dX1_isLaid_1 : decode cX1_isLaid 1 = .ok (.iload_n 1, 1) := by decide +kernel
theorem dX1_isLaid_2 : decode cX1_isLaid 2 = .ok (.iload_n 2, 1) := by decide +kernel
theorem dX1_isLaid_3 : decode cX1_isLaid 3 = .ok (.invokevirtual 100, 3) := by decide +kernel
theorem dX1_isLaid_6 : decode cX1_isLaid 6 = .ok (.ifCond .ne 18, 3) := by decide +kernel
theorem dX1_isLaid_9 : decode cX1_isLaid 9 = .ok (.aload_n 0, 1) := by decide +kernel
theorem dX1_isLaid_10 : decode cX1_isLaid 10 = .ok (.getfield 45, 3) := by decide +kernel
theorem dX1_isLaid_13 : decode cX1_isLaid 13 = .ok (.iload_n 1, 1) := by decide +kernel
theorem dX1_isLaid_14 : decode cX1_isLaid 14 = .ok (.iaload, 1) := by decide +kernel
theorem dX1_isLaid_15 : decode cX1_isLaid 15 = .ok (.aload_n 0, 1) := by decide +kernel
theorem dX1_isLaid_16 : decode cX1_isLaid 16 = .ok (.getfield 54, 3) := by decide +kernel
theorem dX1_isLaid_19 : decode cX1_isLaid 19 = .ok (.iload_n 1, 1) := by decide +kernel
theorem dX1_isLaid_20 : decode cX1_isLaid 20 = .ok (.iaload, 1) := by decide +kernel
theorem dX1_isLaid_21 : decode cX1_isLaid 21 = .ok (.if_icmp .ge 5, 3) := by decide +kernel
theorem dX1_isLaid_24 : decode cX1_isLaid 24 = .ok (.iconst 1, 1) := by decide +kernel
theorem dX1_isLaid_25 : decode cX1_isLaid 25 = .ok (.ireturn, 1) := by decide +kernel
theorem dX1_isLaid_26 : decode cX1_isLaid 26 = .ok (.aload_n 0, 1) := by decide +kernel
theorem dX1_isLaid_27 : decode cX1_isLaid 27 = .ok (.bipush 100, 2) := by decide +kernel
theorem dX1_isLaid_29 : decode cX1_isLaid 29 = .ok (.invokevirtual 157, 3) := by decide +kernel
theorem dX1_isLaid_32 : decode cX1_isLaid 32 = .ok (.aload_n 0, 1) := by decide +kernel
theorem dX1_isLaid_33 : decode cX1_isLaid 33 = .ok (.getfield 45, 3) := by decide +kernel
theorem dX1_isLaid_36 : decode cX1_isLaid 36 = .ok (.iload_n 1, 1) := by decide +kernel
theorem dX1_isLaid_37 : decode cX1_isLaid 37 = .ok (.iaload, 1) := by decide +kernel
theorem dX1_isLaid_38 : decode cX1_isLaid 38 = .ok (.ifCond .ne 12, 3) := by decide +kernel
theorem dX1_isLaid_41 : decode cX1_isLaid 41 = .ok (.aload_n 0, 1) := by decide +kernel
theorem dX1_isLaid_42 : decode cX1_isLaid 42 = .ok (.getfield 22, 3) := by decide +kernel
theorem dX1_isLaid_45 : decode cX1_isLaid 45 = .ok (.iconst 2, 1) := by decide +kernel
theorem dX1_isLaid_46 : decode cX1_isLaid 46 = .ok (.iaload, 1) := by decide +kernel
theorem dX1_isLaid_47 : decode cX1_isLaid 47 = .ok (.goto 9, 3) := by decide +kernel
theorem dX1_isLaid_50 : decode cX1_isLaid 50 = .ok (.aload_n 0, 1) := by decide +kernel
theorem dX1_isLaid_51 : decode cX1_isLaid 51 = .ok (.getfield 22, 3) := by decide +kernel
theorem dX1_isLaid_54 : decode cX1_isLaid 54 = .ok (.iconst 1, 1) := by decide +kernel
theorem dX1_isLaid_55 : decode cX1_isLaid 55 = .ok (.iaload, 1) := by decide +kernel
theorem dX1_isLaid_56 : decode cX1_isLaid 56 = .ok (.if_icmp .ge 7, 3) := by decide +kernel
theorem dX1_isLaid_59 : decode cX1_isLaid 59 = .ok (.iconst 1, 1) := by decide +kernel
theorem dX1_isLaid_60 : decode cX1_isLaid 60 = .ok (.goto 4, 3) := by decide +kernel
theorem dX1_isLaid_63 : decode cX1_isLaid 63 = .ok (.iconst 0, 1) := by decide +kernel
theorem dX1_isLaid_64 : decode cX1_isLaid 64 = .ok (.ireturn, 1) := by decide +kernel
theorem dX1_lose_0 : decode cX1_lose 0 = .ok (.iload_n 1, 1) := by decide +kernel
theorem dX1_lose_1 : decode cX1_lose 1 = .ok (.ifCond .ne 16, 3) := by decide +kernel
theorem dX1_lose_4 : decode cX1_lose 4 = .ok (.aload_n 0, 1) := by decide +kernel
theorem dX1_lose_5 : decode cX1_lose 5 = .ok (.dup, 1) := by decide +kernel
theorem dX1_lose_6 : decode cX1_lose 6 = .ok (.getfield 80, 3) := by decide +kernel
theorem dX1_lose_9 : decode cX1_lose 9 = .ok (.iconst 1, 1) := by decide +kernel
theorem dX1_lose_10 : decode cX1_lose 10 = .ok (.iadd, 1) := by decide +kernel
theorem dX1_lose_11 : decode cX1_lose 11 = .ok (.putfield 80, 3) := by decide +kernel
theorem dX1_lose_14 : decode cX1_lose 14 = .ok (.goto 13, 3) := by decide +kernel
theorem dX1_lose_17 : decode cX1_lose 17 = .ok (.aload_n 0, 1) := by decide +kernel
theorem dX1_lose_18 : decode cX1_lose 18 = .ok (.dup, 1) := by decide +kernel
theorem dX1_lose_19 : decode cX1_lose 19 = .ok (.getfield 77, 3) := by decide +kernel
theorem dX1_lose_22 : decode cX1_lose 22 = .ok (.iconst 1, 1) := by decide +kernel
theorem dX1_lose_23 : decode cX1_lose 23 = .ok (.iadd, 1) := by decide +kernel
theorem dX1_lose_24 : decode cX1_lose 24 = .ok (.putfield 77, 3) := by decide +kernel
theorem dX1_lose_27 : decode cX1_lose 27 = .ok (.return_, 1) := by decide +kernel
theorem dX1_reachHouses_0 : decode cX1_reachHouses 0 = .ok (.iconst 0, 1) := by decide +kernel
theorem dX1_reachHouses_1 : decode cX1_reachHouses 1 = .ok (.istore_n 1, 1) := by decide +kernel
theorem dX1_reachHouses_2 : decode cX1_reachHouses 2 = .ok (.iload_n 1, 1) := by decide +kernel
theorem dX1_reachHouses_3 : decode cX1_reachHouses 3 = .ok (.aload_n 0, 1) := by decide +kernel
theorem dX1_reachHouses_4 : decode cX1_reachHouses 4 = .ok (.getfield 45, 3) := by decide +kernel
theorem dX1_reachHouses_7 : decode cX1_reachHouses 7 = .ok (.arraylength, 1) := by decide +kernel
theorem dX1_reachHouses_8 : decode cX1_reachHouses 8 = .ok (.if_icmp .ge 53, 3) := by decide +kernel
theorem dX1_reachHouses_11 : decode cX1_reachHouses 11 = .ok (.aload_n 0, 1) := by decide +kernel
theorem dX1_reachHouses_12 : decode cX1_reachHouses 12 = .ok (.getfield 60, 3) := by decide +kernel
theorem dX1_reachHouses_15 : decode cX1_reachHouses 15 = .ok (.iload_n 1, 1) := by decide +kernel
theorem dX1_reachHouses_16 : decode cX1_reachHouses 16 = .ok (.iaload, 1) := by decide +kernel
end
section
theorem dX1_reachHouses_17 : decode cX1_reachHouses 17 = .ok (.ifCond .le 38, 3) := by decide +kernel
theorem dX1_reachHouses_20 : decode cX1_reachHouses 20 = .ok (.aload_n 0, 1) := by decide +kernel
theorem dX1_reachHouses_21 : decode cX1_reachHouses 21 = .ok (.getfield 63, 3) := by decide +kernel
theorem dX1_reachHouses_24 : decode cX1_reachHouses 24 = .ok (.iload_n 1, 1) := by decide +kernel
theorem dX1_reachHouses_25 : decode cX1_reachHouses 25 = .ok (.iaload, 1) := by decide +kernel
theorem dX1_reachHouses_26 : decode cX1_reachHouses 26 = .ok (.iconst (-1), 1) := by decide +kernel
theorem dX1_reachHouses_27 : decode cX1_reachHouses 27 = .ok (.if_icmp .ne 28, 3) := by decide +kernel
theorem dX1_reachHouses_30 : decode cX1_reachHouses 30 = .ok (.aload_n 0, 1) := by decide +kernel
theorem dX1_reachHouses_31 : decode cX1_reachHouses 31 = .ok (.getfield 45, 3) := by decide +kernel
theorem dX1_reachHouses_34 : decode cX1_reachHouses 34 = .ok (.iload_n 1, 1) := by decide +kernel
theorem dX1_reachHouses_35 : decode cX1_reachHouses 35 = .ok (.iaload, 1) := by decide +kernel
theorem dX1_reachHouses_36 : decode cX1_reachHouses 36 = .ok (.aload_n 0, 1) := by decide +kernel
theorem dX1_reachHouses_37 : decode cX1_reachHouses 37 = .ok (.getfield 60, 3) := by decide +kernel
theorem dX1_reachHouses_40 : decode cX1_reachHouses 40 = .ok (.iload_n 1, 1) := by decide +kernel
theorem dX1_reachHouses_41 : decode cX1_reachHouses 41 = .ok (.iaload, 1) := by decide +kernel
theorem dX1_reachHouses_42 : decode cX1_reachHouses 42 = .ok (.if_icmp .lt 13, 3) := by decide +kernel
theorem dX1_reachHouses_45 : decode cX1_reachHouses 45 = .ok (.aload_n 0, 1) := by decide +kernel
theorem dX1_reachHouses_46 : decode cX1_reachHouses 46 = .ok (.getfield 63, 3) := by decide +kernel
theorem dX1_reachHouses_49 : decode cX1_reachHouses 49 = .ok (.iload_n 1, 1) := by decide +kernel
theorem dX1_reachHouses_50 : decode cX1_reachHouses 50 = .ok (.aload_n 0, 1) := by decide +kernel
theorem dX1_reachHouses_51 : decode cX1_reachHouses 51 = .ok (.getfield 74, 3) := by decide +kernel
theorem dX1_reachHouses_54 : decode cX1_reachHouses 54 = .ok (.iastore, 1) := by decide +kernel
theorem dX1_reachHouses_55 : decode cX1_reachHouses 55 = .ok (.iinc 1 1, 3) := by decide +kernel
theorem dX1_reachHouses_58 : decode cX1_reachHouses 58 = .ok (.goto (-56), 3) := by decide +kernel
theorem dX1_reachHouses_61 : decode cX1_reachHouses 61 = .ok (.return_, 1) := by decide +kernel
theorem dX1_passSeason_0 : decode cX1_passSeason 0 = .ok (.iconst 0, 1) := by decide +kernel
theorem dX1_passSeason_1 : decode cX1_passSeason 1 = .ok (.istore_n 1, 1) := by decide +kernel
theorem dX1_passSeason_2 : decode cX1_passSeason 2 = .ok (.iload_n 1, 1) := by decide +kernel
theorem dX1_passSeason_3 : decode cX1_passSeason 3 = .ok (.aload_n 0, 1) := by decide +kernel
theorem dX1_passSeason_4 : decode cX1_passSeason 4 = .ok (.getfield 45, 3) := by decide +kernel
theorem dX1_passSeason_7 : decode cX1_passSeason 7 = .ok (.arraylength, 1) := by decide +kernel
theorem dX1_passSeason_8 : decode cX1_passSeason 8 = .ok (.if_icmp .ge 74, 3) := by decide +kernel
theorem dX1_passSeason_11 : decode cX1_passSeason 11 = .ok (.aload_n 0, 1) := by decide +kernel
theorem dX1_passSeason_12 : decode cX1_passSeason 12 = .ok (.getfield 51, 3) := by decide +kernel
theorem dX1_passSeason_15 : decode cX1_passSeason 15 = .ok (.iload_n 1, 1) := by decide +kernel
theorem dX1_passSeason_16 : decode cX1_passSeason 16 = .ok (.iaload, 1) := by decide +kernel
theorem dX1_passSeason_17 : decode cX1_passSeason 17 = .ok (.ifCond .le 47, 3) := by decide +kernel
theorem dX1_passSeason_20 : decode cX1_passSeason 20 = .ok (.aload_n 0, 1) := by decide +kernel
theorem dX1_passSeason_21 : decode cX1_passSeason 21 = .ok (.getfield 51, 3) := by decide +kernel
theorem dX1_passSeason_24 : decode cX1_passSeason 24 = .ok (.iload_n 1, 1) := by decide +kernel
theorem dX1_passSeason_25 : decode cX1_passSeason 25 = .ok (.iaload, 1) := by decide +kernel
theorem dX1_passSeason_26 : decode cX1_passSeason 26 = .ok (.aload_n 0, 1) := by decide +kernel
theorem dX1_passSeason_27 : decode cX1_passSeason 27 = .ok (.getfield 45, 3) := by decide +kernel
theorem dX1_passSeason_30 : decode cX1_passSeason 30 = .ok (.iload_n 1, 1) := by decide +kernel
theorem dX1_passSeason_31 : decode cX1_passSeason 31 = .ok (.iaload, 1) := by decide +kernel
theorem dX1_passSeason_32 : decode cX1_passSeason 32 = .ok (.aload_n 0, 1) := by decide +kernel
theorem dX1_passSeason_33 : decode cX1_passSeason 33 = .ok (.getfield 48, 3) := by decide +kernel
theorem dX1_passSeason_36 : decode cX1_passSeason 36 = .ok (.iload_n 1, 1) := by decide +kernel
theorem dX1_passSeason_37 : decode cX1_passSeason 37 = .ok (.iaload, 1) := by decide +kernel
theorem dX1_passSeason_38 : decode cX1_passSeason 38 = .ok (.isub, 1) := by decide +kernel
theorem dX1_passSeason_39 : decode cX1_passSeason 39 = .ok (.invokestatic 182, 3) := by decide +kernel
theorem dX1_passSeason_42 : decode cX1_passSeason 42 = .ok (.iadd, 1) := by decide +kernel
theorem dX1_passSeason_43 : decode cX1_passSeason 43 = .ok (.aload_n 0, 1) := by decide +kernel
theorem dX1_passSeason_44 : decode cX1_passSeason 44 = .ok (.getfield 57, 3) := by decide +kernel
theorem dX1_passSeason_47 : decode cX1_passSeason 47 = .ok (.iload_n 1, 1) := by decide +kernel
theorem dX1_passSeason_48 : decode cX1_passSeason 48 = .ok (.iaload, 1) := by decide +kernel
theorem dX1_passSeason_49 : decode cX1_passSeason 49 = .ok (.isub, 1) := by decide +kernel
theorem dX1_passSeason_50 : decode cX1_passSeason 50 = .ok (.istore_n 2, 1) := by decide +kernel
theorem dX1_passSeason_51 : decode cX1_passSeason 51 = .ok (.aload_n 0, 1) := by decide +kernel
theorem dX1_passSeason_52 : decode cX1_passSeason 52 = .ok (.getfield 51, 3) := by decide +kernel
theorem dX1_passSeason_55 : decode cX1_passSeason 55 = .ok (.iload_n 1, 1) := by decide +kernel
theorem dX1_passSeason_56 : decode cX1_passSeason 56 = .ok (.iload_n 2, 1) := by decide +kernel
theorem dX1_passSeason_57 : decode cX1_passSeason 57 = .ok (.iconst 0, 1) := by decide +kernel
theorem dX1_passSeason_58 : decode cX1_passSeason 58 = .ok (.bipush 100, 2) := by decide +kernel
theorem dX1_passSeason_60 : decode cX1_passSeason 60 = .ok (.invokestatic 185, 3) := by decide +kernel
theorem dX1_passSeason_63 : decode cX1_passSeason 63 = .ok (.iastore, 1) := by decide +kernel
theorem dX1_passSeason_64 : decode cX1_passSeason 64 = .ok (.aload_n 0, 1) := by decide +kernel
theorem dX1_passSeason_65 : decode cX1_passSeason 65 = .ok (.getfield 48, 3) := by decide +kernel
theorem dX1_passSeason_68 : decode cX1_passSeason 68 = .ok (.iload_n 1, 1) := by decide +kernel
theorem dX1_passSeason_69 : decode cX1_passSeason 69 = .ok (.aload_n 0, 1) := by decide +kernel
theorem dX1_passSeason_70 : decode cX1_passSeason 70 = .ok (.getfield 45, 3) := by decide +kernel
theorem dX1_passSeason_73 : decode cX1_passSeason 73 = .ok (.iload_n 1, 1) := by decide +kernel
theorem dX1_passSeason_74 : decode cX1_passSeason 74 = .ok (.iaload, 1) := by decide +kernel
theorem dX1_passSeason_75 : decode cX1_passSeason 75 = .ok (.iastore, 1) := by decide +kernel
theorem dX1_passSeason_76 : decode cX1_passSeason 76 = .ok (.iinc 1 1, 3) := by decide +kernel
theorem dX1_passSeason_79 : decode cX1_passSeason 79 = .ok (.goto (-77), 3) := by decide +kernel
theorem dX1_passSeason_82 : decode cX1_passSeason 82 = .ok (.return_, 1) := by decide +kernel
theorem dX1_growth_0 : decode cX1_growth 0 = .ok (.iload_n 0, 1) := by decide +kernel
theorem dX1_growth_1 : decode cX1_growth 1 = .ok (.bipush (-2), 2) := by decide +kernel
theorem dX1_growth_3 : decode cX1_growth 3 = .ok (.if_icmp .ge 6, 3) := by decide +kernel
theorem dX1_growth_6 : decode cX1_growth 6 = .ok (.bipush (-20), 2) := by decide +kernel
theorem dX1_growth_8 : decode cX1_growth 8 = .ok (.ireturn, 1) := by decide +kernel
theorem dX1_growth_9 : decode cX1_growth 9 = .ok (.iload_n 0, 1) := by decide +kernel
theorem dX1_growth_10 : decode cX1_growth 10 = .ok (.ifCond .ge 6, 3) := by decide +kernel
theorem dX1_growth_13 : decode cX1_growth 13 = .ok (.bipush (-5), 2) := by decide +kernel
theorem dX1_growth_15 : decode cX1_growth 15 = .ok (.ireturn, 1) := by decide +kernel
theorem dX1_growth_16 : decode cX1_growth 16 = .ok (.iload_n 0, 1) := by decide +kernel
theorem dX1_growth_17 : decode cX1_growth 17 = .ok (.ifCond .ne 5, 3) := by decide +kernel
theorem dX1_growth_20 : decode cX1_growth 20 = .ok (.iconst 1, 1) := by decide +kernel
theorem dX1_growth_21 : decode cX1_growth 21 = .ok (.ireturn, 1) := by decide +kernel
theorem dX1_growth_22 : decode cX1_growth 22 = .ok (.iload_n 0, 1) := by decide +kernel
theorem dX1_growth_23 : decode cX1_growth 23 = .ok (.iconst 3, 1) := by decide +kernel
theorem dX1_growth_24 : decode cX1_growth 24 = .ok (.if_icmp .gt 6, 3) := by decide +kernel
theorem dX1_growth_27 : decode cX1_growth 27 = .ok (.bipush 6, 2) := by decide +kernel
theorem dX1_growth_29 : decode cX1_growth 29 = .ok (.ireturn, 1) := by decide +kernel
theorem dX1_growth_30 : decode cX1_growth 30 = .ok (.iload_n 0, 1) := by decide +kernel
theorem dX1_growth_31 : decode cX1_growth 31 = .ok (.bipush 6, 2) := by decide +kernel
theorem dX1_growth_33 : decode cX1_growth 33 = .ok (.if_icmp .gt 7, 3) := by decide +kernel
theorem dX1_growth_36 : decode cX1_growth 36 = .ok (.iconst 2, 1) := by decide +kernel
theorem dX1_growth_37 : decode cX1_growth 37 = .ok (.goto 5, 3) := by decide +kernel
theorem dX1_growth_40 : decode cX1_growth 40 = .ok (.bipush (-30), 2) := by decide +kernel
theorem dX1_growth_42 : decode cX1_growth 42 = .ok (.ireturn, 1) := by decide +kernel
end
section
theorem dX7_init_0 : decode cX7_init 0 = .ok (.aload_n 0, 1) := by decide +kernel
theorem dX7_init_1 : decode cX7_init 1 = .ok (.invokespecial 1, 3) := by decide +kernel
theorem dX7_init_4 : decode cX7_init 4 = .ok (.aload_n 0, 1) := by decide +kernel
theorem dX7_init_5 : decode cX7_init 5 = .ok (.new 7, 3) := by decide +kernel
theorem dX7_init_8 : decode cX7_init 8 = .ok (.dup, 1) := by decide +kernel
theorem dX7_init_9 : decode cX7_init 9 = .ok (.iload_n 1, 1) := by decide +kernel
theorem dX7_init_10 : decode cX7_init 10 = .ok (.iconst 4, 1) := by decide +kernel
theorem dX7_init_11 : decode cX7_init 11 = .ok (.bipush 16, 2) := by decide +kernel
theorem dX7_init_13 : decode cX7_init 13 = .ok (.invokestatic 9, 3) := by decide +kernel
theorem dX7_init_16 : decode cX7_init 16 = .ok (.iload_n 2, 1) := by decide +kernel
theorem dX7_init_17 : decode cX7_init 17 = .ok (.iconst 2, 1) := by decide +kernel
theorem dX7_init_18 : decode cX7_init 18 = .ok (.bipush 10, 2) := by decide +kernel
theorem dX7_init_20 : decode cX7_init 20 = .ok (.invokestatic 9, 3) := by decide +kernel
theorem dX7_init_23 : decode cX7_init 23 = .ok (.invokespecial 15, 3) := by decide +kernel
theorem dX7_init_26 : decode cX7_init 26 = .ok (.putfield 18, 3) := by decide +kernel
theorem dX7_init_29 : decode cX7_init 29 = .ok (.aload_n 0, 1) := by decide +kernel
theorem dX7_init_30 : decode cX7_init 30 = .ok (.new 22, 3) := by decide +kernel
theorem dX7_init_33 : decode cX7_init 33 = .ok (.dup, 1) := by decide +kernel
theorem dX7_init_34 : decode cX7_init 34 = .ok (.aload_n 0, 1) := by decide +kernel
theorem dX7_init_35 : decode cX7_init 35 = .ok (.getfield 18, 3) := by decide +kernel
theorem dX7_init_38 : decode cX7_init 38 = .ok (.invokespecial 24, 3) := by decide +kernel
theorem dX7_init_41 : decode cX7_init 41 = .ok (.putfield 27, 3) := by decide +kernel
theorem dX7_init_44 : decode cX7_init 44 = .ok (.aload_n 0, 1) := by decide +kernel
theorem dX7_init_45 : decode cX7_init 45 = .ok (.new 22, 3) := by decide +kernel
theorem dX7_init_48 : decode cX7_init 48 = .ok (.dup, 1) := by decide +kernel
theorem dX7_init_49 : decode cX7_init 49 = .ok (.aload_n 0, 1) := by decide +kernel
theorem dX7_init_50 : decode cX7_init 50 = .ok (.getfield 18, 3) := by decide +kernel
theorem dX7_init_53 : decode cX7_init 53 = .ok (.invokespecial 24, 3) := by decide +kernel
theorem dX7_init_56 : decode cX7_init 56 = .ok (.putfield 31, 3) := by decide +kernel
theorem dX7_init_59 : decode cX7_init 59 = .ok (.aload_n 0, 1) := by decide +kernel
theorem dX7_init_60 : decode cX7_init 60 = .ok (.new 22, 3) := by decide +kernel
theorem dX7_init_63 : decode cX7_init 63 = .ok (.dup, 1) := by decide +kernel
theorem dX7_init_64 : decode cX7_init 64 = .ok (.aload_n 0, 1) := by decide +kernel
theorem dX7_init_65 : decode cX7_init 65 = .ok (.getfield 18, 3) := by decide +kernel
theorem dX7_init_68 : decode cX7_init 68 = .ok (.invokespecial 24, 3) := by decide +kernel
theorem dX7_init_71 : decode cX7_init 71 = .ok (.putfield 34, 3) := by decide +kernel
theorem dX7_init_74 : decode cX7_init 74 = .ok (.aload_n 0, 1) := by decide +kernel
theorem dX7_init_75 : decode cX7_init 75 = .ok (.new 37, 3) := by decide +kernel
theorem dX7_init_78 : decode cX7_init 78 = .ok (.dup, 1) := by decide +kernel
theorem dX7_init_79 : decode cX7_init 79 = .ok (.invokespecial 39, 3) := by decide +kernel
theorem dX7_init_82 : decode cX7_init 82 = .ok (.putfield 40, 3) := by decide +kernel
theorem dX7_init_85 : decode cX7_init 85 = .ok (.aload_n 0, 1) := by decide +kernel
theorem dX7_init_86 : decode cX7_init 86 = .ok (.new 44, 3) := by decide +kernel
theorem dX7_init_89 : decode cX7_init 89 = .ok (.dup, 1) := by decide +kernel
theorem dX7_init_90 : decode cX7_init 90 = .ok (.invokespecial 46, 3) := by decide +kernel
theorem dX7_init_93 : decode cX7_init 93 = .ok (.putfield 47, 3) := by decide +kernel
theorem dX7_init_96 : decode cX7_init 96 = .ok (.aload_n 0, 1) := by decide +kernel
theorem dX7_init_97 : decode cX7_init 97 = .ok (.new 51, 3) := by decide +kernel
theorem dX7_init_100 : decode cX7_init 100 = .ok (.dup, 1) := by decide +kernel
theorem dX7_init_101 : decode cX7_init 101 = .ok (.invokespecial 53, 3) := by decide +kernel
theorem dX7_init_104 : decode cX7_init 104 = .ok (.putfield 54, 3) := by decide +kernel
theorem dX7_init_107 : decode cX7_init 107 = .ok (.aload_n 0, 1) := by decide +kernel
theorem dX7_init_108 : decode cX7_init 108 = .ok (.iconst 0, 1) := by decide +kernel
theorem dX7_init_109 : decode cX7_init 109 = .ok (.putfield 58, 3) := by decide +kernel
theorem dX7_init_112 : decode cX7_init 112 = .ok (.return_, 1) := by decide +kernel
theorem dX7_heap_0 : decode cX7_heap 0 = .ok (.aload_n 0, 1) := by decide +kernel
theorem dX7_heap_1 : decode cX7_heap 1 = .ok (.getfield 18, 3) := by decide +kernel
theorem dX7_heap_4 : decode cX7_heap 4 = .ok (.iload_n 1, 1) := by decide +kernel
theorem dX7_heap_5 : decode cX7_heap 5 = .ok (.invokevirtual 62, 3) := by decide +kernel
theorem dX7_heap_8 : decode cX7_heap 8 = .ok (.ifCond .eq 14, 3) := by decide +kernel
theorem dX7_heap_11 : decode cX7_heap 11 = .ok (.iload_n 2, 1) := by decide +kernel
theorem dX7_heap_12 : decode cX7_heap 12 = .ok (.iconst 0, 1) := by decide +kernel
theorem dX7_heap_13 : decode cX7_heap 13 = .ok (.sipush 999, 3) := by decide +kernel
theorem dX7_heap_16 : decode cX7_heap 16 = .ok (.invokestatic 66, 3) := by decide +kernel
theorem dX7_heap_19 : decode cX7_heap 19 = .ok (.ifCond .ne 5, 3) := by decide +kernel
theorem dX7_heap_22 : decode cX7_heap 22 = .ok (.iconst 0, 1) := by decide +kernel
theorem dX7_heap_23 : decode cX7_heap 23 = .ok (.ireturn, 1) := by decide +kernel
theorem dX7_heap_24 : decode cX7_heap 24 = .ok (.aload_n 0, 1) := by decide +kernel
theorem dX7_heap_25 : decode cX7_heap 25 = .ok (.getfield 27, 3) := by decide +kernel
theorem dX7_heap_28 : decode cX7_heap 28 = .ok (.iload_n 1, 1) := by decide +kernel
theorem dX7_heap_29 : decode cX7_heap 29 = .ok (.iload_n 2, 1) := by decide +kernel
theorem dX7_heap_30 : decode cX7_heap 30 = .ok (.invokevirtual 70, 3) := by decide +kernel
theorem dX7_heap_33 : decode cX7_heap 33 = .ok (.iconst 1, 1) := by decide +kernel
theorem dX7_heap_34 : decode cX7_heap 34 = .ok (.ireturn, 1) := by decide +kernel
theorem dX7_lay_0 : decode cX7_lay 0 = .ok (.aload_n 0, 1) := by decide +kernel
theorem dX7_lay_1 : decode cX7_lay 1 = .ok (.getfield 18, 3) := by decide +kernel
theorem dX7_lay_4 : decode cX7_lay 4 = .ok (.iload_n 1, 1) := by decide +kernel
theorem dX7_lay_5 : decode cX7_lay 5 = .ok (.invokevirtual 62, 3) := by decide +kernel
theorem dX7_lay_8 : decode cX7_lay 8 = .ok (.ifCond .eq 30, 3) := by decide +kernel
theorem dX7_lay_11 : decode cX7_lay 11 = .ok (.iload_n 2, 1) := by decide +kernel
theorem dX7_lay_12 : decode cX7_lay 12 = .ok (.iconst 0, 1) := by decide +kernel
theorem dX7_lay_13 : decode cX7_lay 13 = .ok (.getstatic 73, 3) := by decide +kernel
theorem dX7_lay_16 : decode cX7_lay 16 = .ok (.arraylength, 1) := by decide +kernel
theorem dX7_lay_17 : decode cX7_lay 17 = .ok (.iconst 1, 1) := by decide +kernel
theorem dX7_lay_18 : decode cX7_lay 18 = .ok (.isub, 1) := by decide +kernel
theorem dX7_lay_19 : decode cX7_lay 19 = .ok (.invokestatic 66, 3) := by decide +kernel
theorem dX7_lay_22 : decode cX7_lay 22 = .ok (.ifCond .eq 16, 3) := by decide +kernel
theorem dX7_lay_25 : decode cX7_lay 25 = .ok (.iload_n 3, 1) := by decide +kernel
theorem dX7_lay_26 : decode cX7_lay 26 = .ok (.iconst 0, 1) := by decide +kernel
theorem dX7_lay_27 : decode cX7_lay 27 = .ok (.getstatic 73, 3) := by decide +kernel
theorem dX7_lay_30 : decode cX7_lay 30 = .ok (.iload_n 2, 1) := by decide +kernel
theorem dX7_lay_31 : decode cX7_lay 31 = .ok (.iaload, 1) := by decide +kernel
theorem dX7_lay_32 : decode cX7_lay 32 = .ok (.invokestatic 66, 3) := by decide +kernel
theorem dX7_lay_35 : decode cX7_lay 35 = .ok (.ifCond .ne 5, 3) := by decide +kernel
theorem dX7_lay_38 : decode cX7_lay 38 = .ok (.iconst 0, 1) := by decide +kernel
theorem dX7_lay_39 : decode cX7_lay 39 = .ok (.ireturn, 1) := by decide +kernel
theorem dX7_lay_40 : decode cX7_lay 40 = .ok (.aload_n 0, 1) := by decide +kernel
theorem dX7_lay_41 : decode cX7_lay 41 = .ok (.getfield 27, 3) := by decide +kernel
theorem dX7_lay_44 : decode cX7_lay 44 = .ok (.iload_n 1, 1) := by decide +kernel
theorem dX7_lay_45 : decode cX7_lay 45 = .ok (.iload_n 2, 1) := by decide +kernel
theorem dX7_lay_46 : decode cX7_lay 46 = .ok (.iload_n 3, 1) := by decide +kernel
theorem dX7_lay_47 : decode cX7_lay 47 = .ok (.invokevirtual 77, 3) := by decide +kernel
theorem dX7_lay_50 : decode cX7_lay 50 = .ok (.iconst 1, 1) := by decide +kernel
theorem dX7_lay_51 : decode cX7_lay 51 = .ok (.ireturn, 1) := by decide +kernel
theorem dX7_rules_0 : decode cX7_rules 0 = .ok (.iload_n 1, 1) := by decide +kernel
theorem dX7_rules_1 : decode cX7_rules 1 = .ok (.iconst 1, 1) := by decide +kernel
theorem dX7_rules_2 : decode cX7_rules 2 = .ok (.iconst 5, 1) := by decide +kernel
theorem dX7_rules_3 : decode cX7_rules 3 = .ok (.invokestatic 66, 3) := by decide +kernel
theorem dX7_rules_6 : decode cX7_rules 6 = .ok (.ifCond .eq 45, 3) := by decide +kernel
theorem dX7_rules_9 : decode cX7_rules 9 = .ok (.iload_n 2, 1) := by decide +kernel
theorem dX7_rules_10 : decode cX7_rules 10 = .ok (.iconst 0, 1) := by decide +kernel
theorem dX7_rules_11 : decode cX7_rules 11 = .ok (.bipush 100, 2) := by decide +kernel
theorem dX7_rules_13 : decode cX7_rules 13 = .ok (.invokestatic 66, 3) := by decide +kernel
theorem dX7_rules_16 : decode cX7_rules 16 = .ok (.ifCond .eq 35, 3) := by decide +kernel
theorem dX7_rules_19 : decode cX7_rules 19 = .ok (.iload_n 3, 1) := by decide +kernel
theorem dX7_rules_20 : decode cX7_rules 20 = .ok (.iconst 0, 1) := by decide +kernel
theorem dX7_rules_21 : decode cX7_rules 21 = .ok (.bipush 100, 2) := by decide +kernel
theorem dX7_rules_23 : decode cX7_rules 23 = .ok (.invokestatic 66, 3) := by decide +kernel
theorem dX7_rules_26 : decode cX7_rules 26 = .ok (.ifCond .eq 25, 3) := by decide +kernel
theorem dX7_rules_29 : decode cX7_rules 29 = .ok (.iload 4, 2) := by decide +kernel
theorem dX7_rules_31 : decode cX7_rules 31 = .ok (.iconst 1, 1) := by decide +kernel
theorem dX7_rules_32 : decode cX7_rules 32 = .ok (.bipush 9, 2) := by decide +kernel
theorem dX7_rules_34 : decode cX7_rules 34 = .ok (.invokestatic 66, 3) := by decide +kernel
theorem dX7_rules_37 : decode cX7_rules 37 = .ok (.ifCond .eq 14, 3) := by decide +kernel
theorem dX7_rules_40 : decode cX7_rules 40 = .ok (.iload 5, 2) := by decide +kernel
theorem dX7_rules_42 : decode cX7_rules 42 = .ok (.iconst 0, 1) := by decide +kernel
theorem dX7_rules_43 : decode cX7_rules 43 = .ok (.bipush 20, 2) := by decide +kernel
theorem dX7_rules_45 : decode cX7_rules 45 = .ok (.invokestatic 66, 3) := by decide +kernel
theorem dX7_rules_48 : decode cX7_rules 48 = .ok (.ifCond .ne 5, 3) := by decide +kernel
theorem dX7_rules_51 : decode cX7_rules 51 = .ok (.iconst 0, 1) := by decide +kernel
theorem dX7_rules_52 : decode cX7_rules 52 = .ok (.ireturn, 1) := by decide +kernel
theorem dX7_rules_53 : decode cX7_rules 53 = .ok (.aload_n 0, 1) := by decide +kernel
theorem dX7_rules_54 : decode cX7_rules 54 = .ok (.getfield 27, 3) := by decide +kernel
theorem dX7_rules_57 : decode cX7_rules 57 = .ok (.getfield 81, 3) := by decide +kernel
theorem dX7_rules_60 : decode cX7_rules 60 = .ok (.iconst 0, 1) := by decide +kernel
theorem dX7_rules_61 : decode cX7_rules 61 = .ok (.iload_n 1, 1) := by decide +kernel
theorem dX7_rules_62 : decode cX7_rules 62 = .ok (.iastore, 1) := by decide +kernel
theorem dX7_rules_63 : decode cX7_rules 63 = .ok (.aload_n 0, 1) := by decide +kernel
theorem dX7_rules_64 : decode cX7_rules 64 = .ok (.getfield 27, 3) := by decide +kernel
theorem dX7_rules_67 : decode cX7_rules 67 = .ok (.getfield 81, 3) := by decide +kernel
theorem dX7_rules_70 : decode cX7_rules 70 = .ok (.iconst 1, 1) := by decide +kernel
theorem dX7_rules_71 : decode cX7_rules 71 = .ok (.iload_n 2, 1) := by decide +kernel
theorem dX7_rules_72 : decode cX7_rules 72 = .ok (.iastore, 1) := by decide +kernel
theorem dX7_rules_73 : decode cX7_rules 73 = .ok (.aload_n 0, 1) := by decide +kernel
theorem dX7_rules_74 : decode cX7_rules 74 = .ok (.getfield 27, 3) := by decide +kernel
theorem dX7_rules_77 : decode cX7_rules 77 = .ok (.getfield 81, 3) := by decide +kernel
theorem dX7_rules_80 : decode cX7_rules 80 = .ok (.iconst 2, 1) := by decide +kernel
theorem dX7_rules_81 : decode cX7_rules 81 = .ok (.iload_n 3, 1) := by decide +kernel
theorem dX7_rules_82 : decode cX7_rules 82 = .ok (.iastore, 1) := by decide +kernel
theorem dX7_rules_83 : decode cX7_rules 83 = .ok (.aload_n 0, 1) := by decide +kernel
theorem dX7_rules_84 : decode cX7_rules 84 = .ok (.getfield 27, 3) := by decide +kernel
theorem dX7_rules_87 : decode cX7_rules 87 = .ok (.getfield 81, 3) := by decide +kernel
theorem dX7_rules_90 : decode cX7_rules 90 = .ok (.iconst 3, 1) := by decide +kernel
theorem dX7_rules_91 : decode cX7_rules 91 = .ok (.iload 4, 2) := by decide +kernel
theorem dX7_rules_93 : decode cX7_rules 93 = .ok (.iastore, 1) := by decide +kernel
theorem dX7_rules_94 : decode cX7_rules 94 = .ok (.aload_n 0, 1) := by decide +kernel
theorem dX7_rules_95 : decode cX7_rules 95 = .ok (.getfield 27, 3) := by decide +kernel
theorem dX7_rules_98 : decode cX7_rules 98 = .ok (.getfield 81, 3) := by decide +kernel
theorem dX7_rules_101 : decode cX7_rules 101 = .ok (.iconst 4, 1) := by decide +kernel
theorem dX7_rules_102 : decode cX7_rules 102 = .ok (.iload 5, 2) := by decide +kernel
theorem dX7_rules_104 : decode cX7_rules 104 = .ok (.iastore, 1) := by decide +kernel
theorem dX7_rules_105 : decode cX7_rules 105 = .ok (.aload_n 0, 1) := by decide +kernel
theorem dX7_rules_106 : decode cX7_rules 106 = .ok (.getfield 27, 3) := by decide +kernel
theorem dX7_rules_109 : decode cX7_rules 109 = .ok (.invokevirtual 84, 3) := by decide +kernel
theorem dX7_rules_112 : decode cX7_rules 112 = .ok (.iconst 1, 1) := by decide +kernel
theorem dX7_rules_113 : decode cX7_rules 113 = .ok (.ireturn, 1) := by decide +kernel
theorem dX7_seed_0 : decode cX7_seed 0 = .ok (.aload_n 0, 1) := by decide +kernel
theorem dX7_seed_1 : decode cX7_seed 1 = .ok (.getfield 27, 3) := by decide +kernel
theorem dX7_seed_4 : decode cX7_seed 4 = .ok (.iload_n 1, 1) := by decide +kernel
theorem dX7_seed_5 : decode cX7_seed 5 = .ok (.putfield 87, 3) := by decide +kernel
theorem dX7_seed_8 : decode cX7_seed 8 = .ok (.return_, 1) := by decide +kernel
theorem dX7_feed_0 : decode cX7_feed 0 = .ok (.aload_n 0, 1) := by decide +kernel
theorem dX7_feed_1 : decode cX7_feed 1 = .ok (.getfield 40, 3) := by decide +kernel
theorem dX7_feed_4 : decode cX7_feed 4 = .ok (.getfield 90, 3) := by decide +kernel
theorem dX7_feed_7 : decode cX7_feed 7 = .ok (.bipush 20, 2) := by decide +kernel
theorem dX7_feed_9 : decode cX7_feed 9 = .ok (.iadd, 1) := by decide +kernel
theorem dX7_feed_10 : decode cX7_feed 10 = .ok (.sipush 200, 3) := by decide +kernel
theorem dX7_feed_13 : decode cX7_feed 13 = .ok (.if_icmp .le 5, 3) := by decide +kernel
theorem dX7_feed_16 : decode cX7_feed 16 = .ok (.iconst (-1), 1) := by decide +kernel
theorem dX7_feed_17 : decode cX7_feed 17 = .ok (.ireturn, 1) := by decide +kernel
theorem dX7_feed_18 : decode cX7_feed 18 = .ok (.aload_n 0, 1) := by decide +kernel
theorem dX7_feed_19 : decode cX7_feed 19 = .ok (.getfield 40, 3) := by decide +kernel
theorem dX7_feed_22 : decode cX7_feed 22 = .ok (.iload_n 1, 1) := by decide +kernel
theorem dX7_feed_23 : decode cX7_feed 23 = .ok (.invokevirtual 93, 3) := by decide +kernel
theorem dX7_feed_26 : decode cX7_feed 26 = .ok (.aload_n 0, 1) := by decide +kernel
theorem dX7_feed_27 : decode cX7_feed 27 = .ok (.getfield 40, 3) := by decide +kernel
theorem dX7_feed_30 : decode cX7_feed 30 = .ok (.iload_n 2, 1) := by decide +kernel
theorem dX7_feed_31 : decode cX7_feed 31 = .ok (.invokevirtual 93, 3) := by decide +kernel
theorem dX7_feed_34 : decode cX7_feed 34 = .ok (.aload_n 0, 1) := by decide +kernel
theorem dX7_feed_35 : decode cX7_feed 35 = .ok (.getfield 40, 3) := by decide +kernel
theorem dX7_feed_38 : decode cX7_feed 38 = .ok (.iload_n 3, 1) := by decide +kernel
theorem dX7_feed_39 : decode cX7_feed 39 = .ok (.invokevirtual 93, 3) := by decide +kernel
theorem dX7_feed_42 : decode cX7_feed 42 = .ok (.aload_n 0, 1) := by decide +kernel
theorem dX7_feed_43 : decode cX7_feed 43 = .ok (.getfield 40, 3) := by decide +kernel
theorem dX7_feed_46 : decode cX7_feed 46 = .ok (.iload 4, 2) := by decide +kernel
theorem dX7_feed_48 : decode cX7_feed 48 = .ok (.invokevirtual 93, 3) := by decide +kernel
theorem dX7_feed_51 : decode cX7_feed 51 = .ok (.aload_n 0, 1) := by decide +kernel
theorem dX7_feed_52 : decode cX7_feed 52 = .ok (.getfield 40, 3) := by decide +kernel
theorem dX7_feed_55 : decode cX7_feed 55 = .ok (.iload 5, 2) := by decide +kernel
theorem dX7_feed_57 : decode cX7_feed 57 = .ok (.invokevirtual 93, 3) := by decide +kernel
theorem dX7_feed_60 : decode cX7_feed 60 = .ok (.aload_n 0, 1) := by decide +kernel
theorem dX7_feed_61 : decode cX7_feed 61 = .ok (.getfield 40, 3) := by decide +kernel
theorem dX7_feed_64 : decode cX7_feed 64 = .ok (.getfield 90, 3) := by decide +kernel
theorem dX7_feed_67 : decode cX7_feed 67 = .ok (.ireturn, 1) := by decide +kernel
theorem dX7_end_0 : decode cX7_end 0 = .ok (.iload_n 1, 1) := by decide +kernel
theorem dX7_end_1 : decode cX7_end 1 = .ok (.iconst 0, 1) := by decide +kernel
theorem dX7_end_2 : decode cX7_end 2 = .ok (.aload_n 0, 1) := by decide +kernel
theorem dX7_end_3 : decode cX7_end 3 = .ok (.getfield 40, 3) := by decide +kernel
theorem dX7_end_6 : decode cX7_end 6 = .ok (.getfield 90, 3) := by decide +kernel
theorem dX7_end_9 : decode cX7_end 9 = .ok (.invokestatic 66, 3) := by decide +kernel
theorem dX7_end_12 : decode cX7_end 12 = .ok (.ifCond .ne 5, 3) := by decide +kernel
theorem dX7_end_15 : decode cX7_end 15 = .ok (.iconst (-1), 1) := by decide +kernel
theorem dX7_end_16 : decode cX7_end 16 = .ok (.ireturn, 1) := by decide +kernel
theorem dX7_end_17 : decode cX7_end 17 = .ok (.aload_n 0, 1) := by decide +kernel
theorem dX7_end_18 : decode cX7_end 18 = .ok (.getfield 40, 3) := by decide +kernel
theorem dX7_end_21 : decode cX7_end 21 = .ok (.iload_n 1, 1) := by decide +kernel
theorem dX7_end_22 : decode cX7_end 22 = .ok (.putfield 90, 3) := by decide +kernel
theorem dX7_end_25 : decode cX7_end 25 = .ok (.iload_n 1, 1) := by decide +kernel
theorem dX7_end_26 : decode cX7_end 26 = .ok (.ireturn, 1) := by decide +kernel
theorem dX7_winds_0 : decode cX7_winds 0 = .ok (.aload_n 0, 1) := by decide +kernel
theorem dX7_winds_1 : decode cX7_winds 1 = .ok (.getfield 40, 3) := by decide +kernel
theorem dX7_winds_4 : decode cX7_winds 4 = .ok (.invokevirtual 97, 3) := by decide +kernel
theorem dX7_winds_7 : decode cX7_winds 7 = .ok (.istore_n 1, 1) := by decide +kernel
theorem dX7_winds_8 : decode cX7_winds 8 = .ok (.aload_n 0, 1) := by decide +kernel
theorem dX7_winds_9 : decode cX7_winds 9 = .ok (.getfield 40, 3) := by decide +kernel
theorem dX7_winds_12 : decode cX7_winds 12 = .ok (.iconst 0, 1) := by decide +kernel
theorem dX7_winds_13 : decode cX7_winds 13 = .ok (.putfield 90, 3) := by decide +kernel
theorem dX7_winds_16 : decode cX7_winds 16 = .ok (.iload_n 1, 1) := by decide +kernel
theorem dX7_winds_17 : decode cX7_winds 17 = .ok (.ifCond .ne 5, 3) := by decide +kernel
theorem dX7_winds_20 : decode cX7_winds 20 = .ok (.iconst (-1), 1) := by decide +kernel
theorem dX7_winds_21 : decode cX7_winds 21 = .ok (.ireturn, 1) := by decide +kernel
theorem dX7_winds_22 : decode cX7_winds 22 = .ok (.aload_n 0, 1) := by decide +kernel
theorem dX7_winds_23 : decode cX7_winds 23 = .ok (.getfield 27, 3) := by decide +kernel
theorem dX7_winds_26 : decode cX7_winds 26 = .ok (.getfield 101, 3) := by decide +kernel
theorem dX7_winds_29 : decode cX7_winds 29 = .ok (.aload_n 0, 1) := by decide +kernel
theorem dX7_winds_30 : decode cX7_winds 30 = .ok (.getfield 40, 3) := by decide +kernel
theorem dX7_winds_33 : decode cX7_winds 33 = .ok (.getfield 105, 3) := by decide +kernel
theorem dX7_winds_36 : decode cX7_winds 36 = .ok (.invokevirtual 108, 3) := by decide +kernel
theorem dX7_winds_39 : decode cX7_winds 39 = .ok (.aload_n 0, 1) := by decide +kernel
theorem dX7_winds_40 : decode cX7_winds 40 = .ok (.getfield 27, 3) := by decide +kernel
theorem dX7_winds_43 : decode cX7_winds 43 = .ok (.getfield 101, 3) := by decide +kernel
theorem dX7_winds_46 : decode cX7_winds 46 = .ok (.getfield 114, 3) := by decide +kernel
theorem dX7_winds_49 : decode cX7_winds 49 = .ok (.ireturn, 1) := by decide +kernel
theorem dX7_fault_0 : decode cX7_fault 0 = .ok (.iload_n 1, 1) := by decide +kernel
theorem dX7_fault_1 : decode cX7_fault 1 = .ok (.lookupswitch 43 #[(0, 27), (1, 35)], 27) := by decide +kernel
theorem dX7_fault_28 : decode cX7_fault 28 = .ok (.aload_n 0, 1) := by decide +kernel
theorem dX7_fault_29 : decode cX7_fault 29 = .ok (.getfield 40, 3) := by decide +kernel
theorem dX7_fault_32 : decode cX7_fault 32 = .ok (.getfield 117, 3) := by decide +kernel
theorem dX7_fault_35 : decode cX7_fault 35 = .ok (.ireturn, 1) := by decide +kernel
theorem dX7_fault_36 : decode cX7_fault 36 = .ok (.aload_n 0, 1) := by decide +kernel
theorem dX7_fault_37 : decode cX7_fault 37 = .ok (.getfield 40, 3) := by decide +kernel
theorem dX7_fault_40 : decode cX7_fault 40 = .ok (.getfield 120, 3) := by decide +kernel
theorem dX7_fault_43 : decode cX7_fault 43 = .ok (.ireturn, 1) := by decide +kernel
theorem dX7_fault_44 : decode cX7_fault 44 = .ok (.iconst (-1), 1) := by decide +kernel
theorem dX7_fault_45 : decode cX7_fault 45 = .ok (.ireturn, 1) := by decide +kernel
theorem dX7_days_0 : decode cX7_days 0 = .ok (.aload_n 0, 1) := by decide +kernel
theorem dX7_days_1 : decode cX7_days 1 = .ok (.getfield 27, 3) := by decide +kernel
theorem dX7_days_4 : decode cX7_days 4 = .ok (.iload_n 1, 1) := by decide +kernel
theorem dX7_days_5 : decode cX7_days 5 = .ok (.invokevirtual 123, 3) := by decide +kernel
theorem dX7_days_8 : decode cX7_days 8 = .ok (.ifCond .ne 5, 3) := by decide +kernel
theorem dX7_days_11 : decode cX7_days 11 = .ok (.iconst (-1), 1) := by decide +kernel
theorem dX7_days_12 : decode cX7_days 12 = .ok (.ireturn, 1) := by decide +kernel
theorem dX7_days_13 : decode cX7_days 13 = .ok (.aload_n 0, 1) := by decide +kernel
theorem dX7_days_14 : decode cX7_days 14 = .ok (.getfield 27, 3) := by decide +kernel
theorem dX7_days_17 : decode cX7_days 17 = .ok (.iload_n 1, 1) := by decide +kernel
theorem dX7_days_18 : decode cX7_days 18 = .ok (.invokevirtual 126, 3) := by decide +kernel
theorem dX7_days_21 : decode cX7_days 21 = .ok (.aload_n 0, 1) := by decide +kernel
theorem dX7_days_22 : decode cX7_days 22 = .ok (.getfield 27, 3) := by decide +kernel
theorem dX7_days_25 : decode cX7_days 25 = .ok (.getfield 129, 3) := by decide +kernel
theorem dX7_days_28 : decode cX7_days 28 = .ok (.ireturn, 1) := by decide +kernel
theorem dX7_storm_0 : decode cX7_storm 0 = .ok (.iload_n 1, 1) := by decide +kernel
theorem dX7_storm_1 : decode cX7_storm 1 = .ok (.iconst 1, 1) := by decide +kernel
theorem dX7_storm_2 : decode cX7_storm 2 = .ok (.sipush 999, 3) := by decide +kernel
theorem dX7_storm_5 : decode cX7_storm 5 = .ok (.invokestatic 66, 3) := by decide +kernel
theorem dX7_storm_8 : decode cX7_storm 8 = .ok (.ifCond .ne 5, 3) := by decide +kernel
theorem dX7_storm_11 : decode cX7_storm 11 = .ok (.iconst (-1), 1) := by decide +kernel
theorem dX7_storm_12 : decode cX7_storm 12 = .ok (.ireturn, 1) := by decide +kernel
theorem dX7_storm_13 : decode cX7_storm 13 = .ok (.aload_n 0, 1) := by decide +kernel
theorem dX7_storm_14 : decode cX7_storm 14 = .ok (.getfield 27, 3) := by decide +kernel
theorem dX7_storm_17 : decode cX7_storm 17 = .ok (.iload_n 1, 1) := by decide +kernel
theorem dX7_storm_18 : decode cX7_storm 18 = .ok (.invokevirtual 132, 3) := by decide +kernel
theorem dX7_storm_21 : decode cX7_storm 21 = .ok (.ireturn, 1) := by decide +kernel
theorem dX7_cell_0 : decode cX7_cell 0 = .ok (.aload_n 0, 1) := by decide +kernel
theorem dX7_cell_1 : decode cX7_cell 1 = .ok (.getfield 18, 3) := by decide +kernel
theorem dX7_cell_4 : decode cX7_cell 4 = .ok (.iload_n 1, 1) := by decide +kernel
theorem dX7_cell_5 : decode cX7_cell 5 = .ok (.invokevirtual 62, 3) := by decide +kernel
theorem dX7_cell_8 : decode cX7_cell 8 = .ok (.ifCond .ne 5, 3) := by decide +kernel
theorem dX7_cell_11 : decode cX7_cell 11 = .ok (.iconst (-1), 1) := by decide +kernel
theorem dX7_cell_12 : decode cX7_cell 12 = .ok (.ireturn, 1) := by decide +kernel
theorem dX7_cell_13 : decode cX7_cell 13 = .ok (.aload_n 0, 1) := by decide +kernel
theorem dX7_cell_14 : decode cX7_cell 14 = .ok (.getfield 27, 3) := by decide +kernel
theorem dX7_cell_17 : decode cX7_cell 17 = .ok (.iload_n 1, 1) := by decide +kernel
theorem dX7_cell_18 : decode cX7_cell 18 = .ok (.iload_n 2, 1) := by decide +kernel
theorem dX7_cell_19 : decode cX7_cell 19 = .ok (.invokevirtual 136, 3) := by decide +kernel
theorem dX7_cell_22 : decode cX7_cell 22 = .ok (.ireturn, 1) := by decide +kernel
theorem dX7_work_0 : decode cX7_work 0 = .ok (.iload_n 1, 1) := by decide +kernel
theorem dX7_work_1 : decode cX7_work 1 = .ok (.iconst 0, 1) := by decide +kernel
theorem dX7_work_2 : decode cX7_work 2 = .ok (.iconst 2, 1) := by decide +kernel
theorem dX7_work_3 : decode cX7_work 3 = .ok (.invokestatic 66, 3) := by decide +kernel
theorem dX7_work_6 : decode cX7_work 6 = .ok (.ifCond .eq 36, 3) := by decide +kernel
theorem dX7_work_9 : decode cX7_work 9 = .ok (.aload_n 0, 1) := by decide +kernel
theorem dX7_work_10 : decode cX7_work 10 = .ok (.getfield 18, 3) := by decide +kernel
theorem dX7_work_13 : decode cX7_work 13 = .ok (.iload_n 2, 1) := by decide +kernel
theorem dX7_work_14 : decode cX7_work 14 = .ok (.invokevirtual 62, 3) := by decide +kernel
theorem dX7_work_17 : decode cX7_work 17 = .ok (.ifCond .eq 25, 3) := by decide +kernel
theorem dX7_work_20 : decode cX7_work 20 = .ok (.iload_n 3, 1) := by decide +kernel
theorem dX7_work_21 : decode cX7_work 21 = .ok (.iconst 1, 1) := by decide +kernel
theorem dX7_work_22 : decode cX7_work 22 = .ok (.bipush 99, 2) := by decide +kernel
theorem dX7_work_24 : decode cX7_work 24 = .ok (.invokestatic 66, 3) := by decide +kernel
theorem dX7_work_27 : decode cX7_work 27 = .ok (.ifCond .eq 15, 3) := by decide +kernel
theorem dX7_work_30 : decode cX7_work 30 = .ok (.iload 4, 2) := by decide +kernel
theorem dX7_work_32 : decode cX7_work 32 = .ok (.iconst 0, 1) := by decide +kernel
theorem dX7_work_33 : decode cX7_work 33 = .ok (.sipush 999, 3) := by decide +kernel
theorem dX7_work_36 : decode cX7_work 36 = .ok (.invokestatic 66, 3) := by decide +kernel
theorem dX7_work_39 : decode cX7_work 39 = .ok (.ifCond .ne 5, 3) := by decide +kernel
theorem dX7_work_42 : decode cX7_work 42 = .ok (.iconst (-1), 1) := by decide +kernel
theorem dX7_work_43 : decode cX7_work 43 = .ok (.ireturn, 1) := by decide +kernel
theorem dX7_work_44 : decode cX7_work 44 = .ok (.aload_n 0, 1) := by decide +kernel
theorem dX7_work_45 : decode cX7_work 45 = .ok (.getfield 47, 3) := by decide +kernel
theorem dX7_work_48 : decode cX7_work 48 = .ok (.iload_n 1, 1) := by decide +kernel
theorem dX7_work_49 : decode cX7_work 49 = .ok (.iload_n 2, 1) := by decide +kernel
theorem dX7_work_50 : decode cX7_work 50 = .ok (.iload_n 3, 1) := by decide +kernel
theorem dX7_work_51 : decode cX7_work 51 = .ok (.iload 4, 2) := by decide +kernel
theorem dX7_work_53 : decode cX7_work 53 = .ok (.invokevirtual 140, 3) := by decide +kernel
theorem dX7_work_56 : decode cX7_work 56 = .ok (.ireturn, 1) := by decide +kernel
theorem dX7_drop_0 : decode cX7_drop 0 = .ok (.aload_n 0, 1) := by decide +kernel
theorem dX7_drop_1 : decode cX7_drop 1 = .ok (.getfield 47, 3) := by decide +kernel
theorem dX7_drop_4 : decode cX7_drop 4 = .ok (.getfield 144, 3) := by decide +kernel
theorem dX7_drop_7 : decode cX7_drop 7 = .ok (.istore_n 1, 1) := by decide +kernel
theorem dX7_drop_8 : decode cX7_drop 8 = .ok (.aload_n 0, 1) := by decide +kernel
theorem dX7_drop_9 : decode cX7_drop 9 = .ok (.getfield 47, 3) := by decide +kernel
theorem dX7_drop_12 : decode cX7_drop 12 = .ok (.iconst 0, 1) := by decide +kernel
theorem dX7_drop_13 : decode cX7_drop 13 = .ok (.putfield 144, 3) := by decide +kernel
theorem dX7_drop_16 : decode cX7_drop 16 = .ok (.iload_n 1, 1) := by decide +kernel
theorem dX7_drop_17 : decode cX7_drop 17 = .ok (.ireturn, 1) := by decide +kernel
theorem dX7_best_0 : decode cX7_best 0 = .ok (.aload_n 0, 1) := by decide +kernel
theorem dX7_best_1 : decode cX7_best 1 = .ok (.iload_n 1, 1) := by decide +kernel
theorem dX7_best_2 : decode cX7_best 2 = .ok (.iload_n 2, 1) := by decide +kernel
theorem dX7_best_3 : decode cX7_best 3 = .ok (.invokevirtual 145, 3) := by decide +kernel
theorem dX7_best_6 : decode cX7_best 6 = .ok (.iconst (-1), 1) := by decide +kernel
theorem dX7_best_7 : decode cX7_best 7 = .ok (.if_icmp .ne 7, 3) := by decide +kernel
theorem dX7_best_10 : decode cX7_best 10 = .ok (.iconst (-1), 1) := by decide +kernel
theorem dX7_best_11 : decode cX7_best 11 = .ok (.goto 7, 3) := by decide +kernel
theorem dX7_best_14 : decode cX7_best 14 = .ok (.aload_n 0, 1) := by decide +kernel
theorem dX7_best_15 : decode cX7_best 15 = .ok (.getfield 58, 3) := by decide +kernel
theorem dX7_best_18 : decode cX7_best 18 = .ok (.ireturn, 1) := by decide +kernel
theorem dX7_bestSet_0 : decode cX7_bestSet 0 = .ok (.aload_n 0, 1) := by decide +kernel
theorem dX7_bestSet_1 : decode cX7_bestSet 1 = .ok (.iload_n 1, 1) := by decide +kernel
theorem dX7_bestSet_2 : decode cX7_bestSet 2 = .ok (.iload_n 2, 1) := by decide +kernel
theorem dX7_bestSet_3 : decode cX7_bestSet 3 = .ok (.invokevirtual 145, 3) := by decide +kernel
theorem dX7_bestSet_6 : decode cX7_bestSet 6 = .ok (.ireturn, 1) := by decide +kernel
theorem dX7_mark_0 : decode cX7_mark 0 = .ok (.aload_n 0, 1) := by decide +kernel
theorem dX7_mark_1 : decode cX7_mark 1 = .ok (.getfield 31, 3) := by decide +kernel
theorem dX7_mark_4 : decode cX7_mark 4 = .ok (.aload_n 0, 1) := by decide +kernel
theorem dX7_mark_5 : decode cX7_mark 5 = .ok (.getfield 27, 3) := by decide +kernel
theorem dX7_mark_8 : decode cX7_mark 8 = .ok (.invokevirtual 148, 3) := by decide +kernel
theorem dX7_mark_11 : decode cX7_mark 11 = .ok (.aload_n 0, 1) := by decide +kernel
theorem dX7_mark_12 : decode cX7_mark 12 = .ok (.getfield 54, 3) := by decide +kernel
theorem dX7_mark_15 : decode cX7_mark 15 = .ok (.iconst 0, 1) := by decide +kernel
theorem dX7_mark_16 : decode cX7_mark 16 = .ok (.putfield 151, 3) := by decide +kernel
theorem dX7_mark_19 : decode cX7_mark 19 = .ok (.return_, 1) := by decide +kernel
theorem dX7_flight_0 : decode cX7_flight 0 = .ok (.aload_n 0, 1) := by decide +kernel
theorem dX7_flight_1 : decode cX7_flight 1 = .ok (.getfield 18, 3) := by decide +kernel
theorem dX7_flight_4 : decode cX7_flight 4 = .ok (.iload_n 1, 1) := by decide +kernel
theorem dX7_flight_5 : decode cX7_flight 5 = .ok (.invokevirtual 62, 3) := by decide +kernel
theorem dX7_flight_8 : decode cX7_flight 8 = .ok (.ifCond .eq 24, 3) := by decide +kernel
theorem dX7_flight_11 : decode cX7_flight 11 = .ok (.iload_n 2, 1) := by decide +kernel
theorem dX7_flight_12 : decode cX7_flight 12 = .ok (.iconst 0, 1) := by decide +kernel
theorem dX7_flight_13 : decode cX7_flight 13 = .ok (.sipush 9999, 3) := by decide +kernel
theorem dX7_flight_16 : decode cX7_flight 16 = .ok (.invokestatic 66, 3) := by decide +kernel
theorem dX7_flight_19 : decode cX7_flight 19 = .ok (.ifCond .eq 13, 3) := by decide +kernel
theorem dX7_flight_22 : decode cX7_flight 22 = .ok (.iload_n 3, 1) := by decide +kernel
theorem dX7_flight_23 : decode cX7_flight 23 = .ok (.iconst 0, 1) := by decide +kernel
theorem dX7_flight_24 : decode cX7_flight 24 = .ok (.bipush 9, 2) := by decide +kernel
theorem dX7_flight_26 : decode cX7_flight 26 = .ok (.invokestatic 66, 3) := by decide +kernel
theorem dX7_flight_29 : decode cX7_flight 29 = .ok (.ifCond .ne 5, 3) := by decide +kernel
theorem dX7_flight_32 : decode cX7_flight 32 = .ok (.iconst (-1), 1) := by decide +kernel
theorem dX7_flight_33 : decode cX7_flight 33 = .ok (.ireturn, 1) := by decide +kernel
theorem dX7_flight_34 : decode cX7_flight 34 = .ok (.aload_n 0, 1) := by decide +kernel
theorem dX7_flight_35 : decode cX7_flight 35 = .ok (.getfield 54, 3) := by decide +kernel
theorem dX7_flight_38 : decode cX7_flight 38 = .ok (.iload_n 1, 1) := by decide +kernel
theorem dX7_flight_39 : decode cX7_flight 39 = .ok (.iload_n 2, 1) := by decide +kernel
theorem dX7_flight_40 : decode cX7_flight 40 = .ok (.iload_n 3, 1) := by decide +kernel
theorem dX7_flight_41 : decode cX7_flight 41 = .ok (.invokevirtual 152, 3) := by decide +kernel
theorem dX7_flight_44 : decode cX7_flight 44 = .ok (.ireturn, 1) := by decide +kernel
theorem dX7_fits_0 : decode cX7_fits 0 = .ok (.aload_n 0, 1) := by decide +kernel
theorem dX7_fits_1 : decode cX7_fits 1 = .ok (.getfield 31, 3) := by decide +kernel
theorem dX7_fits_4 : decode cX7_fits 4 = .ok (.iload_n 1, 1) := by decide +kernel
theorem dX7_fits_5 : decode cX7_fits 5 = .ok (.invokevirtual 123, 3) := by decide +kernel
theorem dX7_fits_8 : decode cX7_fits 8 = .ok (.ifCond .ne 5, 3) := by decide +kernel
theorem dX7_fits_11 : decode cX7_fits 11 = .ok (.iconst (-1), 1) := by decide +kernel
theorem dX7_fits_12 : decode cX7_fits 12 = .ok (.ireturn, 1) := by decide +kernel
theorem dX7_fits_13 : decode cX7_fits 13 = .ok (.iconst 0, 1) := by decide +kernel
theorem dX7_fits_14 : decode cX7_fits 14 = .ok (.istore_n 2, 1) := by decide +kernel
theorem dX7_fits_15 : decode cX7_fits 15 = .ok (.iconst 1, 1) := by decide +kernel
theorem dX7_fits_16 : decode cX7_fits 16 = .ok (.istore_n 3, 1) := by decide +kernel
theorem dX7_fits_17 : decode cX7_fits 17 = .ok (.iload_n 3, 1) := by decide +kernel
theorem dX7_fits_18 : decode cX7_fits 18 = .ok (.iconst 5, 1) := by decide +kernel
theorem dX7_fits_19 : decode cX7_fits 19 = .ok (.if_icmp .gt 58, 3) := by decide +kernel
theorem dX7_fits_22 : decode cX7_fits 22 = .ok (.aload_n 0, 1) := by decide +kernel
theorem dX7_fits_23 : decode cX7_fits 23 = .ok (.getfield 34, 3) := by decide +kernel
theorem dX7_fits_26 : decode cX7_fits 26 = .ok (.aload_n 0, 1) := by decide +kernel
theorem dX7_fits_27 : decode cX7_fits 27 = .ok (.getfield 31, 3) := by decide +kernel
theorem dX7_fits_30 : decode cX7_fits 30 = .ok (.invokevirtual 148, 3) := by decide +kernel
theorem dX7_fits_33 : decode cX7_fits 33 = .ok (.aload_n 0, 1) := by decide +kernel
theorem dX7_fits_34 : decode cX7_fits 34 = .ok (.getfield 34, 3) := by decide +kernel
theorem dX7_fits_37 : decode cX7_fits 37 = .ok (.getfield 81, 3) := by decide +kernel
theorem dX7_fits_40 : decode cX7_fits 40 = .ok (.iconst 0, 1) := by decide +kernel
theorem dX7_fits_41 : decode cX7_fits 41 = .ok (.iload_n 3, 1) := by decide +kernel
theorem dX7_fits_42 : decode cX7_fits 42 = .ok (.iastore, 1) := by decide +kernel
theorem dX7_fits_43 : decode cX7_fits 43 = .ok (.aload_n 0, 1) := by decide +kernel
theorem dX7_fits_44 : decode cX7_fits 44 = .ok (.getfield 34, 3) := by decide +kernel
theorem dX7_fits_47 : decode cX7_fits 47 = .ok (.iload_n 1, 1) := by decide +kernel
theorem dX7_fits_48 : decode cX7_fits 48 = .ok (.invokevirtual 126, 3) := by decide +kernel
theorem dX7_fits_51 : decode cX7_fits 51 = .ok (.aload_n 0, 1) := by decide +kernel
theorem dX7_fits_52 : decode cX7_fits 52 = .ok (.getfield 54, 3) := by decide +kernel
theorem dX7_fits_55 : decode cX7_fits 55 = .ok (.aload_n 0, 1) := by decide +kernel
theorem dX7_fits_56 : decode cX7_fits 56 = .ok (.getfield 34, 3) := by decide +kernel
theorem dX7_fits_59 : decode cX7_fits 59 = .ok (.invokevirtual 154, 3) := by decide +kernel
theorem dX7_fits_62 : decode cX7_fits 62 = .ok (.ifCond .eq 9, 3) := by decide +kernel
theorem dX7_fits_65 : decode cX7_fits 65 = .ok (.iload_n 2, 1) := by decide +kernel
theorem dX7_fits_66 : decode cX7_fits 66 = .ok (.iconst 1, 1) := by decide +kernel
theorem dX7_fits_67 : decode cX7_fits 67 = .ok (.iload_n 3, 1) := by decide +kernel
theorem dX7_fits_68 : decode cX7_fits 68 = .ok (.ishl, 1) := by decide +kernel
theorem dX7_fits_69 : decode cX7_fits 69 = .ok (.ior, 1) := by decide +kernel
theorem dX7_fits_70 : decode cX7_fits 70 = .ok (.istore_n 2, 1) := by decide +kernel
theorem dX7_fits_71 : decode cX7_fits 71 = .ok (.iinc 3 1, 3) := by decide +kernel
theorem dX7_fits_74 : decode cX7_fits 74 = .ok (.goto (-57), 3) := by decide +kernel
theorem dX7_fits_77 : decode cX7_fits 77 = .ok (.iload_n 2, 1) := by decide +kernel
theorem dX7_fits_78 : decode cX7_fits 78 = .ok (.ireturn, 1) := by decide +kernel
theorem dX7_about_0 : decode cX7_about 0 = .ok (.iload_n 1, 1) := by decide +kernel
theorem dX7_about_1 : decode cX7_about 1 = .ok (.bipush 20, 2) := by decide +kernel
theorem dX7_about_3 : decode cX7_about 3 = .ok (.bipush 24, 2) := by decide +kernel
theorem dX7_about_5 : decode cX7_about 5 = .ok (.invokestatic 66, 3) := by decide +kernel
theorem dX7_about_8 : decode cX7_about 8 = .ok (.ifCond .eq 16, 3) := by decide +kernel
theorem dX7_about_11 : decode cX7_about 11 = .ok (.aload_n 0, 1) := by decide +kernel
theorem dX7_about_12 : decode cX7_about 12 = .ok (.getfield 27, 3) := by decide +kernel
theorem dX7_about_15 : decode cX7_about 15 = .ok (.getfield 81, 3) := by decide +kernel
theorem dX7_about_18 : decode cX7_about 18 = .ok (.iload_n 1, 1) := by decide +kernel
theorem dX7_about_19 : decode cX7_about 19 = .ok (.bipush 20, 2) := by decide +kernel
theorem dX7_about_21 : decode cX7_about 21 = .ok (.isub, 1) := by decide +kernel
theorem dX7_about_22 : decode cX7_about 22 = .ok (.iaload, 1) := by decide +kernel
theorem dX7_about_23 : decode cX7_about 23 = .ok (.ireturn, 1) := by decide +kernel
theorem dX7_about_24 : decode cX7_about 24 = .ok (.iload_n 1, 1) := by decide +kernel
theorem dX7_about_25 : decode cX7_about 25 = .ok (.tableswitch 177 0 12 #[67, 75, 83, 91, 99, 107, 115, 123, 134, 145, 153, 161, 169], 67) := by decide +kernel
theorem dX7_about_92 : decode cX7_about 92 = .ok (.aload_n 0, 1) := by decide +kernel
theorem dX7_about_93 : decode cX7_about 93 = .ok (.getfield 27, 3) := by decide +kernel
theorem dX7_about_96 : decode cX7_about 96 = .ok (.getfield 129, 3) := by decide +kernel
theorem dX7_about_99 : decode cX7_about 99 = .ok (.ireturn, 1) := by decide +kernel
theorem dX7_about_100 : decode cX7_about 100 = .ok (.aload_n 0, 1) := by decide +kernel
theorem dX7_about_101 : decode cX7_about 101 = .ok (.getfield 18, 3) := by decide +kernel
theorem dX7_about_104 : decode cX7_about 104 = .ok (.getfield 158, 3) := by decide +kernel
theorem dX7_about_107 : decode cX7_about 107 = .ok (.ireturn, 1) := by decide +kernel
theorem dX7_about_108 : decode cX7_about 108 = .ok (.aload_n 0, 1) := by decide +kernel
theorem dX7_about_109 : decode cX7_about 109 = .ok (.getfield 18, 3) := by decide +kernel
theorem dX7_about_112 : decode cX7_about 112 = .ok (.getfield 161, 3) := by decide +kernel
theorem dX7_about_115 : decode cX7_about 115 = .ok (.ireturn, 1) := by decide +kernel
theorem dX7_about_116 : decode cX7_about 116 = .ok (.aload_n 0, 1) := by decide +kernel
theorem dX7_about_117 : decode cX7_about 117 = .ok (.getfield 27, 3) := by decide +kernel
theorem dX7_about_120 : decode cX7_about 120 = .ok (.invokevirtual 164, 3) := by decide +kernel
theorem dX7_about_123 : decode cX7_about 123 = .ok (.ireturn, 1) := by decide +kernel
theorem dX7_about_124 : decode cX7_about 124 = .ok (.aload_n 0, 1) := by decide +kernel
theorem dX7_about_125 : decode cX7_about 125 = .ok (.getfield 27, 3) := by decide +kernel
theorem dX7_about_128 : decode cX7_about 128 = .ok (.getfield 168, 3) := by decide +kernel
theorem dX7_about_131 : decode cX7_about 131 = .ok (.ireturn, 1) := by decide +kernel
theorem dX7_about_132 : decode cX7_about 132 = .ok (.aload_n 0, 1) := by decide +kernel
theorem dX7_about_133 : decode cX7_about 133 = .ok (.getfield 27, 3) := by decide +kernel
theorem dX7_about_136 : decode cX7_about 136 = .ok (.getfield 171, 3) := by decide +kernel
theorem dX7_about_139 : decode cX7_about 139 = .ok (.ireturn, 1) := by decide +kernel
theorem dX7_about_140 : decode cX7_about 140 = .ok (.aload_n 0, 1) := by decide +kernel
theorem dX7_about_141 : decode cX7_about 141 = .ok (.getfield 27, 3) := by decide +kernel
theorem dX7_about_144 : decode cX7_about 144 = .ok (.getfield 174, 3) := by decide +kernel
theorem dX7_about_147 : decode cX7_about 147 = .ok (.ireturn, 1) := by decide +kernel
theorem dX7_about_148 : decode cX7_about 148 = .ok (.aload_n 0, 1) := by decide +kernel
theorem dX7_about_149 : decode cX7_about 149 = .ok (.getfield 27, 3) := by decide +kernel
theorem dX7_about_152 : decode cX7_about 152 = .ok (.getfield 101, 3) := by decide +kernel
theorem dX7_about_155 : decode cX7_about 155 = .ok (.getfield 114, 3) := by decide +kernel
theorem dX7_about_158 : decode cX7_about 158 = .ok (.ireturn, 1) := by decide +kernel
theorem dX7_about_159 : decode cX7_about 159 = .ok (.aload_n 0, 1) := by decide +kernel
theorem dX7_about_160 : decode cX7_about 160 = .ok (.getfield 27, 3) := by decide +kernel
theorem dX7_about_163 : decode cX7_about 163 = .ok (.getfield 101, 3) := by decide +kernel
theorem dX7_about_166 : decode cX7_about 166 = .ok (.invokevirtual 177, 3) := by decide +kernel
theorem dX7_about_169 : decode cX7_about 169 = .ok (.ireturn, 1) := by decide +kernel
theorem dX7_about_170 : decode cX7_about 170 = .ok (.aload_n 0, 1) := by decide +kernel
theorem dX7_about_171 : decode cX7_about 171 = .ok (.getfield 40, 3) := by decide +kernel
theorem dX7_about_174 : decode cX7_about 174 = .ok (.getfield 90, 3) := by decide +kernel
theorem dX7_about_177 : decode cX7_about 177 = .ok (.ireturn, 1) := by decide +kernel
theorem dX7_about_178 : decode cX7_about 178 = .ok (.aload_n 0, 1) := by decide +kernel
theorem dX7_about_179 : decode cX7_about 179 = .ok (.getfield 47, 3) := by decide +kernel
theorem dX7_about_182 : decode cX7_about 182 = .ok (.getfield 144, 3) := by decide +kernel
theorem dX7_about_185 : decode cX7_about 185 = .ok (.ireturn, 1) := by decide +kernel
theorem dX7_about_186 : decode cX7_about 186 = .ok (.aload_n 0, 1) := by decide +kernel
theorem dX7_about_187 : decode cX7_about 187 = .ok (.getfield 54, 3) := by decide +kernel
theorem dX7_about_190 : decode cX7_about 190 = .ok (.getfield 151, 3) := by decide +kernel
theorem dX7_about_193 : decode cX7_about 193 = .ok (.ireturn, 1) := by decide +kernel
theorem dX7_about_194 : decode cX7_about 194 = .ok (.aload_n 0, 1) := by decide +kernel
theorem dX7_about_195 : decode cX7_about 195 = .ok (.getfield 31, 3) := by decide +kernel
theorem dX7_about_198 : decode cX7_about 198 = .ok (.getfield 129, 3) := by decide +kernel
theorem dX7_about_201 : decode cX7_about 201 = .ok (.ireturn, 1) := by decide +kernel
theorem dX7_about_202 : decode cX7_about 202 = .ok (.iconst (-1), 1) := by decide +kernel
theorem dX7_about_203 : decode cX7_about 203 = .ok (.ireturn, 1) := by decide +kernel
theorem dX7_chooseWorks_0 : decode cX7_chooseWorks 0 = .ok (.iload_n 1, 1) := by decide +kernel
theorem dX7_chooseWorks_1 : decode cX7_chooseWorks 1 = .ok (.iconst 0, 1) := by decide +kernel
theorem dX7_chooseWorks_2 : decode cX7_chooseWorks 2 = .ok (.sipush 9999, 3) := by decide +kernel
theorem dX7_chooseWorks_5 : decode cX7_chooseWorks 5 = .ok (.invokestatic 66, 3) := by decide +kernel
theorem dX7_chooseWorks_8 : decode cX7_chooseWorks 8 = .ok (.ifCond .eq 14, 3) := by decide +kernel
theorem dX7_chooseWorks_11 : decode cX7_chooseWorks 11 = .ok (.aload_n 0, 1) := by decide +kernel
theorem dX7_chooseWorks_12 : decode cX7_chooseWorks 12 = .ok (.getfield 27, 3) := by decide +kernel
theorem dX7_chooseWorks_15 : decode cX7_chooseWorks 15 = .ok (.iload_n 2, 1) := by decide +kernel
theorem dX7_chooseWorks_16 : decode cX7_chooseWorks 16 = .ok (.invokevirtual 123, 3) := by decide +kernel
theorem dX7_chooseWorks_19 : decode cX7_chooseWorks 19 = .ok (.ifCond .ne 5, 3) := by decide +kernel
theorem dX7_chooseWorks_22 : decode cX7_chooseWorks 22 = .ok (.iconst (-1), 1) := by decide +kernel
theorem dX7_chooseWorks_23 : decode cX7_chooseWorks 23 = .ok (.ireturn, 1) := by decide +kernel
theorem dX7_chooseWorks_24 : decode cX7_chooseWorks 24 = .ok (.iconst (-1), 1) := by decide +kernel
theorem dX7_chooseWorks_25 : decode cX7_chooseWorks 25 = .ok (.istore_n 3, 1) := by decide +kernel
theorem dX7_chooseWorks_26 : decode cX7_chooseWorks 26 = .ok (.iconst 0, 1) := by decide +kernel
theorem dX7_chooseWorks_27 : decode cX7_chooseWorks 27 = .ok (.istore 4, 2) := by decide +kernel
theorem dX7_chooseWorks_29 : decode cX7_chooseWorks 29 = .ok (.iconst 0, 1) := by decide +kernel
theorem dX7_chooseWorks_30 : decode cX7_chooseWorks 30 = .ok (.istore 5, 2) := by decide +kernel
theorem dX7_chooseWorks_32 : decode cX7_chooseWorks 32 = .ok (.iload 5, 2) := by decide +kernel
theorem dX7_chooseWorks_34 : decode cX7_chooseWorks 34 = .ok (.iconst 1, 1) := by decide +kernel
theorem dX7_chooseWorks_35 : decode cX7_chooseWorks 35 = .ok (.aload_n 0, 1) := by decide +kernel
theorem dX7_chooseWorks_36 : decode cX7_chooseWorks 36 = .ok (.getfield 47, 3) := by decide +kernel
theorem dX7_chooseWorks_39 : decode cX7_chooseWorks 39 = .ok (.getfield 144, 3) := by decide +kernel
theorem dX7_chooseWorks_42 : decode cX7_chooseWorks 42 = .ok (.ishl, 1) := by decide +kernel
theorem dX7_chooseWorks_43 : decode cX7_chooseWorks 43 = .ok (.if_icmp .ge 113, 3) := by decide +kernel
theorem dX7_chooseWorks_46 : decode cX7_chooseWorks 46 = .ok (.aload_n 0, 1) := by decide +kernel
theorem dX7_chooseWorks_47 : decode cX7_chooseWorks 47 = .ok (.getfield 47, 3) := by decide +kernel
theorem dX7_chooseWorks_50 : decode cX7_chooseWorks 50 = .ok (.iload 5, 2) := by decide +kernel
theorem dX7_chooseWorks_52 : decode cX7_chooseWorks 52 = .ok (.invokevirtual 180, 3) := by decide +kernel
theorem dX7_chooseWorks_55 : decode cX7_chooseWorks 55 = .ok (.istore 6, 2) := by decide +kernel
theorem dX7_chooseWorks_57 : decode cX7_chooseWorks 57 = .ok (.iload 6, 2) := by decide +kernel
theorem dX7_chooseWorks_59 : decode cX7_chooseWorks 59 = .ok (.iload_n 1, 1) := by decide +kernel
theorem dX7_chooseWorks_60 : decode cX7_chooseWorks 60 = .ok (.if_icmp .le 6, 3) := by decide +kernel
theorem dX7_chooseWorks_63 : decode cX7_chooseWorks 63 = .ok (.goto 87, 3) := by decide +kernel
theorem dX7_chooseWorks_66 : decode cX7_chooseWorks 66 = .ok (.aload_n 0, 1) := by decide +kernel
theorem dX7_chooseWorks_67 : decode cX7_chooseWorks 67 = .ok (.getfield 34, 3) := by decide +kernel
theorem dX7_chooseWorks_70 : decode cX7_chooseWorks 70 = .ok (.aload_n 0, 1) := by decide +kernel
theorem dX7_chooseWorks_71 : decode cX7_chooseWorks 71 = .ok (.getfield 27, 3) := by decide +kernel
theorem dX7_chooseWorks_74 : decode cX7_chooseWorks 74 = .ok (.invokevirtual 148, 3) := by decide +kernel
theorem dX7_chooseWorks_77 : decode cX7_chooseWorks 77 = .ok (.aload_n 0, 1) := by decide +kernel
theorem dX7_chooseWorks_78 : decode cX7_chooseWorks 78 = .ok (.getfield 47, 3) := by decide +kernel
theorem dX7_chooseWorks_81 : decode cX7_chooseWorks 81 = .ok (.iload 5, 2) := by decide +kernel
theorem dX7_chooseWorks_83 : decode cX7_chooseWorks 83 = .ok (.aload_n 0, 1) := by decide +kernel
theorem dX7_chooseWorks_84 : decode cX7_chooseWorks 84 = .ok (.getfield 34, 3) := by decide +kernel
theorem dX7_chooseWorks_87 : decode cX7_chooseWorks 87 = .ok (.invokevirtual 183, 3) := by decide +kernel
theorem dX7_chooseWorks_90 : decode cX7_chooseWorks 90 = .ok (.aload_n 0, 1) := by decide +kernel
theorem dX7_chooseWorks_91 : decode cX7_chooseWorks 91 = .ok (.getfield 34, 3) := by decide +kernel
theorem dX7_chooseWorks_94 : decode cX7_chooseWorks 94 = .ok (.iload_n 2, 1) := by decide +kernel
theorem dX7_chooseWorks_95 : decode cX7_chooseWorks 95 = .ok (.invokevirtual 126, 3) := by decide +kernel
theorem dX7_chooseWorks_98 : decode cX7_chooseWorks 98 = .ok (.aload_n 0, 1) := by decide +kernel
theorem dX7_chooseWorks_99 : decode cX7_chooseWorks 99 = .ok (.getfield 34, 3) := by decide +kernel
theorem dX7_chooseWorks_102 : decode cX7_chooseWorks 102 = .ok (.invokevirtual 187, 3) := by decide +kernel
theorem dX7_chooseWorks_105 : decode cX7_chooseWorks 105 = .ok (.istore 7, 2) := by decide +kernel
theorem dX7_chooseWorks_107 : decode cX7_chooseWorks 107 = .ok (.iload_n 3, 1) := by decide +kernel
theorem dX7_chooseWorks_108 : decode cX7_chooseWorks 108 = .ok (.iconst (-1), 1) := by decide +kernel
theorem dX7_chooseWorks_109 : decode cX7_chooseWorks 109 = .ok (.if_icmp .eq 28, 3) := by decide +kernel
theorem dX7_chooseWorks_112 : decode cX7_chooseWorks 112 = .ok (.iload 7, 2) := by decide +kernel
theorem dX7_chooseWorks_114 : decode cX7_chooseWorks 114 = .ok (.aload_n 0, 1) := by decide +kernel
theorem dX7_chooseWorks_115 : decode cX7_chooseWorks 115 = .ok (.getfield 58, 3) := by decide +kernel
theorem dX7_chooseWorks_118 : decode cX7_chooseWorks 118 = .ok (.if_icmp .lt 19, 3) := by decide +kernel
theorem dX7_chooseWorks_121 : decode cX7_chooseWorks 121 = .ok (.iload 7, 2) := by decide +kernel
theorem dX7_chooseWorks_123 : decode cX7_chooseWorks 123 = .ok (.aload_n 0, 1) := by decide +kernel
theorem dX7_chooseWorks_124 : decode cX7_chooseWorks 124 = .ok (.getfield 58, 3) := by decide +kernel
theorem dX7_chooseWorks_127 : decode cX7_chooseWorks 127 = .ok (.if_icmp .ne 23, 3) := by decide +kernel
theorem dX7_chooseWorks_130 : decode cX7_chooseWorks 130 = .ok (.iload 6, 2) := by decide +kernel
theorem dX7_chooseWorks_132 : decode cX7_chooseWorks 132 = .ok (.iload 4, 2) := by decide +kernel
theorem dX7_chooseWorks_134 : decode cX7_chooseWorks 134 = .ok (.if_icmp .ge 16, 3) := by decide +kernel
theorem dX7_chooseWorks_137 : decode cX7_chooseWorks 137 = .ok (.iload 5, 2) := by decide +kernel
theorem dX7_chooseWorks_139 : decode cX7_chooseWorks 139 = .ok (.istore_n 3, 1) := by decide +kernel
theorem dX7_chooseWorks_140 : decode cX7_chooseWorks 140 = .ok (.iload 6, 2) := by decide +kernel
theorem dX7_chooseWorks_142 : decode cX7_chooseWorks 142 = .ok (.istore 4, 2) := by decide +kernel
theorem dX7_chooseWorks_144 : decode cX7_chooseWorks 144 = .ok (.aload_n 0, 1) := by decide +kernel
theorem dX7_chooseWorks_145 : decode cX7_chooseWorks 145 = .ok (.iload 7, 2) := by decide +kernel
theorem dX7_chooseWorks_147 : decode cX7_chooseWorks 147 = .ok (.putfield 58, 3) := by decide +kernel
theorem dX7_chooseWorks_150 : decode cX7_chooseWorks 150 = .ok (.iinc 5 1, 3) := by decide +kernel
theorem dX7_chooseWorks_153 : decode cX7_chooseWorks 153 = .ok (.goto (-121), 3) := by decide +kernel
theorem dX7_chooseWorks_156 : decode cX7_chooseWorks 156 = .ok (.iload_n 3, 1) := by decide +kernel
theorem dX7_chooseWorks_157 : decode cX7_chooseWorks 157 = .ok (.ireturn, 1) := by decide +kernel
theorem dX7_isWithin_0 : decode cX7_isWithin 0 = .ok (.iload_n 0, 1) := by decide +kernel
theorem dX7_isWithin_1 : decode cX7_isWithin 1 = .ok (.iload_n 1, 1) := by decide +kernel
theorem dX7_isWithin_2 : decode cX7_isWithin 2 = .ok (.if_icmp .lt 12, 3) := by decide +kernel
theorem dX7_isWithin_5 : decode cX7_isWithin 5 = .ok (.iload_n 0, 1) := by decide +kernel
theorem dX7_isWithin_6 : decode cX7_isWithin 6 = .ok (.iload_n 2, 1) := by decide +kernel
theorem dX7_isWithin_7 : decode cX7_isWithin 7 = .ok (.if_icmp .gt 7, 3) := by decide +kernel
theorem dX7_isWithin_10 : decode cX7_isWithin 10 = .ok (.iconst 1, 1) := by decide +kernel
theorem dX7_isWithin_11 : decode cX7_isWithin 11 = .ok (.goto 4, 3) := by decide +kernel
theorem dX7_isWithin_14 : decode cX7_isWithin 14 = .ok (.iconst 0, 1) := by decide +kernel
theorem dX7_isWithin_15 : decode cX7_isWithin 15 = .ok (.ireturn, 1) := by decide +kernel
theorem dX7_nearest_0 : decode cX7_nearest 0 = .ok (.iload_n 1, 1) := by decide +kernel
theorem dX7_nearest_1 : decode cX7_nearest 1 = .ok (.iload_n 2, 1) := by decide +kernel
theorem dX7_nearest_2 : decode cX7_nearest 2 = .ok (.iload_n 0, 1) := by decide +kernel
theorem dX7_nearest_3 : decode cX7_nearest 3 = .ok (.invokestatic 190, 3) := by decide +kernel
theorem dX7_nearest_6 : decode cX7_nearest 6 = .ok (.invokestatic 195, 3) := by decide +kernel
theorem dX7_nearest_9 : decode cX7_nearest 9 = .ok (.ireturn, 1) := by decide +kernel
theorem dX7_copyRow_0 : decode cX7_copyRow 0 = .ok (.aload_n 0, 1) := by decide +kernel
theorem dX7_copyRow_1 : decode cX7_copyRow 1 = .ok (.iconst 0, 1) := by decide +kernel
theorem dX7_copyRow_2 : decode cX7_copyRow 2 = .ok (.aload_n 1, 1) := by decide +kernel
theorem dX7_copyRow_3 : decode cX7_copyRow 3 = .ok (.iconst 0, 1) := by decide +kernel
theorem dX7_copyRow_4 : decode cX7_copyRow 4 = .ok (.aload_n 0, 1) := by decide +kernel
theorem dX7_copyRow_5 : decode cX7_copyRow 5 = .ok (.arraylength, 1) := by decide +kernel
theorem dX7_copyRow_6 : decode cX7_copyRow 6 = .ok (.aload_n 1, 1) := by decide +kernel
theorem dX7_copyRow_7 : decode cX7_copyRow 7 = .ok (.arraylength, 1) := by decide +kernel
theorem dX7_copyRow_8 : decode cX7_copyRow 8 = .ok (.invokestatic 190, 3) := by decide +kernel
theorem dX7_copyRow_11 : decode cX7_copyRow 11 = .ok (.invokestatic 198, 3) := by decide +kernel
theorem dX7_copyRow_14 : decode cX7_copyRow 14 = .ok (.return_, 1) := by decide +kernel
end
section
theorem dX8_init_0 : decode cX8_init 0 = .ok (.aload_n 0, 1) := by decide +kernel
theorem dX8_init_1 : decode cX8_init 1 = .ok (.invokespecial 1, 3) := by decide +kernel
theorem dX8_init_4 : decode cX8_init 4 = .ok (.aload_n 0, 1) := by decide +kernel
theorem dX8_init_5 : decode cX8_init 5 = .ok (.sipush 160, 3) := by decide +kernel
theorem dX8_init_8 : decode cX8_init 8 = .ok (.newarray .int, 2) := by decide +kernel
theorem dX8_init_10 : decode cX8_init 10 = .ok (.putfield 7, 3) := by decide +kernel
theorem dX8_init_13 : decode cX8_init 13 = .ok (.aload_n 0, 1) := by decide +kernel
theorem dX8_init_14 : decode cX8_init 14 = .ok (.sipush 160, 3) := by decide +kernel
theorem dX8_init_17 : decode cX8_init 17 = .ok (.newarray .int, 2) := by decide +kernel
theorem dX8_init_19 : decode cX8_init 19 = .ok (.putfield 13, 3) := by decide +kernel
theorem dX8_init_22 : decode cX8_init 22 = .ok (.aload_n 0, 1) := by decide +kernel
theorem dX8_init_23 : decode cX8_init 23 = .ok (.sipush 160, 3) := by decide +kernel
theorem dX8_init_26 : decode cX8_init 26 = .ok (.newarray .int, 2) := by decide +kernel
theorem dX8_init_28 : decode cX8_init 28 = .ok (.putfield 16, 3) := by decide +kernel
theorem dX8_init_31 : decode cX8_init 31 = .ok (.aload_n 0, 1) := by decide +kernel
theorem dX8_init_32 : decode cX8_init 32 = .ok (.sipush 160, 3) := by decide +kernel
theorem dX8_init_35 : decode cX8_init 35 = .ok (.newarray .int, 2) := by decide +kernel
theorem dX8_init_37 : decode cX8_init 37 = .ok (.putfield 19, 3) := by decide +kernel
theorem dX8_init_40 : decode cX8_init 40 = .ok (.aload_n 0, 1) := by decide +kernel
theorem dX8_init_41 : decode cX8_init 41 = .ok (.sipush 160, 3) := by decide +kernel
theorem dX8_init_44 : decode cX8_init 44 = .ok (.newarray .int, 2) := by decide +kernel
theorem dX8_init_46 : decode cX8_init 46 = .ok (.putfield 22, 3) := by decide +kernel
theorem dX8_init_49 : decode cX8_init 49 = .ok (.aload_n 0, 1) := by decide +kernel
theorem dX8_init_50 : decode cX8_init 50 = .ok (.sipush 160, 3) := by decide +kernel
theorem dX8_init_53 : decode cX8_init 53 = .ok (.newarray .int, 2) := by decide +kernel
theorem dX8_init_55 : decode cX8_init 55 = .ok (.putfield 25, 3) := by decide +kernel
theorem dX8_init_58 : decode cX8_init 58 = .ok (.aload_n 0, 1) := by decide +kernel
theorem dX8_init_59 : decode cX8_init 59 = .ok (.sipush 160, 3) := by decide +kernel
theorem dX8_init_62 : decode cX8_init 62 = .ok (.newarray .int, 2) := by decide +kernel
theorem dX8_init_64 : decode cX8_init 64 = .ok (.putfield 28, 3) := by decide +kernel
theorem dX8_init_67 : decode cX8_init 67 = .ok (.aload_n 0, 1) := by decide +kernel
theorem dX8_init_68 : decode cX8_init 68 = .ok (.iconst 5, 1) := by decide +kernel
theorem dX8_init_69 : decode cX8_init 69 = .ok (.newarray .int, 2) := by decide +kernel
theorem dX8_init_71 : decode cX8_init 71 = .ok (.dup, 1) := by decide +kernel
theorem dX8_init_72 : decode cX8_init 72 = .ok (.iconst 0, 1) := by decide +kernel
theorem dX8_init_73 : decode cX8_init 73 = .ok (.iconst 2, 1) := by decide +kernel
theorem dX8_init_74 : decode cX8_init 74 = .ok (.iastore, 1) := by decide +kernel
theorem dX8_init_75 : decode cX8_init 75 = .ok (.dup, 1) := by decide +kernel
theorem dX8_init_76 : decode cX8_init 76 = .ok (.iconst 1, 1) := by decide +kernel
theorem dX8_init_77 : decode cX8_init 77 = .ok (.bipush 60, 2) := by decide +kernel
theorem dX8_init_79 : decode cX8_init 79 = .ok (.iastore, 1) := by decide +kernel
theorem dX8_init_80 : decode cX8_init 80 = .ok (.dup, 1) := by decide +kernel
theorem dX8_init_81 : decode cX8_init 81 = .ok (.iconst 2, 1) := by decide +kernel
theorem dX8_init_82 : decode cX8_init 82 = .ok (.bipush 40, 2) := by decide +kernel
theorem dX8_init_84 : decode cX8_init 84 = .ok (.iastore, 1) := by decide +kernel
theorem dX8_init_85 : decode cX8_init 85 = .ok (.dup, 1) := by decide +kernel
theorem dX8_init_86 : decode cX8_init 86 = .ok (.iconst 3, 1) := by decide +kernel
theorem dX8_init_87 : decode cX8_init 87 = .ok (.iconst 2, 1) := by decide +kernel
theorem dX8_init_88 : decode cX8_init 88 = .ok (.iastore, 1) := by decide +kernel
theorem dX8_init_89 : decode cX8_init 89 = .ok (.dup, 1) := by decide +kernel
theorem dX8_init_90 : decode cX8_init 90 = .ok (.iconst 4, 1) := by decide +kernel
theorem dX8_init_91 : decode cX8_init 91 = .ok (.iconst 2, 1) := by decide +kernel
theorem dX8_init_92 : decode cX8_init 92 = .ok (.iastore, 1) := by decide +kernel
theorem dX8_init_93 : decode cX8_init 93 = .ok (.putfield 31, 3) := by decide +kernel
theorem dX8_init_96 : decode cX8_init 96 = .ok (.aload_n 0, 1) := by decide +kernel
theorem dX8_init_97 : decode cX8_init 97 = .ok (.iconst 1, 1) := by decide +kernel
theorem dX8_init_98 : decode cX8_init 98 = .ok (.putfield 34, 3) := by decide +kernel
theorem dX8_init_101 : decode cX8_init 101 = .ok (.aload_n 0, 1) := by decide +kernel
theorem dX8_init_102 : decode cX8_init 102 = .ok (.bipush 20, 2) := by decide +kernel
theorem dX8_init_104 : decode cX8_init 104 = .ok (.newarray .int, 2) := by decide +kernel
theorem dX8_init_106 : decode cX8_init 106 = .ok (.putfield 38, 3) := by decide +kernel
theorem dX8_init_109 : decode cX8_init 109 = .ok (.aload_n 0, 1) := by decide +kernel
theorem dX8_init_110 : decode cX8_init 110 = .ok (.bipush 20, 2) := by decide +kernel
theorem dX8_init_112 : decode cX8_init 112 = .ok (.newarray .int, 2) := by decide +kernel
theorem dX8_init_114 : decode cX8_init 114 = .ok (.putfield 41, 3) := by decide +kernel
theorem dX8_init_117 : decode cX8_init 117 = .ok (.aload_n 0, 1) := by decide +kernel
theorem dX8_init_118 : decode cX8_init 118 = .ok (.sipush 200, 3) := by decide +kernel
theorem dX8_init_121 : decode cX8_init 121 = .ok (.newarray .byte, 2) := by decide +kernel
theorem dX8_init_123 : decode cX8_init 123 = .ok (.putfield 44, 3) := by decide +kernel
theorem dX8_init_126 : decode cX8_init 126 = .ok (.aload_n 0, 1) := by decide +kernel
theorem dX8_init_127 : decode cX8_init 127 = .ok (.iconst (-1), 1) := by decide +kernel
theorem dX8_init_128 : decode cX8_init 128 = .ok (.putfield 48, 3) := by decide +kernel
theorem dX8_init_131 : decode cX8_init 131 = .ok (.aload_n 0, 1) := by decide +kernel
theorem dX8_init_132 : decode cX8_init 132 = .ok (.iconst (-1), 1) := by decide +kernel
theorem dX8_init_133 : decode cX8_init 133 = .ok (.putfield 51, 3) := by decide +kernel
theorem dX8_init_136 : decode cX8_init 136 = .ok (.aload_n 0, 1) := by decide +kernel
theorem dX8_init_137 : decode cX8_init 137 = .ok (.bipush 20, 2) := by decide +kernel
theorem dX8_init_139 : decode cX8_init 139 = .ok (.newarray .int, 2) := by decide +kernel
theorem dX8_init_141 : decode cX8_init 141 = .ok (.putfield 54, 3) := by decide +kernel
theorem dX8_init_144 : decode cX8_init 144 = .ok (.aload_n 0, 1) := by decide +kernel
theorem dX8_init_145 : decode cX8_init 145 = .ok (.bipush 20, 2) := by decide +kernel
theorem dX8_init_147 : decode cX8_init 147 = .ok (.newarray .int, 2) := by decide +kernel
theorem dX8_init_149 : decode cX8_init 149 = .ok (.putfield 57, 3) := by decide +kernel
theorem dX8_init_152 : decode cX8_init 152 = .ok (.aload_n 0, 1) := by decide +kernel
theorem dX8_init_153 : decode cX8_init 153 = .ok (.iconst 4, 1) := by decide +kernel
theorem dX8_init_154 : decode cX8_init 154 = .ok (.newarray .int, 2) := by decide +kernel
theorem dX8_init_156 : decode cX8_init 156 = .ok (.putfield 60, 3) := by decide +kernel
theorem dX8_init_159 : decode cX8_init 159 = .ok (.aload_n 0, 1) := by decide +kernel
theorem dX8_init_160 : decode cX8_init 160 = .ok (.iconst 4, 1) := by decide +kernel
theorem dX8_init_161 : decode cX8_init 161 = .ok (.newarray .int, 2) := by decide +kernel
theorem dX8_init_163 : decode cX8_init 163 = .ok (.putfield 63, 3) := by decide +kernel
theorem dX8_init_166 : decode cX8_init 166 = .ok (.aload_n 0, 1) := by decide +kernel
theorem dX8_init_167 : decode cX8_init 167 = .ok (.iconst 4, 1) := by decide +kernel
theorem dX8_init_168 : decode cX8_init 168 = .ok (.newarray .int, 2) := by decide +kernel
theorem dX8_init_170 : decode cX8_init 170 = .ok (.putfield 66, 3) := by decide +kernel
theorem dX8_init_173 : decode cX8_init 173 = .ok (.aload_n 0, 1) := by decide +kernel
theorem dX8_init_174 : decode cX8_init 174 = .ok (.iconst 4, 1) := by decide +kernel
theorem dX8_init_175 : decode cX8_init 175 = .ok (.newarray .int, 2) := by decide +kernel
theorem dX8_init_177 : decode cX8_init 177 = .ok (.putfield 69, 3) := by decide +kernel
theorem dX8_init_180 : decode cX8_init 180 = .ok (.aload_n 0, 1) := by decide +kernel
theorem dX8_init_181 : decode cX8_init 181 = .ok (.bipush 20, 2) := by decide +kernel
theorem dX8_init_183 : decode cX8_init 183 = .ok (.newarray .int, 2) := by decide +kernel
theorem dX8_init_185 : decode cX8_init 185 = .ok (.putfield 72, 3) := by decide +kernel
theorem dX8_init_188 : decode cX8_init 188 = .ok (.aload_n 0, 1) := by decide +kernel
theorem dX8_init_189 : decode cX8_init 189 = .ok (.bipush 20, 2) := by decide +kernel
theorem dX8_init_191 : decode cX8_init 191 = .ok (.newarray .int, 2) := by decide +kernel
theorem dX8_init_193 : decode cX8_init 193 = .ok (.putfield 75, 3) := by decide +kernel
theorem dX8_init_196 : decode cX8_init 196 = .ok (.aload_n 0, 1) := by decide +kernel
theorem dX8_init_197 : decode cX8_init 197 = .ok (.bipush 20, 2) := by decide +kernel
theorem dX8_init_199 : decode cX8_init 199 = .ok (.newarray .int, 2) := by decide +kernel
theorem dX8_init_201 : decode cX8_init 201 = .ok (.putfield 78, 3) := by decide +kernel
theorem dX8_init_204 : decode cX8_init 204 = .ok (.aload_n 0, 1) := by decide +kernel
theorem dX8_init_205 : decode cX8_init 205 = .ok (.sipush 2240, 3) := by decide +kernel
theorem dX8_init_208 : decode cX8_init 208 = .ok (.newarray .int, 2) := by decide +kernel
theorem dX8_init_210 : decode cX8_init 210 = .ok (.putfield 81, 3) := by decide +kernel
theorem dX8_init_213 : decode cX8_init 213 = .ok (.aload_n 0, 1) := by decide +kernel
theorem dX8_init_214 : decode cX8_init 214 = .ok (.bipush 10, 2) := by decide +kernel
theorem dX8_init_216 : decode cX8_init 216 = .ok (.newarray .int, 2) := by decide +kernel
theorem dX8_init_218 : decode cX8_init 218 = .ok (.putfield 84, 3) := by decide +kernel
theorem dX8_init_221 : decode cX8_init 221 = .ok (.aload_n 0, 1) := by decide +kernel
theorem dX8_init_222 : decode cX8_init 222 = .ok (.bipush 16, 2) := by decide +kernel
theorem dX8_init_224 : decode cX8_init 224 = .ok (.newarray .int, 2) := by decide +kernel
theorem dX8_init_226 : decode cX8_init 226 = .ok (.putfield 87, 3) := by decide +kernel
theorem dX8_init_229 : decode cX8_init 229 = .ok (.aload_n 0, 1) := by decide +kernel
theorem dX8_init_230 : decode cX8_init 230 = .ok (.bipush 80, 2) := by decide +kernel
theorem dX8_init_232 : decode cX8_init 232 = .ok (.newarray .int, 2) := by decide +kernel
theorem dX8_init_234 : decode cX8_init 234 = .ok (.putfield 90, 3) := by decide +kernel
theorem dX8_init_237 : decode cX8_init 237 = .ok (.aload_n 0, 1) := by decide +kernel
theorem dX8_init_238 : decode cX8_init 238 = .ok (.sipush 160, 3) := by decide +kernel
theorem dX8_init_241 : decode cX8_init 241 = .ok (.newarray .boolean, 2) := by decide +kernel
theorem dX8_init_243 : decode cX8_init 243 = .ok (.putfield 93, 3) := by decide +kernel
theorem dX8_init_246 : decode cX8_init 246 = .ok (.aload_n 0, 1) := by decide +kernel
theorem dX8_init_247 : decode cX8_init 247 = .ok (.iload_n 1, 1) := by decide +kernel
theorem dX8_init_248 : decode cX8_init 248 = .ok (.iconst 4, 1) := by decide +kernel
theorem dX8_init_249 : decode cX8_init 249 = .ok (.if_icmp .ge 7, 3) := by decide +kernel
theorem dX8_init_252 : decode cX8_init 252 = .ok (.iconst 4, 1) := by decide +kernel
theorem dX8_init_253 : decode cX8_init 253 = .ok (.goto 15, 3) := by decide +kernel
theorem dX8_init_256 : decode cX8_init 256 = .ok (.iload_n 1, 1) := by decide +kernel
theorem dX8_init_257 : decode cX8_init 257 = .ok (.bipush 16, 2) := by decide +kernel
theorem dX8_init_259 : decode cX8_init 259 = .ok (.if_icmp .le 8, 3) := by decide +kernel
theorem dX8_init_262 : decode cX8_init 262 = .ok (.bipush 16, 2) := by decide +kernel
theorem dX8_init_264 : decode cX8_init 264 = .ok (.goto 4, 3) := by decide +kernel
theorem dX8_init_267 : decode cX8_init 267 = .ok (.iload_n 1, 1) := by decide +kernel
theorem dX8_init_268 : decode cX8_init 268 = .ok (.putfield 97, 3) := by decide +kernel
theorem dX8_init_271 : decode cX8_init 271 = .ok (.aload_n 0, 1) := by decide +kernel
theorem dX8_init_272 : decode cX8_init 272 = .ok (.iload_n 2, 1) := by decide +kernel
theorem dX8_init_273 : decode cX8_init 273 = .ok (.iconst 2, 1) := by decide +kernel
theorem dX8_init_274 : decode cX8_init 274 = .ok (.if_icmp .ge 7, 3) := by decide +kernel
theorem dX8_init_277 : decode cX8_init 277 = .ok (.iconst 2, 1) := by decide +kernel
theorem dX8_init_278 : decode cX8_init 278 = .ok (.goto 15, 3) := by decide +kernel
theorem dX8_init_281 : decode cX8_init 281 = .ok (.iload_n 2, 1) := by decide +kernel
theorem dX8_init_282 : decode cX8_init 282 = .ok (.bipush 10, 2) := by decide +kernel
theorem dX8_init_284 : decode cX8_init 284 = .ok (.if_icmp .le 8, 3) := by decide +kernel
theorem dX8_init_287 : decode cX8_init 287 = .ok (.bipush 10, 2) := by decide +kernel
theorem dX8_init_289 : decode cX8_init 289 = .ok (.goto 4, 3) := by decide +kernel
theorem dX8_init_292 : decode cX8_init 292 = .ok (.iload_n 2, 1) := by decide +kernel
theorem dX8_init_293 : decode cX8_init 293 = .ok (.putfield 100, 3) := by decide +kernel
theorem dX8_init_296 : decode cX8_init 296 = .ok (.aload_n 0, 1) := by decide +kernel
theorem dX8_init_297 : decode cX8_init 297 = .ok (.aload_n 0, 1) := by decide +kernel
theorem dX8_init_298 : decode cX8_init 298 = .ok (.getfield 97, 3) := by decide +kernel
theorem dX8_init_301 : decode cX8_init 301 = .ok (.aload_n 0, 1) := by decide +kernel
theorem dX8_init_302 : decode cX8_init 302 = .ok (.getfield 100, 3) := by decide +kernel
theorem dX8_init_305 : decode cX8_init 305 = .ok (.imul, 1) := by decide +kernel
theorem dX8_init_306 : decode cX8_init 306 = .ok (.putfield 103, 3) := by decide +kernel
theorem dX8_init_309 : decode cX8_init 309 = .ok (.iconst 0, 1) := by decide +kernel
theorem dX8_init_310 : decode cX8_init 310 = .ok (.istore_n 3, 1) := by decide +kernel
theorem dX8_init_311 : decode cX8_init 311 = .ok (.iload_n 3, 1) := by decide +kernel
theorem dX8_init_312 : decode cX8_init 312 = .ok (.sipush 160, 3) := by decide +kernel
theorem dX8_init_315 : decode cX8_init 315 = .ok (.if_icmp .ge 16, 3) := by decide +kernel
theorem dX8_init_318 : decode cX8_init 318 = .ok (.aload_n 0, 1) := by decide +kernel
theorem dX8_init_319 : decode cX8_init 319 = .ok (.getfield 28, 3) := by decide +kernel
theorem dX8_init_322 : decode cX8_init 322 = .ok (.iload_n 3, 1) := by decide +kernel
theorem dX8_init_323 : decode cX8_init 323 = .ok (.iconst (-1), 1) := by decide +kernel
theorem dX8_init_324 : decode cX8_init 324 = .ok (.iastore, 1) := by decide +kernel
theorem dX8_init_325 : decode cX8_init 325 = .ok (.iinc 3 1, 3) := by decide +kernel
theorem dX8_init_328 : decode cX8_init 328 = .ok (.goto (-17), 3) := by decide +kernel
theorem dX8_init_331 : decode cX8_init 331 = .ok (.aload_n 0, 1) := by decide +kernel
theorem dX8_init_332 : decode cX8_init 332 = .ok (.iconst 1, 1) := by decide +kernel
theorem dX8_init_333 : decode cX8_init 333 = .ok (.invokevirtual 106, 3) := by decide +kernel
theorem dX8_init_336 : decode cX8_init 336 = .ok (.return_, 1) := by decide +kernel
theorem dX8_in_0 : decode cX8_in 0 = .ok (.iload_n 0, 1) := by decide +kernel
theorem dX8_in_1 : decode cX8_in 1 = .ok (.iload_n 1, 1) := by decide +kernel
theorem dX8_in_2 : decode cX8_in 2 = .ok (.if_icmp .lt 12, 3) := by decide +kernel
theorem dX8_in_5 : decode cX8_in 5 = .ok (.iload_n 0, 1) := by decide +kernel
theorem dX8_in_6 : decode cX8_in 6 = .ok (.iload_n 2, 1) := by decide +kernel
theorem dX8_in_7 : decode cX8_in 7 = .ok (.if_icmp .gt 7, 3) := by decide +kernel
theorem dX8_in_10 : decode cX8_in 10 = .ok (.iconst 1, 1) := by decide +kernel
theorem dX8_in_11 : decode cX8_in 11 = .ok (.goto 4, 3) := by decide +kernel
theorem dX8_in_14 : decode cX8_in 14 = .ok (.iconst 0, 1) := by decide +kernel
theorem dX8_in_15 : decode cX8_in 15 = .ok (.ireturn, 1) := by decide +kernel
theorem dX8_isCell_0 : decode cX8_isCell 0 = .ok (.iload_n 1, 1) := by decide +kernel
theorem dX8_isCell_1 : decode cX8_isCell 1 = .ok (.iconst 0, 1) := by decide +kernel
theorem dX8_isCell_2 : decode cX8_isCell 2 = .ok (.aload_n 0, 1) := by decide +kernel
theorem dX8_isCell_3 : decode cX8_isCell 3 = .ok (.getfield 103, 3) := by decide +kernel
theorem dX8_isCell_6 : decode cX8_isCell 6 = .ok (.iconst 1, 1) := by decide +kernel
theorem dX8_isCell_7 : decode cX8_isCell 7 = .ok (.isub, 1) := by decide +kernel
theorem dX8_isCell_8 : decode cX8_isCell 8 = .ok (.invokestatic 110, 3) := by decide +kernel
theorem dX8_isCell_11 : decode cX8_isCell 11 = .ok (.ireturn, 1) := by decide +kernel
theorem dX8_draw_0 : decode cX8_draw 0 = .ok (.aload_n 0, 1) := by decide +kernel
theorem dX8_draw_1 : decode cX8_draw 1 = .ok (.aload_n 0, 1) := by decide +kernel
theorem dX8_draw_2 : decode cX8_draw 2 = .ok (.getfield 34, 3) := by decide +kernel
theorem dX8_draw_5 : decode cX8_draw 5 = .ok (.ldc 114, 2) := by decide +kernel
theorem dX8_draw_7 : decode cX8_draw 7 = .ok (.imul, 1) := by decide +kernel
theorem dX8_draw_8 : decode cX8_draw 8 = .ok (.sipush 12345, 3) := by decide +kernel
theorem dX8_draw_11 : decode cX8_draw 11 = .ok (.iadd, 1) := by decide +kernel
theorem dX8_draw_12 : decode cX8_draw 12 = .ok (.putfield 34, 3) := by decide +kernel
theorem dX8_draw_15 : decode cX8_draw 15 = .ok (.aload_n 0, 1) := by decide +kernel
theorem dX8_draw_16 : decode cX8_draw 16 = .ok (.getfield 34, 3) := by decide +kernel
theorem dX8_draw_19 : decode cX8_draw 19 = .ok (.bipush 16, 2) := by decide +kernel
theorem dX8_draw_21 : decode cX8_draw 21 = .ok (.iushr, 1) := by decide +kernel
theorem dX8_draw_22 : decode cX8_draw 22 = .ok (.iload_n 1, 1) := by decide +kernel
theorem dX8_draw_23 : decode cX8_draw 23 = .ok (.irem, 1) := by decide +kernel
theorem dX8_draw_24 : decode cX8_draw 24 = .ok (.ireturn, 1) := by decide +kernel
theorem dX8_keeps_0 : decode cX8_keeps 0 = .ok (.iconst 0, 1) := by decide +kernel
theorem dX8_keeps_1 : decode cX8_keeps 1 = .ok (.istore_n 2, 1) := by decide +kernel
theorem dX8_keeps_2 : decode cX8_keeps 2 = .ok (.iload_n 2, 1) := by decide +kernel
theorem dX8_keeps_3 : decode cX8_keeps 3 = .ok (.sipush 160, 3) := by decide +kernel
theorem dX8_keeps_6 : decode cX8_keeps 6 = .ok (.if_icmp .ge 125, 3) := by decide +kernel
theorem dX8_keeps_9 : decode cX8_keeps 9 = .ok (.sipush 1120, 3) := by decide +kernel
theorem dX8_keeps_12 : decode cX8_keeps 12 = .ok (.iload_n 1, 1) := by decide +kernel
theorem dX8_keeps_13 : decode cX8_keeps 13 = .ok (.imul, 1) := by decide +kernel
theorem dX8_keeps_14 : decode cX8_keeps 14 = .ok (.iload_n 2, 1) := by decide +kernel
theorem dX8_keeps_15 : decode cX8_keeps 15 = .ok (.iadd, 1) := by decide +kernel
theorem dX8_keeps_16 : decode cX8_keeps 16 = .ok (.istore_n 3, 1) := by decide +kernel
theorem dX8_keeps_17 : decode cX8_keeps 17 = .ok (.aload_n 0, 1) := by decide +kernel
theorem dX8_keeps_18 : decode cX8_keeps 18 = .ok (.getfield 81, 3) := by decide +kernel
theorem dX8_keeps_21 : decode cX8_keeps 21 = .ok (.iload_n 3, 1) := by decide +kernel
theorem dX8_keeps_22 : decode cX8_keeps 22 = .ok (.aload_n 0, 1) := by decide +kernel
theorem dX8_keeps_23 : decode cX8_keeps 23 = .ok (.getfield 7, 3) := by decide +kernel
theorem dX8_keeps_26 : decode cX8_keeps 26 = .ok (.iload_n 2, 1) := by decide +kernel
theorem dX8_keeps_27 : decode cX8_keeps 27 = .ok (.iaload, 1) := by decide +kernel
theorem dX8_keeps_28 : decode cX8_keeps 28 = .ok (.iastore, 1) := by decide +kernel
theorem dX8_keeps_29 : decode cX8_keeps 29 = .ok (.aload_n 0, 1) := by decide +kernel
theorem dX8_keeps_30 : decode cX8_keeps 30 = .ok (.getfield 81, 3) := by decide +kernel
theorem dX8_keeps_33 : decode cX8_keeps 33 = .ok (.iload_n 3, 1) := by decide +kernel
theorem dX8_keeps_34 : decode cX8_keeps 34 = .ok (.sipush 160, 3) := by decide +kernel
theorem dX8_keeps_37 : decode cX8_keeps 37 = .ok (.iadd, 1) := by decide +kernel
theorem dX8_keeps_38 : decode cX8_keeps 38 = .ok (.aload_n 0, 1) := by decide +kernel
theorem dX8_keeps_39 : decode cX8_keeps 39 = .ok (.getfield 13, 3) := by decide +kernel
theorem dX8_keeps_42 : decode cX8_keeps 42 = .ok (.iload_n 2, 1) := by decide +kernel
theorem dX8_keeps_43 : decode cX8_keeps 43 = .ok (.iaload, 1) := by decide +kernel
theorem dX8_keeps_44 : decode cX8_keeps 44 = .ok (.iastore, 1) := by decide +kernel
theorem dX8_keeps_45 : decode cX8_keeps 45 = .ok (.aload_n 0, 1) := by decide +kernel
theorem dX8_keeps_46 : decode cX8_keeps 46 = .ok (.getfield 81, 3) := by decide +kernel
theorem dX8_keeps_49 : decode cX8_keeps 49 = .ok (.iload_n 3, 1) := by decide +kernel
theorem dX8_keeps_50 : decode cX8_keeps 50 = .ok (.sipush 320, 3) := by decide +kernel
theorem dX8_keeps_53 : decode cX8_keeps 53 = .ok (.iadd, 1) := by decide +kernel
theorem dX8_keeps_54 : decode cX8_keeps 54 = .ok (.aload_n 0, 1) := by decide +kernel
theorem dX8_keeps_55 : decode cX8_keeps 55 = .ok (.getfield 16, 3) := by decide +kernel
theorem dX8_keeps_58 : decode cX8_keeps 58 = .ok (.iload_n 2, 1) := by decide +kernel
theorem dX8_keeps_59 : decode cX8_keeps 59 = .ok (.iaload, 1) := by decide +kernel
theorem dX8_keeps_60 : decode cX8_keeps 60 = .ok (.iastore, 1) := by decide +kernel
theorem dX8_keeps_61 : decode cX8_keeps 61 = .ok (.aload_n 0, 1) := by decide +kernel
theorem dX8_keeps_62 : decode cX8_keeps 62 = .ok (.getfield 81, 3) := by decide +kernel
theorem dX8_keeps_65 : decode cX8_keeps 65 = .ok (.iload_n 3, 1) := by decide +kernel
theorem dX8_keeps_66 : decode cX8_keeps 66 = .ok (.sipush 480, 3) := by decide +kernel
theorem dX8_keeps_69 : decode cX8_keeps 69 = .ok (.iadd, 1) := by decide +kernel
theorem dX8_keeps_70 : decode cX8_keeps 70 = .ok (.aload_n 0, 1) := by decide +kernel
theorem dX8_keeps_71 : decode cX8_keeps 71 = .ok (.getfield 19, 3) := by decide +kernel
theorem dX8_keeps_74 : decode cX8_keeps 74 = .ok (.iload_n 2, 1) := by decide +kernel
theorem dX8_keeps_75 : decode cX8_keeps 75 = .ok (.iaload, 1) := by decide +kernel
theorem dX8_keeps_76 : decode cX8_keeps 76 = .ok (.iastore, 1) := by decide +kernel
theorem dX8_keeps_77 : decode cX8_keeps 77 = .ok (.aload_n 0, 1) := by decide +kernel
theorem dX8_keeps_78 : decode cX8_keeps 78 = .ok (.getfield 81, 3) := by decide +kernel
theorem dX8_keeps_81 : decode cX8_keeps 81 = .ok (.iload_n 3, 1) := by decide +kernel
theorem dX8_keeps_82 : decode cX8_keeps 82 = .ok (.sipush 640, 3) := by decide +kernel
theorem dX8_keeps_85 : decode cX8_keeps 85 = .ok (.iadd, 1) := by decide +kernel
theorem dX8_keeps_86 : decode cX8_keeps 86 = .ok (.aload_n 0, 1) := by decide +kernel
theorem dX8_keeps_87 : decode cX8_keeps 87 = .ok (.getfield 22, 3) := by decide +kernel
theorem dX8_keeps_90 : decode cX8_keeps 90 = .ok (.iload_n 2, 1) := by decide +kernel
theorem dX8_keeps_91 : decode cX8_keeps 91 = .ok (.iaload, 1) := by decide +kernel
theorem dX8_keeps_92 : decode cX8_keeps 92 = .ok (.iastore, 1) := by decide +kernel
theorem dX8_keeps_93 : decode cX8_keeps 93 = .ok (.aload_n 0, 1) := by decide +kernel
theorem dX8_keeps_94 : decode cX8_keeps 94 = .ok (.getfield 81, 3) := by decide +kernel
theorem dX8_keeps_97 : decode cX8_keeps 97 = .ok (.iload_n 3, 1) := by decide +kernel
theorem dX8_keeps_98 : decode cX8_keeps 98 = .ok (.sipush 800, 3) := by decide +kernel
theorem dX8_keeps_101 : decode cX8_keeps 101 = .ok (.iadd, 1) := by decide +kernel
theorem dX8_keeps_102 : decode cX8_keeps 102 = .ok (.aload_n 0, 1) := by decide +kernel
theorem dX8_keeps_103 : decode cX8_keeps 103 = .ok (.getfield 25, 3) := by decide +kernel
theorem dX8_keeps_106 : decode cX8_keeps 106 = .ok (.iload_n 2, 1) := by decide +kernel
theorem dX8_keeps_107 : decode cX8_keeps 107 = .ok (.iaload, 1) := by decide +kernel
theorem dX8_keeps_108 : decode cX8_keeps 108 = .ok (.iastore, 1) := by decide +kernel
theorem dX8_keeps_109 : decode cX8_keeps 109 = .ok (.aload_n 0, 1) := by decide +kernel
theorem dX8_keeps_110 : decode cX8_keeps 110 = .ok (.getfield 81, 3) := by decide +kernel
theorem dX8_keeps_113 : decode cX8_keeps 113 = .ok (.iload_n 3, 1) := by decide +kernel
theorem dX8_keeps_114 : decode cX8_keeps 114 = .ok (.sipush 960, 3) := by decide +kernel
theorem dX8_keeps_117 : decode cX8_keeps 117 = .ok (.iadd, 1) := by decide +kernel
theorem dX8_keeps_118 : decode cX8_keeps 118 = .ok (.aload_n 0, 1) := by decide +kernel
theorem dX8_keeps_119 : decode cX8_keeps 119 = .ok (.getfield 28, 3) := by decide +kernel
theorem dX8_keeps_122 : decode cX8_keeps 122 = .ok (.iload_n 2, 1) := by decide +kernel
theorem dX8_keeps_123 : decode cX8_keeps 123 = .ok (.iaload, 1) := by decide +kernel
theorem dX8_keeps_124 : decode cX8_keeps 124 = .ok (.iastore, 1) := by decide +kernel
theorem dX8_keeps_125 : decode cX8_keeps 125 = .ok (.iinc 2 1, 3) := by decide +kernel
theorem dX8_keeps_128 : decode cX8_keeps 128 = .ok (.goto (-126), 3) := by decide +kernel
theorem dX8_keeps_131 : decode cX8_keeps 131 = .ok (.iconst 0, 1) := by decide +kernel
theorem dX8_keeps_132 : decode cX8_keeps 132 = .ok (.istore_n 2, 1) := by decide +kernel
theorem dX8_keeps_133 : decode cX8_keeps 133 = .ok (.iload_n 2, 1) := by decide +kernel
theorem dX8_keeps_134 : decode cX8_keeps 134 = .ok (.iconst 5, 1) := by decide +kernel
theorem dX8_keeps_135 : decode cX8_keeps 135 = .ok (.if_icmp .ge 25, 3) := by decide +kernel
theorem dX8_keeps_138 : decode cX8_keeps 138 = .ok (.aload_n 0, 1) := by decide +kernel
theorem dX8_keeps_139 : decode cX8_keeps 139 = .ok (.getfield 84, 3) := by decide +kernel
theorem dX8_keeps_142 : decode cX8_keeps 142 = .ok (.iconst 5, 1) := by decide +kernel
theorem dX8_keeps_143 : decode cX8_keeps 143 = .ok (.iload_n 1, 1) := by decide +kernel
theorem dX8_keeps_144 : decode cX8_keeps 144 = .ok (.imul, 1) := by decide +kernel
theorem dX8_keeps_145 : decode cX8_keeps 145 = .ok (.iload_n 2, 1) := by decide +kernel
theorem dX8_keeps_146 : decode cX8_keeps 146 = .ok (.iadd, 1) := by decide +kernel
theorem dX8_keeps_147 : decode cX8_keeps 147 = .ok (.aload_n 0, 1) := by decide +kernel
theorem dX8_keeps_148 : decode cX8_keeps 148 = .ok (.getfield 31, 3) := by decide +kernel
theorem dX8_keeps_151 : decode cX8_keeps 151 = .ok (.iload_n 2, 1) := by decide +kernel
theorem dX8_keeps_152 : decode cX8_keeps 152 = .ok (.iaload, 1) := by decide +kernel
theorem dX8_keeps_153 : decode cX8_keeps 153 = .ok (.iastore, 1) := by decide +kernel
theorem dX8_keeps_154 : decode cX8_keeps 154 = .ok (.iinc 2 1, 3) := by decide +kernel
theorem dX8_keeps_157 : decode cX8_keeps 157 = .ok (.goto (-24), 3) := by decide +kernel
theorem dX8_keeps_160 : decode cX8_keeps 160 = .ok (.aload_n 0, 1) := by decide +kernel
theorem dX8_keeps_161 : decode cX8_keeps 161 = .ok (.getfield 87, 3) := by decide +kernel
theorem dX8_keeps_164 : decode cX8_keeps 164 = .ok (.bipush 8, 2) := by decide +kernel
theorem dX8_keeps_166 : decode cX8_keeps 166 = .ok (.iload_n 1, 1) := by decide +kernel
theorem dX8_keeps_167 : decode cX8_keeps 167 = .ok (.imul, 1) := by decide +kernel
theorem dX8_keeps_168 : decode cX8_keeps 168 = .ok (.aload_n 0, 1) := by decide +kernel
theorem dX8_keeps_169 : decode cX8_keeps 169 = .ok (.getfield 34, 3) := by decide +kernel
theorem dX8_keeps_172 : decode cX8_keeps 172 = .ok (.iastore, 1) := by decide +kernel
theorem dX8_keeps_173 : decode cX8_keeps 173 = .ok (.aload_n 0, 1) := by decide +kernel
theorem dX8_keeps_174 : decode cX8_keeps 174 = .ok (.getfield 87, 3) := by decide +kernel
theorem dX8_keeps_177 : decode cX8_keeps 177 = .ok (.bipush 8, 2) := by decide +kernel
theorem dX8_keeps_179 : decode cX8_keeps 179 = .ok (.iload_n 1, 1) := by decide +kernel
theorem dX8_keeps_180 : decode cX8_keeps 180 = .ok (.imul, 1) := by decide +kernel
theorem dX8_keeps_181 : decode cX8_keeps 181 = .ok (.iconst 1, 1) := by decide +kernel
theorem dX8_keeps_182 : decode cX8_keeps 182 = .ok (.iadd, 1) := by decide +kernel
theorem dX8_keeps_183 : decode cX8_keeps 183 = .ok (.aload_n 0, 1) := by decide +kernel
theorem dX8_keeps_184 : decode cX8_keeps 184 = .ok (.getfield 115, 3) := by decide +kernel
theorem dX8_keeps_187 : decode cX8_keeps 187 = .ok (.iastore, 1) := by decide +kernel
theorem dX8_keeps_188 : decode cX8_keeps 188 = .ok (.aload_n 0, 1) := by decide +kernel
theorem dX8_keeps_189 : decode cX8_keeps 189 = .ok (.getfield 87, 3) := by decide +kernel
theorem dX8_keeps_192 : decode cX8_keeps 192 = .ok (.bipush 8, 2) := by decide +kernel
theorem dX8_keeps_194 : decode cX8_keeps 194 = .ok (.iload_n 1, 1) := by decide +kernel
theorem dX8_keeps_195 : decode cX8_keeps 195 = .ok (.imul, 1) := by decide +kernel
theorem dX8_keeps_196 : decode cX8_keeps 196 = .ok (.iconst 2, 1) := by decide +kernel
theorem dX8_keeps_197 : decode cX8_keeps 197 = .ok (.iadd, 1) := by decide +kernel
theorem dX8_keeps_198 : decode cX8_keeps 198 = .ok (.aload_n 0, 1) := by decide +kernel
theorem dX8_keeps_199 : decode cX8_keeps 199 = .ok (.getfield 118, 3) := by decide +kernel
theorem dX8_keeps_202 : decode cX8_keeps 202 = .ok (.iastore, 1) := by decide +kernel
theorem dX8_keeps_203 : decode cX8_keeps 203 = .ok (.aload_n 0, 1) := by decide +kernel
theorem dX8_keeps_204 : decode cX8_keeps 204 = .ok (.getfield 87, 3) := by decide +kernel
theorem dX8_keeps_207 : decode cX8_keeps 207 = .ok (.bipush 8, 2) := by decide +kernel
theorem dX8_keeps_209 : decode cX8_keeps 209 = .ok (.iload_n 1, 1) := by decide +kernel
theorem dX8_keeps_210 : decode cX8_keeps 210 = .ok (.imul, 1) := by decide +kernel
theorem dX8_keeps_211 : decode cX8_keeps 211 = .ok (.iconst 3, 1) := by decide +kernel
theorem dX8_keeps_212 : decode cX8_keeps 212 = .ok (.iadd, 1) := by decide +kernel
theorem dX8_keeps_213 : decode cX8_keeps 213 = .ok (.aload_n 0, 1) := by decide +kernel
theorem dX8_keeps_214 : decode cX8_keeps 214 = .ok (.getfield 121, 3) := by decide +kernel
theorem dX8_keeps_217 : decode cX8_keeps 217 = .ok (.iastore, 1) := by decide +kernel
theorem dX8_keeps_218 : decode cX8_keeps 218 = .ok (.aload_n 0, 1) := by decide +kernel
theorem dX8_keeps_219 : decode cX8_keeps 219 = .ok (.getfield 87, 3) := by decide +kernel
theorem dX8_keeps_222 : decode cX8_keeps 222 = .ok (.bipush 8, 2) := by decide +kernel
theorem dX8_keeps_224 : decode cX8_keeps 224 = .ok (.iload_n 1, 1) := by decide +kernel
theorem dX8_keeps_225 : decode cX8_keeps 225 = .ok (.imul, 1) := by decide +kernel
theorem dX8_keeps_226 : decode cX8_keeps 226 = .ok (.iconst 4, 1) := by decide +kernel
theorem dX8_keeps_227 : decode cX8_keeps 227 = .ok (.iadd, 1) := by decide +kernel
theorem dX8_keeps_228 : decode cX8_keeps 228 = .ok (.aload_n 0, 1) := by decide +kernel
theorem dX8_keeps_229 : decode cX8_keeps 229 = .ok (.getfield 124, 3) := by decide +kernel
theorem dX8_keeps_232 : decode cX8_keeps 232 = .ok (.iastore, 1) := by decide +kernel
theorem dX8_keeps_233 : decode cX8_keeps 233 = .ok (.aload_n 0, 1) := by decide +kernel
theorem dX8_keeps_234 : decode cX8_keeps 234 = .ok (.getfield 87, 3) := by decide +kernel
theorem dX8_keeps_237 : decode cX8_keeps 237 = .ok (.bipush 8, 2) := by decide +kernel
theorem dX8_keeps_239 : decode cX8_keeps 239 = .ok (.iload_n 1, 1) := by decide +kernel
theorem dX8_keeps_240 : decode cX8_keeps 240 = .ok (.imul, 1) := by decide +kernel
theorem dX8_keeps_241 : decode cX8_keeps 241 = .ok (.iconst 5, 1) := by decide +kernel
theorem dX8_keeps_242 : decode cX8_keeps 242 = .ok (.iadd, 1) := by decide +kernel
theorem dX8_keeps_243 : decode cX8_keeps 243 = .ok (.aload_n 0, 1) := by decide +kernel
theorem dX8_keeps_244 : decode cX8_keeps 244 = .ok (.getfield 127, 3) := by decide +kernel
theorem dX8_keeps_247 : decode cX8_keeps 247 = .ok (.iastore, 1) := by decide +kernel
theorem dX8_keeps_248 : decode cX8_keeps 248 = .ok (.aload_n 0, 1) := by decide +kernel
theorem dX8_keeps_249 : decode cX8_keeps 249 = .ok (.getfield 87, 3) := by decide +kernel
theorem dX8_keeps_252 : decode cX8_keeps 252 = .ok (.bipush 8, 2) := by decide +kernel
theorem dX8_keeps_254 : decode cX8_keeps 254 = .ok (.iload_n 1, 1) := by decide +kernel
theorem dX8_keeps_255 : decode cX8_keeps 255 = .ok (.imul, 1) := by decide +kernel
theorem dX8_keeps_256 : decode cX8_keeps 256 = .ok (.bipush 6, 2) := by decide +kernel
theorem dX8_keeps_258 : decode cX8_keeps 258 = .ok (.iadd, 1) := by decide +kernel
theorem dX8_keeps_259 : decode cX8_keeps 259 = .ok (.aload_n 0, 1) := by decide +kernel
theorem dX8_keeps_260 : decode cX8_keeps 260 = .ok (.getfield 130, 3) := by decide +kernel
theorem dX8_keeps_263 : decode cX8_keeps 263 = .ok (.iastore, 1) := by decide +kernel
theorem dX8_keeps_264 : decode cX8_keeps 264 = .ok (.aload_n 0, 1) := by decide +kernel
theorem dX8_keeps_265 : decode cX8_keeps 265 = .ok (.getfield 87, 3) := by decide +kernel
theorem dX8_keeps_268 : decode cX8_keeps 268 = .ok (.bipush 8, 2) := by decide +kernel
theorem dX8_keeps_270 : decode cX8_keeps 270 = .ok (.iload_n 1, 1) := by decide +kernel
theorem dX8_keeps_271 : decode cX8_keeps 271 = .ok (.imul, 1) := by decide +kernel
theorem dX8_keeps_272 : decode cX8_keeps 272 = .ok (.bipush 7, 2) := by decide +kernel
theorem dX8_keeps_274 : decode cX8_keeps 274 = .ok (.iadd, 1) := by decide +kernel
theorem dX8_keeps_275 : decode cX8_keeps 275 = .ok (.aload_n 0, 1) := by decide +kernel
theorem dX8_keeps_276 : decode cX8_keeps 276 = .ok (.getfield 133, 3) := by decide +kernel
theorem dX8_keeps_279 : decode cX8_keeps 279 = .ok (.iastore, 1) := by decide +kernel
theorem dX8_keeps_280 : decode cX8_keeps 280 = .ok (.iconst 0, 1) := by decide +kernel
theorem dX8_keeps_281 : decode cX8_keeps 281 = .ok (.istore_n 2, 1) := by decide +kernel
theorem dX8_keeps_282 : decode cX8_keeps 282 = .ok (.iload_n 2, 1) := by decide +kernel
theorem dX8_keeps_283 : decode cX8_keeps 283 = .ok (.bipush 20, 2) := by decide +kernel
theorem dX8_keeps_285 : decode cX8_keeps 285 = .ok (.if_icmp .ge 46, 3) := by decide +kernel
theorem dX8_keeps_288 : decode cX8_keeps 288 = .ok (.aload_n 0, 1) := by decide +kernel
theorem dX8_keeps_289 : decode cX8_keeps 289 = .ok (.getfield 90, 3) := by decide +kernel
theorem dX8_keeps_292 : decode cX8_keeps 292 = .ok (.bipush 40, 2) := by decide +kernel
theorem dX8_keeps_294 : decode cX8_keeps 294 = .ok (.iload_n 1, 1) := by decide +kernel
theorem dX8_keeps_295 : decode cX8_keeps 295 = .ok (.imul, 1) := by decide +kernel
theorem dX8_keeps_296 : decode cX8_keeps 296 = .ok (.iload_n 2, 1) := by decide +kernel
theorem dX8_keeps_297 : decode cX8_keeps 297 = .ok (.iadd, 1) := by decide +kernel
theorem dX8_keeps_298 : decode cX8_keeps 298 = .ok (.aload_n 0, 1) := by decide +kernel
theorem dX8_keeps_299 : decode cX8_keeps 299 = .ok (.getfield 38, 3) := by decide +kernel
theorem dX8_keeps_302 : decode cX8_keeps 302 = .ok (.iload_n 2, 1) := by decide +kernel
theorem dX8_keeps_303 : decode cX8_keeps 303 = .ok (.iaload, 1) := by decide +kernel
theorem dX8_keeps_304 : decode cX8_keeps 304 = .ok (.iastore, 1) := by decide +kernel
theorem dX8_keeps_305 : decode cX8_keeps 305 = .ok (.aload_n 0, 1) := by decide +kernel
theorem dX8_keeps_306 : decode cX8_keeps 306 = .ok (.getfield 90, 3) := by decide +kernel
theorem dX8_keeps_309 : decode cX8_keeps 309 = .ok (.bipush 40, 2) := by decide +kernel
theorem dX8_keeps_311 : decode cX8_keeps 311 = .ok (.iload_n 1, 1) := by decide +kernel
theorem dX8_keeps_312 : decode cX8_keeps 312 = .ok (.imul, 1) := by decide +kernel
theorem dX8_keeps_313 : decode cX8_keeps 313 = .ok (.bipush 20, 2) := by decide +kernel
theorem dX8_keeps_315 : decode cX8_keeps 315 = .ok (.iadd, 1) := by decide +kernel
theorem dX8_keeps_316 : decode cX8_keeps 316 = .ok (.iload_n 2, 1) := by decide +kernel
theorem dX8_keeps_317 : decode cX8_keeps 317 = .ok (.iadd, 1) := by decide +kernel
theorem dX8_keeps_318 : decode cX8_keeps 318 = .ok (.aload_n 0, 1) := by decide +kernel
theorem dX8_keeps_319 : decode cX8_keeps 319 = .ok (.getfield 41, 3) := by decide +kernel
theorem dX8_keeps_322 : decode cX8_keeps 322 = .ok (.iload_n 2, 1) := by decide +kernel
theorem dX8_keeps_323 : decode cX8_keeps 323 = .ok (.iaload, 1) := by decide +kernel
theorem dX8_keeps_324 : decode cX8_keeps 324 = .ok (.iastore, 1) := by decide +kernel
theorem dX8_keeps_325 : decode cX8_keeps 325 = .ok (.iinc 2 1, 3) := by decide +kernel
theorem dX8_keeps_328 : decode cX8_keeps 328 = .ok (.goto (-46), 3) := by decide +kernel
theorem dX8_keeps_331 : decode cX8_keeps 331 = .ok (.return_, 1) := by decide +kernel
theorem dX8_comesBack_0 : decode cX8_comesBack 0 = .ok (.iconst 0, 1) := by decide +kernel
theorem dX8_comesBack_1 : decode cX8_comesBack 1 = .ok (.istore_n 2, 1) := by decide +kernel
theorem dX8_comesBack_2 : decode cX8_comesBack 2 = .ok (.iload_n 2, 1) := by decide +kernel
theorem dX8_comesBack_3 : decode cX8_comesBack 3 = .ok (.sipush 160, 3) := by decide +kernel
theorem dX8_comesBack_6 : decode cX8_comesBack 6 = .ok (.if_icmp .ge 125, 3) := by decide +kernel
theorem dX8_comesBack_9 : decode cX8_comesBack 9 = .ok (.sipush 1120, 3) := by decide +kernel
theorem dX8_comesBack_12 : decode cX8_comesBack 12 = .ok (.iload_n 1, 1) := by decide +kernel
theorem dX8_comesBack_13 : decode cX8_comesBack 13 = .ok (.imul, 1) := by decide +kernel
theorem dX8_comesBack_14 : decode cX8_comesBack 14 = .ok (.iload_n 2, 1) := by decide +kernel
theorem dX8_comesBack_15 : decode cX8_comesBack 15 = .ok (.iadd, 1) := by decide +kernel
theorem dX8_comesBack_16 : decode cX8_comesBack 16 = .ok (.istore_n 3, 1) := by decide +kernel
theorem dX8_comesBack_17 : decode cX8_comesBack 17 = .ok (.aload_n 0, 1) := by decide +kernel
theorem dX8_comesBack_18 : decode cX8_comesBack 18 = .ok (.getfield 7, 3) := by decide +kernel
theorem dX8_comesBack_21 : decode cX8_comesBack 21 = .ok (.iload_n 2, 1) := by decide +kernel
theorem dX8_comesBack_22 : decode cX8_comesBack 22 = .ok (.aload_n 0, 1) := by decide +kernel
theorem dX8_comesBack_23 : decode cX8_comesBack 23 = .ok (.getfield 81, 3) := by decide +kernel
theorem dX8_comesBack_26 : decode cX8_comesBack 26 = .ok (.iload_n 3, 1) := by decide +kernel
theorem dX8_comesBack_27 : decode cX8_comesBack 27 = .ok (.iaload, 1) := by decide +kernel
theorem dX8_comesBack_28 : decode cX8_comesBack 28 = .ok (.iastore, 1) := by decide +kernel
theorem dX8_comesBack_29 : decode cX8_comesBack 29 = .ok (.aload_n 0, 1) := by decide +kernel
theorem dX8_comesBack_30 : decode cX8_comesBack 30 = .ok (.getfield 13, 3) := by decide +kernel
theorem dX8_comesBack_33 : decode cX8_comesBack 33 = .ok (.iload_n 2, 1) := by decide +kernel
theorem dX8_comesBack_34 : decode cX8_comesBack 34 = .ok (.aload_n 0, 1) := by decide +kernel
theorem dX8_comesBack_35 : decode cX8_comesBack 35 = .ok (.getfield 81, 3) := by decide +kernel
theorem dX8_comesBack_38 : decode cX8_comesBack 38 = .ok (.iload_n 3, 1) := by decide +kernel
theorem dX8_comesBack_39 : decode cX8_comesBack 39 = .ok (.sipush 160, 3) := by decide +kernel
theorem dX8_comesBack_42 : decode cX8_comesBack 42 = .ok (.iadd, 1) := by decide +kernel
theorem dX8_comesBack_43 : decode cX8_comesBack 43 = .ok (.iaload, 1) := by decide +kernel
theorem dX8_comesBack_44 : decode cX8_comesBack 44 = .ok (.iastore, 1) := by decide +kernel
theorem dX8_comesBack_45 : decode cX8_comesBack 45 = .ok (.aload_n 0, 1) := by decide +kernel
theorem dX8_comesBack_46 : decode cX8_comesBack 46 = .ok (.getfield 16, 3) := by decide +kernel
theorem dX8_comesBack_49 : decode cX8_comesBack 49 = .ok (.iload_n 2, 1) := by decide +kernel
theorem dX8_comesBack_50 : decode cX8_comesBack 50 = .ok (.aload_n 0, 1) := by decide +kernel
theorem dX8_comesBack_51 : decode cX8_comesBack 51 = .ok (.getfield 81, 3) := by decide +kernel
theorem dX8_comesBack_54 : decode cX8_comesBack 54 = .ok (.iload_n 3, 1) := by decide +kernel
theorem dX8_comesBack_55 : decode cX8_comesBack 55 = .ok (.sipush 320, 3) := by decide +kernel
theorem dX8_comesBack_58 : decode cX8_comesBack 58 = .ok (.iadd, 1) := by decide +kernel
theorem dX8_comesBack_59 : decode cX8_comesBack 59 = .ok (.iaload, 1) := by decide +kernel
theorem dX8_comesBack_60 : decode cX8_comesBack 60 = .ok (.iastore, 1) := by decide +kernel
theorem dX8_comesBack_61 : decode cX8_comesBack 61 = .ok (.aload_n 0, 1) := by decide +kernel
theorem dX8_comesBack_62 : decode cX8_comesBack 62 = .ok (.getfield 19, 3) := by decide +kernel
theorem dX8_comesBack_65 : decode cX8_comesBack 65 = .ok (.iload_n 2, 1) := by decide +kernel
theorem dX8_comesBack_66 : decode cX8_comesBack 66 = .ok (.aload_n 0, 1) := by decide +kernel
theorem dX8_comesBack_67 : decode cX8_comesBack 67 = .ok (.getfield 81, 3) := by decide +kernel
theorem dX8_comesBack_70 : decode cX8_comesBack 70 = .ok (.iload_n 3, 1) := by decide +kernel
theorem dX8_comesBack_71 : decode cX8_comesBack 71 = .ok (.sipush 480, 3) := by decide +kernel
theorem dX8_comesBack_74 : decode cX8_comesBack 74 = .ok (.iadd, 1) := by decide +kernel
theorem dX8_comesBack_75 : decode cX8_comesBack 75 = .ok (.iaload, 1) := by decide +kernel
theorem dX8_comesBack_76 : decode cX8_comesBack 76 = .ok (.iastore, 1) := by decide +kernel
theorem dX8_comesBack_77 : decode cX8_comesBack 77 = .ok (.aload_n 0, 1) := by decide +kernel
theorem dX8_comesBack_78 : decode cX8_comesBack 78 = .ok (.getfield 22, 3) := by decide +kernel
theorem dX8_comesBack_81 : decode cX8_comesBack 81 = .ok (.iload_n 2, 1) := by decide +kernel
theorem dX8_comesBack_82 : decode cX8_comesBack 82 = .ok (.aload_n 0, 1) := by decide +kernel
theorem dX8_comesBack_83 : decode cX8_comesBack 83 = .ok (.getfield 81, 3) := by decide +kernel
theorem dX8_comesBack_86 : decode cX8_comesBack 86 = .ok (.iload_n 3, 1) := by decide +kernel
theorem dX8_comesBack_87 : decode cX8_comesBack 87 = .ok (.sipush 640, 3) := by decide +kernel
theorem dX8_comesBack_90 : decode cX8_comesBack 90 = .ok (.iadd, 1) := by decide +kernel
theorem dX8_comesBack_91 : decode cX8_comesBack 91 = .ok (.iaload, 1) := by decide +kernel
theorem dX8_comesBack_92 : decode cX8_comesBack 92 = .ok (.iastore, 1) := by decide +kernel
theorem dX8_comesBack_93 : decode cX8_comesBack 93 = .ok (.aload_n 0, 1) := by decide +kernel
theorem dX8_comesBack_94 : decode cX8_comesBack 94 = .ok (.getfield 25, 3) := by decide +kernel
theorem dX8_comesBack_97 : decode cX8_comesBack 97 = .ok (.iload_n 2, 1) := by decide +kernel
theorem dX8_comesBack_98 : decode cX8_comesBack 98 = .ok (.aload_n 0, 1) := by decide +kernel
theorem dX8_comesBack_99 : decode cX8_comesBack 99 = .ok (.getfield 81, 3) := by decide +kernel
theorem dX8_comesBack_102 : decode cX8_comesBack 102 = .ok (.iload_n 3, 1) := by decide +kernel
theorem dX8_comesBack_103 : decode cX8_comesBack 103 = .ok (.sipush 800, 3) := by decide +kernel
theorem dX8_comesBack_106 : decode cX8_comesBack 106 = .ok (.iadd, 1) := by decide +kernel
theorem dX8_comesBack_107 : decode cX8_comesBack 107 = .ok (.iaload, 1) := by decide +kernel
theorem dX8_comesBack_108 : decode cX8_comesBack 108 = .ok (.iastore, 1) := by decide +kernel
theorem dX8_comesBack_109 : decode cX8_comesBack 109 = .ok (.aload_n 0, 1) := by decide +kernel
theorem dX8_comesBack_110 : decode cX8_comesBack 110 = .ok (.getfield 28, 3) := by decide +kernel
theorem dX8_comesBack_113 : decode cX8_comesBack 113 = .ok (.iload_n 2, 1) := by decide +kernel
theorem dX8_comesBack_114 : decode cX8_comesBack 114 = .ok (.aload_n 0, 1) := by decide +kernel
theorem dX8_comesBack_115 : decode cX8_comesBack 115 = .ok (.getfield 81, 3) := by decide +kernel
theorem dX8_comesBack_118 : decode cX8_comesBack 118 = .ok (.iload_n 3, 1) := by decide +kernel
theorem dX8_comesBack_119 : decode cX8_comesBack 119 = .ok (.sipush 960, 3) := by decide +kernel
theorem dX8_comesBack_122 : decode cX8_comesBack 122 = .ok (.iadd, 1) := by decide +kernel
theorem dX8_comesBack_123 : decode cX8_comesBack 123 = .ok (.iaload, 1) := by decide +kernel
theorem dX8_comesBack_124 : decode cX8_comesBack 124 = .ok (.iastore, 1) := by decide +kernel
theorem dX8_comesBack_125 : decode cX8_comesBack 125 = .ok (.iinc 2 1, 3) := by decide +kernel
theorem dX8_comesBack_128 : decode cX8_comesBack 128 = .ok (.goto (-126), 3) := by decide +kernel
theorem dX8_comesBack_131 : decode cX8_comesBack 131 = .ok (.iconst 0, 1) := by decide +kernel
theorem dX8_comesBack_132 : decode cX8_comesBack 132 = .ok (.istore_n 2, 1) := by decide +kernel
theorem dX8_comesBack_133 : decode cX8_comesBack 133 = .ok (.iload_n 2, 1) := by decide +kernel
theorem dX8_comesBack_134 : decode cX8_comesBack 134 = .ok (.iconst 5, 1) := by decide +kernel
theorem dX8_comesBack_135 : decode cX8_comesBack 135 = .ok (.if_icmp .ge 25, 3) := by decide +kernel
theorem dX8_comesBack_138 : decode cX8_comesBack 138 = .ok (.aload_n 0, 1) := by decide +kernel
theorem dX8_comesBack_139 : decode cX8_comesBack 139 = .ok (.getfield 31, 3) := by decide +kernel
theorem dX8_comesBack_142 : decode cX8_comesBack 142 = .ok (.iload_n 2, 1) := by decide +kernel
theorem dX8_comesBack_143 : decode cX8_comesBack 143 = .ok (.aload_n 0, 1) := by decide +kernel
theorem dX8_comesBack_144 : decode cX8_comesBack 144 = .ok (.getfield 84, 3) := by decide +kernel
theorem dX8_comesBack_147 : decode cX8_comesBack 147 = .ok (.iconst 5, 1) := by decide +kernel
theorem dX8_comesBack_148 : decode cX8_comesBack 148 = .ok (.iload_n 1, 1) := by decide +kernel
theorem dX8_comesBack_149 : decode cX8_comesBack 149 = .ok (.imul, 1) := by decide +kernel
theorem dX8_comesBack_150 : decode cX8_comesBack 150 = .ok (.iload_n 2, 1) := by decide +kernel
theorem dX8_comesBack_151 : decode cX8_comesBack 151 = .ok (.iadd, 1) := by decide +kernel
theorem dX8_comesBack_152 : decode cX8_comesBack 152 = .ok (.iaload, 1) := by decide +kernel
theorem dX8_comesBack_153 : decode cX8_comesBack 153 = .ok (.iastore, 1) := by decide +kernel
theorem dX8_comesBack_154 : decode cX8_comesBack 154 = .ok (.iinc 2 1, 3) := by decide +kernel
theorem dX8_comesBack_157 : decode cX8_comesBack 157 = .ok (.goto (-24), 3) := by decide +kernel
theorem dX8_comesBack_160 : decode cX8_comesBack 160 = .ok (.aload_n 0, 1) := by decide +kernel
theorem dX8_comesBack_161 : decode cX8_comesBack 161 = .ok (.aload_n 0, 1) := by decide +kernel
theorem dX8_comesBack_162 : decode cX8_comesBack 162 = .ok (.getfield 87, 3) := by decide +kernel
theorem dX8_comesBack_165 : decode cX8_comesBack 165 = .ok (.bipush 8, 2) := by decide +kernel
theorem dX8_comesBack_167 : decode cX8_comesBack 167 = .ok (.iload_n 1, 1) := by decide +kernel
theorem dX8_comesBack_168 : decode cX8_comesBack 168 = .ok (.imul, 1) := by decide +kernel
theorem dX8_comesBack_169 : decode cX8_comesBack 169 = .ok (.iaload, 1) := by decide +kernel
theorem dX8_comesBack_170 : decode cX8_comesBack 170 = .ok (.putfield 34, 3) := by decide +kernel
theorem dX8_comesBack_173 : decode cX8_comesBack 173 = .ok (.aload_n 0, 1) := by decide +kernel
theorem dX8_comesBack_174 : decode cX8_comesBack 174 = .ok (.aload_n 0, 1) := by decide +kernel
theorem dX8_comesBack_175 : decode cX8_comesBack 175 = .ok (.getfield 87, 3) := by decide +kernel
theorem dX8_comesBack_178 : decode cX8_comesBack 178 = .ok (.bipush 8, 2) := by decide +kernel
theorem dX8_comesBack_180 : decode cX8_comesBack 180 = .ok (.iload_n 1, 1) := by decide +kernel
theorem dX8_comesBack_181 : decode cX8_comesBack 181 = .ok (.imul, 1) := by decide +kernel
theorem dX8_comesBack_182 : decode cX8_comesBack 182 = .ok (.iconst 1, 1) := by decide +kernel
theorem dX8_comesBack_183 : decode cX8_comesBack 183 = .ok (.iadd, 1) := by decide +kernel
theorem dX8_comesBack_184 : decode cX8_comesBack 184 = .ok (.iaload, 1) := by decide +kernel
theorem dX8_comesBack_185 : decode cX8_comesBack 185 = .ok (.putfield 115, 3) := by decide +kernel
theorem dX8_comesBack_188 : decode cX8_comesBack 188 = .ok (.aload_n 0, 1) := by decide +kernel
theorem dX8_comesBack_189 : decode cX8_comesBack 189 = .ok (.aload_n 0, 1) := by decide +kernel
theorem dX8_comesBack_190 : decode cX8_comesBack 190 = .ok (.getfield 87, 3) := by decide +kernel
theorem dX8_comesBack_193 : decode cX8_comesBack 193 = .ok (.bipush 8, 2) := by decide +kernel
theorem dX8_comesBack_195 : decode cX8_comesBack 195 = .ok (.iload_n 1, 1) := by decide +kernel
theorem dX8_comesBack_196 : decode cX8_comesBack 196 = .ok (.imul, 1) := by decide +kernel
theorem dX8_comesBack_197 : decode cX8_comesBack 197 = .ok (.iconst 2, 1) := by decide +kernel
theorem dX8_comesBack_198 : decode cX8_comesBack 198 = .ok (.iadd, 1) := by decide +kernel
theorem dX8_comesBack_199 : decode cX8_comesBack 199 = .ok (.iaload, 1) := by decide +kernel
theorem dX8_comesBack_200 : decode cX8_comesBack 200 = .ok (.putfield 118, 3) := by decide +kernel
theorem dX8_comesBack_203 : decode cX8_comesBack 203 = .ok (.aload_n 0, 1) := by decide +kernel
theorem dX8_comesBack_204 : decode cX8_comesBack 204 = .ok (.aload_n 0, 1) := by decide +kernel
theorem dX8_comesBack_205 : decode cX8_comesBack 205 = .ok (.getfield 87, 3) := by decide +kernel
theorem dX8_comesBack_208 : decode cX8_comesBack 208 = .ok (.bipush 8, 2) := by decide +kernel
theorem dX8_comesBack_210 : decode cX8_comesBack 210 = .ok (.iload_n 1, 1) := by decide +kernel
theorem dX8_comesBack_211 : decode cX8_comesBack 211 = .ok (.imul, 1) := by decide +kernel
theorem dX8_comesBack_212 : decode cX8_comesBack 212 = .ok (.iconst 3, 1) := by decide +kernel
theorem dX8_comesBack_213 : decode cX8_comesBack 213 = .ok (.iadd, 1) := by decide +kernel
theorem dX8_comesBack_214 : decode cX8_comesBack 214 = .ok (.iaload, 1) := by decide +kernel
theorem dX8_comesBack_215 : decode cX8_comesBack 215 = .ok (.putfield 121, 3) := by decide +kernel
theorem dX8_comesBack_218 : decode cX8_comesBack 218 = .ok (.aload_n 0, 1) := by decide +kernel
theorem dX8_comesBack_219 : decode cX8_comesBack 219 = .ok (.aload_n 0, 1) := by decide +kernel
theorem dX8_comesBack_220 : decode cX8_comesBack 220 = .ok (.getfield 87, 3) := by decide +kernel
theorem dX8_comesBack_223 : decode cX8_comesBack 223 = .ok (.bipush 8, 2) := by decide +kernel
theorem dX8_comesBack_225 : decode cX8_comesBack 225 = .ok (.iload_n 1, 1) := by decide +kernel
theorem dX8_comesBack_226 : decode cX8_comesBack 226 = .ok (.imul, 1) := by decide +kernel
theorem dX8_comesBack_227 : decode cX8_comesBack 227 = .ok (.iconst 4, 1) := by decide +kernel
theorem dX8_comesBack_228 : decode cX8_comesBack 228 = .ok (.iadd, 1) := by decide +kernel
theorem dX8_comesBack_229 : decode cX8_comesBack 229 = .ok (.iaload, 1) := by decide +kernel
theorem dX8_comesBack_230 : decode cX8_comesBack 230 = .ok (.putfield 124, 3) := by decide +kernel
theorem dX8_comesBack_233 : decode cX8_comesBack 233 = .ok (.aload_n 0, 1) := by decide +kernel
theorem dX8_comesBack_234 : decode cX8_comesBack 234 = .ok (.aload_n 0, 1) := by decide +kernel
theorem dX8_comesBack_235 : decode cX8_comesBack 235 = .ok (.getfield 87, 3) := by decide +kernel
theorem dX8_comesBack_238 : decode cX8_comesBack 238 = .ok (.bipush 8, 2) := by decide +kernel
theorem dX8_comesBack_240 : decode cX8_comesBack 240 = .ok (.iload_n 1, 1) := by decide +kernel
theorem dX8_comesBack_241 : decode cX8_comesBack 241 = .ok (.imul, 1) := by decide +kernel
theorem dX8_comesBack_242 : decode cX8_comesBack 242 = .ok (.iconst 5, 1) := by decide +kernel
theorem dX8_comesBack_243 : decode cX8_comesBack 243 = .ok (.iadd, 1) := by decide +kernel
theorem dX8_comesBack_244 : decode cX8_comesBack 244 = .ok (.iaload, 1) := by decide +kernel
theorem dX8_comesBack_245 : decode cX8_comesBack 245 = .ok (.putfield 127, 3) := by decide +kernel
theorem dX8_comesBack_248 : decode cX8_comesBack 248 = .ok (.aload_n 0, 1) := by decide +kernel
theorem dX8_comesBack_249 : decode cX8_comesBack 249 = .ok (.aload_n 0, 1) := by decide +kernel
theorem dX8_comesBack_250 : decode cX8_comesBack 250 = .ok (.getfield 87, 3) := by decide +kernel
theorem dX8_comesBack_253 : decode cX8_comesBack 253 = .ok (.bipush 8, 2) := by decide +kernel
theorem dX8_comesBack_255 : decode cX8_comesBack 255 = .ok (.iload_n 1, 1) := by decide +kernel
theorem dX8_comesBack_256 : decode cX8_comesBack 256 = .ok (.imul, 1) := by decide +kernel
theorem dX8_comesBack_257 : decode cX8_comesBack 257 = .ok (.bipush 6, 2) := by decide +kernel
theorem dX8_comesBack_259 : decode cX8_comesBack 259 = .ok (.iadd, 1) := by decide +kernel
theorem dX8_comesBack_260 : decode cX8_comesBack 260 = .ok (.iaload, 1) := by decide +kernel
theorem dX8_comesBack_261 : decode cX8_comesBack 261 = .ok (.putfield 130, 3) := by decide +kernel
theorem dX8_comesBack_264 : decode cX8_comesBack 264 = .ok (.aload_n 0, 1) := by decide +kernel
theorem dX8_comesBack_265 : decode cX8_comesBack 265 = .ok (.aload_n 0, 1) := by decide +kernel
theorem dX8_comesBack_266 : decode cX8_comesBack 266 = .ok (.getfield 87, 3) := by decide +kernel
theorem dX8_comesBack_269 : decode cX8_comesBack 269 = .ok (.bipush 8, 2) := by decide +kernel
theorem dX8_comesBack_271 : decode cX8_comesBack 271 = .ok (.iload_n 1, 1) := by decide +kernel
theorem dX8_comesBack_272 : decode cX8_comesBack 272 = .ok (.imul, 1) := by decide +kernel
theorem dX8_comesBack_273 : decode cX8_comesBack 273 = .ok (.bipush 7, 2) := by decide +kernel
theorem dX8_comesBack_275 : decode cX8_comesBack 275 = .ok (.iadd, 1) := by decide +kernel
theorem dX8_comesBack_276 : decode cX8_comesBack 276 = .ok (.iaload, 1) := by decide +kernel
theorem dX8_comesBack_277 : decode cX8_comesBack 277 = .ok (.putfield 133, 3) := by decide +kernel
theorem dX8_comesBack_280 : decode cX8_comesBack 280 = .ok (.iconst 0, 1) := by decide +kernel
theorem dX8_comesBack_281 : decode cX8_comesBack 281 = .ok (.istore_n 2, 1) := by decide +kernel
theorem dX8_comesBack_282 : decode cX8_comesBack 282 = .ok (.iload_n 2, 1) := by decide +kernel
theorem dX8_comesBack_283 : decode cX8_comesBack 283 = .ok (.bipush 20, 2) := by decide +kernel
theorem dX8_comesBack_285 : decode cX8_comesBack 285 = .ok (.if_icmp .ge 46, 3) := by decide +kernel
theorem dX8_comesBack_288 : decode cX8_comesBack 288 = .ok (.aload_n 0, 1) := by decide +kernel
theorem dX8_comesBack_289 : decode cX8_comesBack 289 = .ok (.getfield 38, 3) := by decide +kernel
theorem dX8_comesBack_292 : decode cX8_comesBack 292 = .ok (.iload_n 2, 1) := by decide +kernel
theorem dX8_comesBack_293 : decode cX8_comesBack 293 = .ok (.aload_n 0, 1) := by decide +kernel
theorem dX8_comesBack_294 : decode cX8_comesBack 294 = .ok (.getfield 90, 3) := by decide +kernel
theorem dX8_comesBack_297 : decode cX8_comesBack 297 = .ok (.bipush 40, 2) := by decide +kernel
theorem dX8_comesBack_299 : decode cX8_comesBack 299 = .ok (.iload_n 1, 1) := by decide +kernel
theorem dX8_comesBack_300 : decode cX8_comesBack 300 = .ok (.imul, 1) := by decide +kernel
theorem dX8_comesBack_301 : decode cX8_comesBack 301 = .ok (.iload_n 2, 1) := by decide +kernel
theorem dX8_comesBack_302 : decode cX8_comesBack 302 = .ok (.iadd, 1) := by decide +kernel
theorem dX8_comesBack_303 : decode cX8_comesBack 303 = .ok (.iaload, 1) := by decide +kernel
theorem dX8_comesBack_304 : decode cX8_comesBack 304 = .ok (.iastore, 1) := by decide +kernel
theorem dX8_comesBack_305 : decode cX8_comesBack 305 = .ok (.aload_n 0, 1) := by decide +kernel
theorem dX8_comesBack_306 : decode cX8_comesBack 306 = .ok (.getfield 41, 3) := by decide +kernel
theorem dX8_comesBack_309 : decode cX8_comesBack 309 = .ok (.iload_n 2, 1) := by decide +kernel
theorem dX8_comesBack_310 : decode cX8_comesBack 310 = .ok (.aload_n 0, 1) := by decide +kernel
theorem dX8_comesBack_311 : decode cX8_comesBack 311 = .ok (.getfield 90, 3) := by decide +kernel
theorem dX8_comesBack_314 : decode cX8_comesBack 314 = .ok (.bipush 40, 2) := by decide +kernel
theorem dX8_comesBack_316 : decode cX8_comesBack 316 = .ok (.iload_n 1, 1) := by decide +kernel
theorem dX8_comesBack_317 : decode cX8_comesBack 317 = .ok (.imul, 1) := by decide +kernel
theorem dX8_comesBack_318 : decode cX8_comesBack 318 = .ok (.bipush 20, 2) := by decide +kernel
theorem dX8_comesBack_320 : decode cX8_comesBack 320 = .ok (.iadd, 1) := by decide +kernel
theorem dX8_comesBack_321 : decode cX8_comesBack 321 = .ok (.iload_n 2, 1) := by decide +kernel
theorem dX8_comesBack_322 : decode cX8_comesBack 322 = .ok (.iadd, 1) := by decide +kernel
theorem dX8_comesBack_323 : decode cX8_comesBack 323 = .ok (.iaload, 1) := by decide +kernel
theorem dX8_comesBack_324 : decode cX8_comesBack 324 = .ok (.iastore, 1) := by decide +kernel
theorem dX8_comesBack_325 : decode cX8_comesBack 325 = .ok (.iinc 2 1, 3) := by decide +kernel
theorem dX8_comesBack_328 : decode cX8_comesBack 328 = .ok (.goto (-46), 3) := by decide +kernel
theorem dX8_comesBack_331 : decode cX8_comesBack 331 = .ok (.return_, 1) := by decide +kernel
theorem dX8_near_0 : decode cX8_near 0 = .ok (.iload_n 1, 1) := by decide +kernel
theorem dX8_near_1 : decode cX8_near 1 = .ok (.aload_n 0, 1) := by decide +kernel
theorem dX8_near_2 : decode cX8_near 2 = .ok (.getfield 97, 3) := by decide +kernel
theorem dX8_near_5 : decode cX8_near 5 = .ok (.irem, 1) := by decide +kernel
theorem dX8_near_6 : decode cX8_near 6 = .ok (.istore_n 3, 1) := by decide +kernel
theorem dX8_near_7 : decode cX8_near 7 = .ok (.iload_n 1, 1) := by decide +kernel
theorem dX8_near_8 : decode cX8_near 8 = .ok (.aload_n 0, 1) := by decide +kernel
theorem dX8_near_9 : decode cX8_near 9 = .ok (.getfield 97, 3) := by decide +kernel
theorem dX8_near_12 : decode cX8_near 12 = .ok (.idiv, 1) := by decide +kernel
theorem dX8_near_13 : decode cX8_near 13 = .ok (.istore 4, 2) := by decide +kernel
theorem dX8_near_15 : decode cX8_near 15 = .ok (.iload_n 2, 1) := by decide +kernel
theorem dX8_near_16 : decode cX8_near 16 = .ok (.tableswitch 75 0 2 #[28, 46, 58], 28) := by decide +kernel
theorem dX8_near_44 : decode cX8_near 44 = .ok (.iload_n 3, 1) := by decide +kernel
theorem dX8_near_45 : decode cX8_near 45 = .ok (.iconst 1, 1) := by decide +kernel
theorem dX8_near_46 : decode cX8_near 46 = .ok (.iadd, 1) := by decide +kernel
theorem dX8_near_47 : decode cX8_near 47 = .ok (.aload_n 0, 1) := by decide +kernel
theorem dX8_near_48 : decode cX8_near 48 = .ok (.getfield 97, 3) := by decide +kernel
theorem dX8_near_51 : decode cX8_near 51 = .ok (.if_icmp .ge 9, 3) := by decide +kernel
theorem dX8_near_54 : decode cX8_near 54 = .ok (.iload_n 1, 1) := by decide +kernel
theorem dX8_near_55 : decode cX8_near 55 = .ok (.iconst 1, 1) := by decide +kernel
theorem dX8_near_56 : decode cX8_near 56 = .ok (.iadd, 1) := by decide +kernel
theorem dX8_near_57 : decode cX8_near 57 = .ok (.goto 4, 3) := by decide +kernel
theorem dX8_near_60 : decode cX8_near 60 = .ok (.iconst (-1), 1) := by decide +kernel
theorem dX8_near_61 : decode cX8_near 61 = .ok (.ireturn, 1) := by decide +kernel
theorem dX8_near_62 : decode cX8_near 62 = .ok (.iload_n 3, 1) := by decide +kernel
theorem dX8_near_63 : decode cX8_near 63 = .ok (.ifCond .le 9, 3) := by decide +kernel
theorem dX8_near_66 : decode cX8_near 66 = .ok (.iload_n 1, 1) := by decide +kernel
theorem dX8_near_67 : decode cX8_near 67 = .ok (.iconst 1, 1) := by decide +kernel
theorem dX8_near_68 : decode cX8_near 68 = .ok (.isub, 1) := by decide +kernel
theorem dX8_near_69 : decode cX8_near 69 = .ok (.goto 4, 3) := by decide +kernel
theorem dX8_near_72 : decode cX8_near 72 = .ok (.iconst (-1), 1) := by decide +kernel
theorem dX8_near_73 : decode cX8_near 73 = .ok (.ireturn, 1) := by decide +kernel
theorem dX8_near_74 : decode cX8_near 74 = .ok (.iload 4, 2) := by decide +kernel
theorem dX8_near_76 : decode cX8_near 76 = .ok (.iconst 1, 1) := by decide +kernel
theorem dX8_near_77 : decode cX8_near 77 = .ok (.iadd, 1) := by decide +kernel
theorem dX8_near_78 : decode cX8_near 78 = .ok (.aload_n 0, 1) := by decide +kernel
theorem dX8_near_79 : decode cX8_near 79 = .ok (.getfield 100, 3) := by decide +kernel
theorem dX8_near_82 : decode cX8_near 82 = .ok (.irem, 1) := by decide +kernel
theorem dX8_near_83 : decode cX8_near 83 = .ok (.aload_n 0, 1) := by decide +kernel
theorem dX8_near_84 : decode cX8_near 84 = .ok (.getfield 97, 3) := by decide +kernel
theorem dX8_near_87 : decode cX8_near 87 = .ok (.imul, 1) := by decide +kernel
theorem dX8_near_88 : decode cX8_near 88 = .ok (.iload_n 3, 1) := by decide +kernel
theorem dX8_near_89 : decode cX8_near 89 = .ok (.iadd, 1) := by decide +kernel
theorem dX8_near_90 : decode cX8_near 90 = .ok (.ireturn, 1) := by decide +kernel
theorem dX8_near_91 : decode cX8_near 91 = .ok (.iload 4, 2) := by decide +kernel
theorem dX8_near_93 : decode cX8_near 93 = .ok (.aload_n 0, 1) := by decide +kernel
theorem dX8_near_94 : decode cX8_near 94 = .ok (.getfield 100, 3) := by decide +kernel
theorem dX8_near_97 : decode cX8_near 97 = .ok (.iadd, 1) := by decide +kernel
theorem dX8_near_98 : decode cX8_near 98 = .ok (.iconst 1, 1) := by decide +kernel
theorem dX8_near_99 : decode cX8_near 99 = .ok (.isub, 1) := by decide +kernel
theorem dX8_near_100 : decode cX8_near 100 = .ok (.aload_n 0, 1) := by decide +kernel
theorem dX8_near_101 : decode cX8_near 101 = .ok (.getfield 100, 3) := by decide +kernel
theorem dX8_near_104 : decode cX8_near 104 = .ok (.irem, 1) := by decide +kernel
theorem dX8_near_105 : decode cX8_near 105 = .ok (.aload_n 0, 1) := by decide +kernel
theorem dX8_near_106 : decode cX8_near 106 = .ok (.getfield 97, 3) := by decide +kernel
theorem dX8_near_109 : decode cX8_near 109 = .ok (.imul, 1) := by decide +kernel
theorem dX8_near_110 : decode cX8_near 110 = .ok (.iload_n 3, 1) := by decide +kernel
theorem dX8_near_111 : decode cX8_near 111 = .ok (.iadd, 1) := by decide +kernel
theorem dX8_near_112 : decode cX8_near 112 = .ok (.ireturn, 1) := by decide +kernel
theorem dX8_isSteep_0 : decode cX8_isSteep 0 = .ok (.iconst 0, 1) := by decide +kernel
theorem dX8_isSteep_1 : decode cX8_isSteep 1 = .ok (.istore_n 2, 1) := by decide +kernel
theorem dX8_isSteep_2 : decode cX8_isSteep 2 = .ok (.iconst 0, 1) := by decide +kernel
theorem dX8_isSteep_3 : decode cX8_isSteep 3 = .ok (.istore_n 3, 1) := by decide +kernel
theorem dX8_isSteep_4 : decode cX8_isSteep 4 = .ok (.iload_n 3, 1) := by decide +kernel
theorem dX8_isSteep_5 : decode cX8_isSteep 5 = .ok (.iconst 4, 1) := by decide +kernel
theorem dX8_isSteep_6 : decode cX8_isSteep 6 = .ok (.if_icmp .ge 55, 3) := by decide +kernel
theorem dX8_isSteep_9 : decode cX8_isSteep 9 = .ok (.aload_n 0, 1) := by decide +kernel
theorem dX8_isSteep_10 : decode cX8_isSteep 10 = .ok (.iload_n 1, 1) := by decide +kernel
theorem dX8_isSteep_11 : decode cX8_isSteep 11 = .ok (.iload_n 3, 1) := by decide +kernel
theorem dX8_isSteep_12 : decode cX8_isSteep 12 = .ok (.invokevirtual 136, 3) := by decide +kernel
theorem dX8_isSteep_15 : decode cX8_isSteep 15 = .ok (.istore 4, 2) := by decide +kernel
theorem dX8_isSteep_17 : decode cX8_isSteep 17 = .ok (.iload_n 2, 1) := by decide +kernel
theorem dX8_isSteep_18 : decode cX8_isSteep 18 = .ok (.ifCond .ne 31, 3) := by decide +kernel
theorem dX8_isSteep_21 : decode cX8_isSteep 21 = .ok (.iload 4, 2) := by decide +kernel
theorem dX8_isSteep_23 : decode cX8_isSteep 23 = .ok (.ifCond .lt 30, 3) := by decide +kernel
theorem dX8_isSteep_26 : decode cX8_isSteep 26 = .ok (.aload_n 0, 1) := by decide +kernel
theorem dX8_isSteep_27 : decode cX8_isSteep 27 = .ok (.getfield 7, 3) := by decide +kernel
theorem dX8_isSteep_30 : decode cX8_isSteep 30 = .ok (.iload_n 1, 1) := by decide +kernel
theorem dX8_isSteep_31 : decode cX8_isSteep 31 = .ok (.iaload, 1) := by decide +kernel
theorem dX8_isSteep_32 : decode cX8_isSteep 32 = .ok (.aload_n 0, 1) := by decide +kernel
theorem dX8_isSteep_33 : decode cX8_isSteep 33 = .ok (.getfield 7, 3) := by decide +kernel
theorem dX8_isSteep_36 : decode cX8_isSteep 36 = .ok (.iload 4, 2) := by decide +kernel
theorem dX8_isSteep_38 : decode cX8_isSteep 38 = .ok (.iaload, 1) := by decide +kernel
theorem dX8_isSteep_39 : decode cX8_isSteep 39 = .ok (.isub, 1) := by decide +kernel
theorem dX8_isSteep_40 : decode cX8_isSteep 40 = .ok (.aload_n 0, 1) := by decide +kernel
theorem dX8_isSteep_41 : decode cX8_isSteep 41 = .ok (.getfield 31, 3) := by decide +kernel
theorem dX8_isSteep_44 : decode cX8_isSteep 44 = .ok (.iconst 3, 1) := by decide +kernel
theorem dX8_isSteep_45 : decode cX8_isSteep 45 = .ok (.iaload, 1) := by decide +kernel
theorem dX8_isSteep_46 : decode cX8_isSteep 46 = .ok (.if_icmp .le 7, 3) := by decide +kernel
theorem dX8_isSteep_49 : decode cX8_isSteep 49 = .ok (.iconst 1, 1) := by decide +kernel
theorem dX8_isSteep_50 : decode cX8_isSteep 50 = .ok (.goto 4, 3) := by decide +kernel
theorem dX8_isSteep_53 : decode cX8_isSteep 53 = .ok (.iconst 0, 1) := by decide +kernel
theorem dX8_isSteep_54 : decode cX8_isSteep 54 = .ok (.istore_n 2, 1) := by decide +kernel
theorem dX8_isSteep_55 : decode cX8_isSteep 55 = .ok (.iinc 3 1, 3) := by decide +kernel
theorem dX8_isSteep_58 : decode cX8_isSteep 58 = .ok (.goto (-54), 3) := by decide +kernel
theorem dX8_isSteep_61 : decode cX8_isSteep 61 = .ok (.iload_n 2, 1) := by decide +kernel
theorem dX8_isSteep_62 : decode cX8_isSteep 62 = .ok (.ireturn, 1) := by decide +kernel
theorem dX8_touches_0 : decode cX8_touches 0 = .ok (.aload_n 0, 1) := by decide +kernel
theorem dX8_touches_1 : decode cX8_touches 1 = .ok (.getfield 93, 3) := by decide +kernel
theorem dX8_touches_4 : decode cX8_touches 4 = .ok (.iload_n 1, 1) := by decide +kernel
theorem dX8_touches_5 : decode cX8_touches 5 = .ok (.iconst 1, 1) := by decide +kernel
theorem dX8_touches_6 : decode cX8_touches 6 = .ok (.bastore, 1) := by decide +kernel
theorem dX8_touches_7 : decode cX8_touches 7 = .ok (.aload_n 0, 1) := by decide +kernel
theorem dX8_touches_8 : decode cX8_touches 8 = .ok (.iload_n 1, 1) := by decide +kernel
theorem dX8_touches_9 : decode cX8_touches 9 = .ok (.aload_n 0, 1) := by decide +kernel
theorem dX8_touches_10 : decode cX8_touches 10 = .ok (.getfield 140, 3) := by decide +kernel
theorem dX8_touches_13 : decode cX8_touches 13 = .ok (.if_icmp .ge 7, 3) := by decide +kernel
theorem dX8_touches_16 : decode cX8_touches 16 = .ok (.iload_n 1, 1) := by decide +kernel
theorem dX8_touches_17 : decode cX8_touches 17 = .ok (.goto 7, 3) := by decide +kernel
theorem dX8_touches_20 : decode cX8_touches 20 = .ok (.aload_n 0, 1) := by decide +kernel
theorem dX8_touches_21 : decode cX8_touches 21 = .ok (.getfield 140, 3) := by decide +kernel
theorem dX8_touches_24 : decode cX8_touches 24 = .ok (.putfield 140, 3) := by decide +kernel
theorem dX8_touches_27 : decode cX8_touches 27 = .ok (.iconst 0, 1) := by decide +kernel
theorem dX8_touches_28 : decode cX8_touches 28 = .ok (.istore_n 2, 1) := by decide +kernel
theorem dX8_touches_29 : decode cX8_touches 29 = .ok (.iload_n 2, 1) := by decide +kernel
theorem dX8_touches_30 : decode cX8_touches 30 = .ok (.iconst 4, 1) := by decide +kernel
theorem dX8_touches_31 : decode cX8_touches 31 = .ok (.if_icmp .ge 47, 3) := by decide +kernel
theorem dX8_touches_34 : decode cX8_touches 34 = .ok (.aload_n 0, 1) := by decide +kernel
theorem dX8_touches_35 : decode cX8_touches 35 = .ok (.iload_n 1, 1) := by decide +kernel
theorem dX8_touches_36 : decode cX8_touches 36 = .ok (.iload_n 2, 1) := by decide +kernel
theorem dX8_touches_37 : decode cX8_touches 37 = .ok (.invokevirtual 136, 3) := by decide +kernel
theorem dX8_touches_40 : decode cX8_touches 40 = .ok (.istore_n 3, 1) := by decide +kernel
theorem dX8_touches_41 : decode cX8_touches 41 = .ok (.iload_n 3, 1) := by decide +kernel
theorem dX8_touches_42 : decode cX8_touches 42 = .ok (.ifCond .lt 30, 3) := by decide +kernel
theorem dX8_touches_45 : decode cX8_touches 45 = .ok (.aload_n 0, 1) := by decide +kernel
theorem dX8_touches_46 : decode cX8_touches 46 = .ok (.getfield 93, 3) := by decide +kernel
theorem dX8_touches_49 : decode cX8_touches 49 = .ok (.iload_n 3, 1) := by decide +kernel
theorem dX8_touches_50 : decode cX8_touches 50 = .ok (.iconst 1, 1) := by decide +kernel
theorem dX8_touches_51 : decode cX8_touches 51 = .ok (.bastore, 1) := by decide +kernel
theorem dX8_touches_52 : decode cX8_touches 52 = .ok (.aload_n 0, 1) := by decide +kernel
theorem dX8_touches_53 : decode cX8_touches 53 = .ok (.iload_n 3, 1) := by decide +kernel
theorem dX8_touches_54 : decode cX8_touches 54 = .ok (.aload_n 0, 1) := by decide +kernel
theorem dX8_touches_55 : decode cX8_touches 55 = .ok (.getfield 140, 3) := by decide +kernel
theorem dX8_touches_58 : decode cX8_touches 58 = .ok (.if_icmp .ge 7, 3) := by decide +kernel
theorem dX8_touches_61 : decode cX8_touches 61 = .ok (.iload_n 3, 1) := by decide +kernel
theorem dX8_touches_62 : decode cX8_touches 62 = .ok (.goto 7, 3) := by decide +kernel
theorem dX8_touches_65 : decode cX8_touches 65 = .ok (.aload_n 0, 1) := by decide +kernel
theorem dX8_touches_66 : decode cX8_touches 66 = .ok (.getfield 140, 3) := by decide +kernel
theorem dX8_touches_69 : decode cX8_touches 69 = .ok (.putfield 140, 3) := by decide +kernel
theorem dX8_touches_72 : decode cX8_touches 72 = .ok (.iinc 2 1, 3) := by decide +kernel
theorem dX8_touches_75 : decode cX8_touches 75 = .ok (.goto (-46), 3) := by decide +kernel
theorem dX8_touches_78 : decode cX8_touches 78 = .ok (.return_, 1) := by decide +kernel
theorem dX8_settles_0 : decode cX8_settles 0 = .ok (.aload_n 0, 1) := by decide +kernel
theorem dX8_settles_1 : decode cX8_settles 1 = .ok (.getfield 140, 3) := by decide +kernel
theorem dX8_settles_4 : decode cX8_settles 4 = .ok (.aload_n 0, 1) := by decide +kernel
theorem dX8_settles_5 : decode cX8_settles 5 = .ok (.getfield 103, 3) := by decide +kernel
theorem dX8_settles_8 : decode cX8_settles 8 = .ok (.if_icmp .ge 133, 3) := by decide +kernel
theorem dX8_settles_11 : decode cX8_settles 11 = .ok (.aload_n 0, 1) := by decide +kernel
theorem dX8_settles_12 : decode cX8_settles 12 = .ok (.getfield 140, 3) := by decide +kernel
theorem dX8_settles_15 : decode cX8_settles 15 = .ok (.istore_n 1, 1) := by decide +kernel
theorem dX8_settles_16 : decode cX8_settles 16 = .ok (.aload_n 0, 1) := by decide +kernel
theorem dX8_settles_17 : decode cX8_settles 17 = .ok (.getfield 93, 3) := by decide +kernel
theorem dX8_settles_20 : decode cX8_settles 20 = .ok (.iload_n 1, 1) := by decide +kernel
theorem dX8_settles_21 : decode cX8_settles 21 = .ok (.baload, 1) := by decide +kernel
theorem dX8_settles_22 : decode cX8_settles 22 = .ok (.ifCond .eq 11, 3) := by decide +kernel
theorem dX8_settles_25 : decode cX8_settles 25 = .ok (.aload_n 0, 1) := by decide +kernel
theorem dX8_settles_26 : decode cX8_settles 26 = .ok (.iload_n 1, 1) := by decide +kernel
theorem dX8_settles_27 : decode cX8_settles 27 = .ok (.invokevirtual 143, 3) := by decide +kernel
theorem dX8_settles_30 : decode cX8_settles 30 = .ok (.ifCond .ne 23, 3) := by decide +kernel
theorem dX8_settles_33 : decode cX8_settles 33 = .ok (.aload_n 0, 1) := by decide +kernel
theorem dX8_settles_34 : decode cX8_settles 34 = .ok (.getfield 93, 3) := by decide +kernel
theorem dX8_settles_37 : decode cX8_settles 37 = .ok (.iload_n 1, 1) := by decide +kernel
theorem dX8_settles_38 : decode cX8_settles 38 = .ok (.iconst 0, 1) := by decide +kernel
theorem dX8_settles_39 : decode cX8_settles 39 = .ok (.bastore, 1) := by decide +kernel
theorem dX8_settles_40 : decode cX8_settles 40 = .ok (.aload_n 0, 1) := by decide +kernel
theorem dX8_settles_41 : decode cX8_settles 41 = .ok (.dup, 1) := by decide +kernel
theorem dX8_settles_42 : decode cX8_settles 42 = .ok (.getfield 140, 3) := by decide +kernel
theorem dX8_settles_45 : decode cX8_settles 45 = .ok (.iconst 1, 1) := by decide +kernel
theorem dX8_settles_46 : decode cX8_settles 46 = .ok (.iadd, 1) := by decide +kernel
theorem dX8_settles_47 : decode cX8_settles 47 = .ok (.putfield 140, 3) := by decide +kernel
theorem dX8_settles_50 : decode cX8_settles 50 = .ok (.goto (-50), 3) := by decide +kernel
theorem dX8_settles_53 : decode cX8_settles 53 = .ok (.iconst (-1), 1) := by decide +kernel
theorem dX8_settles_54 : decode cX8_settles 54 = .ok (.istore_n 2, 1) := by decide +kernel
theorem dX8_settles_55 : decode cX8_settles 55 = .ok (.iconst 0, 1) := by decide +kernel
theorem dX8_settles_56 : decode cX8_settles 56 = .ok (.istore_n 3, 1) := by decide +kernel
theorem dX8_settles_57 : decode cX8_settles 57 = .ok (.iload_n 3, 1) := by decide +kernel
theorem dX8_settles_58 : decode cX8_settles 58 = .ok (.iconst 4, 1) := by decide +kernel
theorem dX8_settles_59 : decode cX8_settles 59 = .ok (.if_icmp .ge 49, 3) := by decide +kernel
theorem dX8_settles_62 : decode cX8_settles 62 = .ok (.aload_n 0, 1) := by decide +kernel
theorem dX8_settles_63 : decode cX8_settles 63 = .ok (.iload_n 1, 1) := by decide +kernel
theorem dX8_settles_64 : decode cX8_settles 64 = .ok (.iload_n 3, 1) := by decide +kernel
theorem dX8_settles_65 : decode cX8_settles 65 = .ok (.invokevirtual 136, 3) := by decide +kernel
theorem dX8_settles_68 : decode cX8_settles 68 = .ok (.istore 4, 2) := by decide +kernel
theorem dX8_settles_70 : decode cX8_settles 70 = .ok (.iload 4, 2) := by decide +kernel
theorem dX8_settles_72 : decode cX8_settles 72 = .ok (.ifCond .lt 28, 3) := by decide +kernel
theorem dX8_settles_75 : decode cX8_settles 75 = .ok (.iload_n 2, 1) := by decide +kernel
theorem dX8_settles_76 : decode cX8_settles 76 = .ok (.ifCond .lt 19, 3) := by decide +kernel
theorem dX8_settles_79 : decode cX8_settles 79 = .ok (.aload_n 0, 1) := by decide +kernel
theorem dX8_settles_80 : decode cX8_settles 80 = .ok (.getfield 7, 3) := by decide +kernel
theorem dX8_settles_83 : decode cX8_settles 83 = .ok (.iload 4, 2) := by decide +kernel
theorem dX8_settles_85 : decode cX8_settles 85 = .ok (.iaload, 1) := by decide +kernel
theorem dX8_settles_86 : decode cX8_settles 86 = .ok (.aload_n 0, 1) := by decide +kernel
theorem dX8_settles_87 : decode cX8_settles 87 = .ok (.getfield 7, 3) := by decide +kernel
theorem dX8_settles_90 : decode cX8_settles 90 = .ok (.iload_n 2, 1) := by decide +kernel
theorem dX8_settles_91 : decode cX8_settles 91 = .ok (.iaload, 1) := by decide +kernel
theorem dX8_settles_92 : decode cX8_settles 92 = .ok (.if_icmp .ge 8, 3) := by decide +kernel
theorem dX8_settles_95 : decode cX8_settles 95 = .ok (.iload 4, 2) := by decide +kernel
theorem dX8_settles_97 : decode cX8_settles 97 = .ok (.goto 4, 3) := by decide +kernel
theorem dX8_settles_100 : decode cX8_settles 100 = .ok (.iload_n 2, 1) := by decide +kernel
theorem dX8_settles_101 : decode cX8_settles 101 = .ok (.istore_n 2, 1) := by decide +kernel
theorem dX8_settles_102 : decode cX8_settles 102 = .ok (.iinc 3 1, 3) := by decide +kernel
theorem dX8_settles_105 : decode cX8_settles 105 = .ok (.goto (-48), 3) := by decide +kernel
theorem dX8_settles_108 : decode cX8_settles 108 = .ok (.aload_n 0, 1) := by decide +kernel
theorem dX8_settles_109 : decode cX8_settles 109 = .ok (.getfield 7, 3) := by decide +kernel
theorem dX8_settles_112 : decode cX8_settles 112 = .ok (.iload_n 1, 1) := by decide +kernel
theorem dX8_settles_113 : decode cX8_settles 113 = .ok (.dup2, 1) := by decide +kernel
theorem dX8_settles_114 : decode cX8_settles 114 = .ok (.iaload, 1) := by decide +kernel
theorem dX8_settles_115 : decode cX8_settles 115 = .ok (.iconst 1, 1) := by decide +kernel
theorem dX8_settles_116 : decode cX8_settles 116 = .ok (.isub, 1) := by decide +kernel
theorem dX8_settles_117 : decode cX8_settles 117 = .ok (.iastore, 1) := by decide +kernel
theorem dX8_settles_118 : decode cX8_settles 118 = .ok (.aload_n 0, 1) := by decide +kernel
theorem dX8_settles_119 : decode cX8_settles 119 = .ok (.getfield 7, 3) := by decide +kernel
theorem dX8_settles_122 : decode cX8_settles 122 = .ok (.iload_n 2, 1) := by decide +kernel
theorem dX8_settles_123 : decode cX8_settles 123 = .ok (.dup2, 1) := by decide +kernel
theorem dX8_settles_124 : decode cX8_settles 124 = .ok (.iaload, 1) := by decide +kernel
theorem dX8_settles_125 : decode cX8_settles 125 = .ok (.iconst 1, 1) := by decide +kernel
theorem dX8_settles_126 : decode cX8_settles 126 = .ok (.iadd, 1) := by decide +kernel
theorem dX8_settles_127 : decode cX8_settles 127 = .ok (.iastore, 1) := by decide +kernel
theorem dX8_settles_128 : decode cX8_settles 128 = .ok (.aload_n 0, 1) := by decide +kernel
theorem dX8_settles_129 : decode cX8_settles 129 = .ok (.iload_n 1, 1) := by decide +kernel
theorem dX8_settles_130 : decode cX8_settles 130 = .ok (.invokevirtual 147, 3) := by decide +kernel
theorem dX8_settles_133 : decode cX8_settles 133 = .ok (.aload_n 0, 1) := by decide +kernel
theorem dX8_settles_134 : decode cX8_settles 134 = .ok (.iload_n 2, 1) := by decide +kernel
theorem dX8_settles_135 : decode cX8_settles 135 = .ok (.invokevirtual 147, 3) := by decide +kernel
theorem dX8_settles_138 : decode cX8_settles 138 = .ok (.goto (-138), 3) := by decide +kernel
theorem dX8_settles_141 : decode cX8_settles 141 = .ok (.return_, 1) := by decide +kernel
theorem dX8_settledAt_0 : decode cX8_settledAt 0 = .ok (.aload_n 0, 1) := by decide +kernel
theorem dX8_settledAt_1 : decode cX8_settledAt 1 = .ok (.aload_n 0, 1) := by decide +kernel
theorem dX8_settledAt_2 : decode cX8_settledAt 2 = .ok (.getfield 103, 3) := by decide +kernel
theorem dX8_settledAt_5 : decode cX8_settledAt 5 = .ok (.putfield 140, 3) := by decide +kernel
theorem dX8_settledAt_8 : decode cX8_settledAt 8 = .ok (.aload_n 0, 1) := by decide +kernel
theorem dX8_settledAt_9 : decode cX8_settledAt 9 = .ok (.iload_n 1, 1) := by decide +kernel
theorem dX8_settledAt_10 : decode cX8_settledAt 10 = .ok (.invokevirtual 147, 3) := by decide +kernel
theorem dX8_settledAt_13 : decode cX8_settledAt 13 = .ok (.aload_n 0, 1) := by decide +kernel
theorem dX8_settledAt_14 : decode cX8_settledAt 14 = .ok (.invokevirtual 150, 3) := by decide +kernel
theorem dX8_settledAt_17 : decode cX8_settledAt 17 = .ok (.return_, 1) := by decide +kernel
theorem dX8_settledAll_0 : decode cX8_settledAll 0 = .ok (.aload_n 0, 1) := by decide +kernel
theorem dX8_settledAll_1 : decode cX8_settledAll 1 = .ok (.iconst 0, 1) := by decide +kernel
theorem dX8_settledAll_2 : decode cX8_settledAll 2 = .ok (.putfield 140, 3) := by decide +kernel
theorem dX8_settledAll_5 : decode cX8_settledAll 5 = .ok (.iconst 0, 1) := by decide +kernel
theorem dX8_settledAll_6 : decode cX8_settledAll 6 = .ok (.istore_n 1, 1) := by decide +kernel
theorem dX8_settledAll_7 : decode cX8_settledAll 7 = .ok (.iload_n 1, 1) := by decide +kernel
theorem dX8_settledAll_8 : decode cX8_settledAll 8 = .ok (.aload_n 0, 1) := by decide +kernel
theorem dX8_settledAll_9 : decode cX8_settledAll 9 = .ok (.getfield 103, 3) := by decide +kernel
theorem dX8_settledAll_12 : decode cX8_settledAll 12 = .ok (.if_icmp .ge 16, 3) := by decide +kernel
theorem dX8_settledAll_15 : decode cX8_settledAll 15 = .ok (.aload_n 0, 1) := by decide +kernel
theorem dX8_settledAll_16 : decode cX8_settledAll 16 = .ok (.getfield 93, 3) := by decide +kernel
theorem dX8_settledAll_19 : decode cX8_settledAll 19 = .ok (.iload_n 1, 1) := by decide +kernel
theorem dX8_settledAll_20 : decode cX8_settledAll 20 = .ok (.iconst 1, 1) := by decide +kernel
theorem dX8_settledAll_21 : decode cX8_settledAll 21 = .ok (.bastore, 1) := by decide +kernel
theorem dX8_settledAll_22 : decode cX8_settledAll 22 = .ok (.iinc 1 1, 3) := by decide +kernel
theorem dX8_settledAll_25 : decode cX8_settledAll 25 = .ok (.goto (-18), 3) := by decide +kernel
theorem dX8_settledAll_28 : decode cX8_settledAll 28 = .ok (.aload_n 0, 1) := by decide +kernel
theorem dX8_settledAll_29 : decode cX8_settledAll 29 = .ok (.invokevirtual 150, 3) := by decide +kernel
theorem dX8_settledAll_32 : decode cX8_settledAll 32 = .ok (.return_, 1) := by decide +kernel
theorem dX8_heap_0 : decode cX8_heap 0 = .ok (.aload_n 0, 1) := by decide +kernel
theorem dX8_heap_1 : decode cX8_heap 1 = .ok (.iload_n 1, 1) := by decide +kernel
theorem dX8_heap_2 : decode cX8_heap 2 = .ok (.invokevirtual 153, 3) := by decide +kernel
theorem dX8_heap_5 : decode cX8_heap 5 = .ok (.ifCond .eq 14, 3) := by decide +kernel
theorem dX8_heap_8 : decode cX8_heap 8 = .ok (.iload_n 2, 1) := by decide +kernel
theorem dX8_heap_9 : decode cX8_heap 9 = .ok (.iconst 0, 1) := by decide +kernel
theorem dX8_heap_10 : decode cX8_heap 10 = .ok (.sipush 999, 3) := by decide +kernel
theorem dX8_heap_13 : decode cX8_heap 13 = .ok (.invokestatic 110, 3) := by decide +kernel
end
section
theorem dX8_heap_16 : decode cX8_heap 16 = .ok (.ifCond .ne 5, 3) := by decide +kernel
theorem dX8_heap_19 : decode cX8_heap 19 = .ok (.iconst 0, 1) := by decide +kernel
theorem dX8_heap_20 : decode cX8_heap 20 = .ok (.ireturn, 1) := by decide +kernel
theorem dX8_heap_21 : decode cX8_heap 21 = .ok (.aload_n 0, 1) := by decide +kernel
theorem dX8_heap_22 : decode cX8_heap 22 = .ok (.getfield 7, 3) := by decide +kernel
theorem dX8_heap_25 : decode cX8_heap 25 = .ok (.iload_n 1, 1) := by decide +kernel
theorem dX8_heap_26 : decode cX8_heap 26 = .ok (.iload_n 2, 1) := by decide +kernel
theorem dX8_heap_27 : decode cX8_heap 27 = .ok (.iastore, 1) := by decide +kernel
theorem dX8_heap_28 : decode cX8_heap 28 = .ok (.aload_n 0, 1) := by decide +kernel
theorem dX8_heap_29 : decode cX8_heap 29 = .ok (.getfield 13, 3) := by decide +kernel
theorem dX8_heap_32 : decode cX8_heap 32 = .ok (.iload_n 1, 1) := by decide +kernel
theorem dX8_heap_33 : decode cX8_heap 33 = .ok (.iload_n 2, 1) := by decide +kernel
theorem dX8_heap_34 : decode cX8_heap 34 = .ok (.iastore, 1) := by decide +kernel
theorem dX8_heap_35 : decode cX8_heap 35 = .ok (.aload_n 0, 1) := by decide +kernel
theorem dX8_heap_36 : decode cX8_heap 36 = .ok (.iload_n 1, 1) := by decide +kernel
theorem dX8_heap_37 : decode cX8_heap 37 = .ok (.invokevirtual 156, 3) := by decide +kernel
theorem dX8_heap_40 : decode cX8_heap 40 = .ok (.iconst 1, 1) := by decide +kernel
theorem dX8_heap_41 : decode cX8_heap 41 = .ok (.ireturn, 1) := by decide +kernel
theorem dX8_lay_0 : decode cX8_lay 0 = .ok (.aload_n 0, 1) := by decide +kernel
theorem dX8_lay_1 : decode cX8_lay 1 = .ok (.iload_n 1, 1) := by decide +kernel
theorem dX8_lay_2 : decode cX8_lay 2 = .ok (.invokevirtual 153, 3) := by decide +kernel
theorem dX8_lay_5 : decode cX8_lay 5 = .ok (.ifCond .eq 52, 3) := by decide +kernel
theorem dX8_lay_8 : decode cX8_lay 8 = .ok (.iload_n 2, 1) := by decide +kernel
theorem dX8_lay_9 : decode cX8_lay 9 = .ok (.iconst 0, 1) := by decide +kernel
theorem dX8_lay_10 : decode cX8_lay 10 = .ok (.iconst 3, 1) := by decide +kernel
theorem dX8_lay_11 : decode cX8_lay 11 = .ok (.invokestatic 110, 3) := by decide +kernel
theorem dX8_lay_14 : decode cX8_lay 14 = .ok (.ifCond .eq 43, 3) := by decide +kernel
theorem dX8_lay_17 : decode cX8_lay 17 = .ok (.iload_n 3, 1) := by decide +kernel
theorem dX8_lay_18 : decode cX8_lay 18 = .ok (.iconst 0, 1) := by decide +kernel
theorem dX8_lay_19 : decode cX8_lay 19 = .ok (.iload_n 2, 1) := by decide +kernel
theorem dX8_lay_20 : decode cX8_lay 20 = .ok (.ifCond .ne 8, 3) := by decide +kernel
theorem dX8_lay_23 : decode cX8_lay 23 = .ok (.bipush 100, 2) := by decide +kernel
theorem dX8_lay_25 : decode cX8_lay 25 = .ok (.goto 26, 3) := by decide +kernel
theorem dX8_lay_28 : decode cX8_lay 28 = .ok (.iload_n 2, 1) := by decide +kernel
theorem dX8_lay_29 : decode cX8_lay 29 = .ok (.iconst 1, 1) := by decide +kernel
theorem dX8_lay_30 : decode cX8_lay 30 = .ok (.if_icmp .ne 8, 3) := by decide +kernel
theorem dX8_lay_33 : decode cX8_lay 33 = .ok (.bipush 99, 2) := by decide +kernel
theorem dX8_lay_35 : decode cX8_lay 35 = .ok (.goto 16, 3) := by decide +kernel
theorem dX8_lay_38 : decode cX8_lay 38 = .ok (.iload_n 2, 1) := by decide +kernel
theorem dX8_lay_39 : decode cX8_lay 39 = .ok (.iconst 2, 1) := by decide +kernel
theorem dX8_lay_40 : decode cX8_lay 40 = .ok (.if_icmp .ne 8, 3) := by decide +kernel
theorem dX8_lay_43 : decode cX8_lay 43 = .ok (.bipush 20, 2) := by decide +kernel
theorem dX8_lay_45 : decode cX8_lay 45 = .ok (.goto 6, 3) := by decide +kernel
theorem dX8_lay_48 : decode cX8_lay 48 = .ok (.sipush 999, 3) := by decide +kernel
theorem dX8_lay_51 : decode cX8_lay 51 = .ok (.invokestatic 110, 3) := by decide +kernel
theorem dX8_lay_54 : decode cX8_lay 54 = .ok (.ifCond .ne 5, 3) := by decide +kernel
theorem dX8_lay_57 : decode cX8_lay 57 = .ok (.iconst 0, 1) := by decide +kernel
theorem dX8_lay_58 : decode cX8_lay 58 = .ok (.ireturn, 1) := by decide +kernel
theorem dX8_lay_59 : decode cX8_lay 59 = .ok (.iload_n 2, 1) := by decide +kernel
theorem dX8_lay_60 : decode cX8_lay 60 = .ok (.tableswitch 58 0 2 #[28, 38, 48], 28) := by decide +kernel
theorem dX8_lay_88 : decode cX8_lay 88 = .ok (.aload_n 0, 1) := by decide +kernel
theorem dX8_lay_89 : decode cX8_lay 89 = .ok (.getfield 16, 3) := by decide +kernel
theorem dX8_lay_92 : decode cX8_lay 92 = .ok (.iload_n 1, 1) := by decide +kernel
theorem dX8_lay_93 : decode cX8_lay 93 = .ok (.iload_n 3, 1) := by decide +kernel
theorem dX8_lay_94 : decode cX8_lay 94 = .ok (.iastore, 1) := by decide +kernel
theorem dX8_lay_95 : decode cX8_lay 95 = .ok (.goto 37, 3) := by decide +kernel
theorem dX8_lay_98 : decode cX8_lay 98 = .ok (.aload_n 0, 1) := by decide +kernel
theorem dX8_lay_99 : decode cX8_lay 99 = .ok (.getfield 19, 3) := by decide +kernel
theorem dX8_lay_102 : decode cX8_lay 102 = .ok (.iload_n 1, 1) := by decide +kernel
theorem dX8_lay_103 : decode cX8_lay 103 = .ok (.iload_n 3, 1) := by decide +kernel
theorem dX8_lay_104 : decode cX8_lay 104 = .ok (.iastore, 1) := by decide +kernel
theorem dX8_lay_105 : decode cX8_lay 105 = .ok (.goto 27, 3) := by decide +kernel
theorem dX8_lay_108 : decode cX8_lay 108 = .ok (.aload_n 0, 1) := by decide +kernel
theorem dX8_lay_109 : decode cX8_lay 109 = .ok (.getfield 22, 3) := by decide +kernel
theorem dX8_lay_112 : decode cX8_lay 112 = .ok (.iload_n 1, 1) := by decide +kernel
theorem dX8_lay_113 : decode cX8_lay 113 = .ok (.iload_n 3, 1) := by decide +kernel
theorem dX8_lay_114 : decode cX8_lay 114 = .ok (.iastore, 1) := by decide +kernel
theorem dX8_lay_115 : decode cX8_lay 115 = .ok (.goto 17, 3) := by decide +kernel
theorem dX8_lay_118 : decode cX8_lay 118 = .ok (.aload_n 0, 1) := by decide +kernel
theorem dX8_lay_119 : decode cX8_lay 119 = .ok (.getfield 25, 3) := by decide +kernel
theorem dX8_lay_122 : decode cX8_lay 122 = .ok (.iload_n 1, 1) := by decide +kernel
theorem dX8_lay_123 : decode cX8_lay 123 = .ok (.iload_n 3, 1) := by decide +kernel
theorem dX8_lay_124 : decode cX8_lay 124 = .ok (.iastore, 1) := by decide +kernel
theorem dX8_lay_125 : decode cX8_lay 125 = .ok (.aload_n 0, 1) := by decide +kernel
theorem dX8_lay_126 : decode cX8_lay 126 = .ok (.getfield 28, 3) := by decide +kernel
theorem dX8_lay_129 : decode cX8_lay 129 = .ok (.iload_n 1, 1) := by decide +kernel
theorem dX8_lay_130 : decode cX8_lay 130 = .ok (.iconst (-1), 1) := by decide +kernel
theorem dX8_lay_131 : decode cX8_lay 131 = .ok (.iastore, 1) := by decide +kernel
theorem dX8_lay_132 : decode cX8_lay 132 = .ok (.iconst 1, 1) := by decide +kernel
theorem dX8_lay_133 : decode cX8_lay 133 = .ok (.ireturn, 1) := by decide +kernel
theorem dX8_rules_0 : decode cX8_rules 0 = .ok (.iload_n 1, 1) := by decide +kernel
theorem dX8_rules_1 : decode cX8_rules 1 = .ok (.iconst 1, 1) := by decide +kernel
theorem dX8_rules_2 : decode cX8_rules 2 = .ok (.iconst 5, 1) := by decide +kernel
theorem dX8_rules_3 : decode cX8_rules 3 = .ok (.invokestatic 110, 3) := by decide +kernel
theorem dX8_rules_6 : decode cX8_rules 6 = .ok (.ifCond .eq 45, 3) := by decide +kernel
theorem dX8_rules_9 : decode cX8_rules 9 = .ok (.iload_n 2, 1) := by decide +kernel
theorem dX8_rules_10 : decode cX8_rules 10 = .ok (.iconst 0, 1) := by decide +kernel
theorem dX8_rules_11 : decode cX8_rules 11 = .ok (.bipush 100, 2) := by decide +kernel
theorem dX8_rules_13 : decode cX8_rules 13 = .ok (.invokestatic 110, 3) := by decide +kernel
theorem dX8_rules_16 : decode cX8_rules 16 = .ok (.ifCond .eq 35, 3) := by decide +kernel
theorem dX8_rules_19 : decode cX8_rules 19 = .ok (.iload_n 3, 1) := by decide +kernel
theorem dX8_rules_20 : decode cX8_rules 20 = .ok (.iconst 0, 1) := by decide +kernel
theorem dX8_rules_21 : decode cX8_rules 21 = .ok (.bipush 100, 2) := by decide +kernel
theorem dX8_rules_23 : decode cX8_rules 23 = .ok (.invokestatic 110, 3) := by decide +kernel
theorem dX8_rules_26 : decode cX8_rules 26 = .ok (.ifCond .eq 25, 3) := by decide +kernel
theorem dX8_rules_29 : decode cX8_rules 29 = .ok (.iload 4, 2) := by decide +kernel
theorem dX8_rules_31 : decode cX8_rules 31 = .ok (.iconst 1, 1) := by decide +kernel
theorem dX8_rules_32 : decode cX8_rules 32 = .ok (.bipush 9, 2) := by decide +kernel
theorem dX8_rules_34 : decode cX8_rules 34 = .ok (.invokestatic 110, 3) := by decide +kernel
theorem dX8_rules_37 : decode cX8_rules 37 = .ok (.ifCond .eq 14, 3) := by decide +kernel
theorem dX8_rules_40 : decode cX8_rules 40 = .ok (.iload 5, 2) := by decide +kernel
theorem dX8_rules_42 : decode cX8_rules 42 = .ok (.iconst 0, 1) := by decide +kernel
theorem dX8_rules_43 : decode cX8_rules 43 = .ok (.bipush 20, 2) := by decide +kernel
theorem dX8_rules_45 : decode cX8_rules 45 = .ok (.invokestatic 110, 3) := by decide +kernel
theorem dX8_rules_48 : decode cX8_rules 48 = .ok (.ifCond .ne 5, 3) := by decide +kernel
theorem dX8_rules_51 : decode cX8_rules 51 = .ok (.iconst 0, 1) := by decide +kernel
theorem dX8_rules_52 : decode cX8_rules 52 = .ok (.ireturn, 1) := by decide +kernel
theorem dX8_rules_53 : decode cX8_rules 53 = .ok (.aload_n 0, 1) := by decide +kernel
theorem dX8_rules_54 : decode cX8_rules 54 = .ok (.getfield 31, 3) := by decide +kernel
theorem dX8_rules_57 : decode cX8_rules 57 = .ok (.iconst 0, 1) := by decide +kernel
theorem dX8_rules_58 : decode cX8_rules 58 = .ok (.iload_n 1, 1) := by decide +kernel
theorem dX8_rules_59 : decode cX8_rules 59 = .ok (.iastore, 1) := by decide +kernel
theorem dX8_rules_60 : decode cX8_rules 60 = .ok (.aload_n 0, 1) := by decide +kernel
theorem dX8_rules_61 : decode cX8_rules 61 = .ok (.getfield 31, 3) := by decide +kernel
theorem dX8_rules_64 : decode cX8_rules 64 = .ok (.iconst 1, 1) := by decide +kernel
theorem dX8_rules_65 : decode cX8_rules 65 = .ok (.iload_n 2, 1) := by decide +kernel
theorem dX8_rules_66 : decode cX8_rules 66 = .ok (.iastore, 1) := by decide +kernel
theorem dX8_rules_67 : decode cX8_rules 67 = .ok (.aload_n 0, 1) := by decide +kernel
theorem dX8_rules_68 : decode cX8_rules 68 = .ok (.getfield 31, 3) := by decide +kernel
theorem dX8_rules_71 : decode cX8_rules 71 = .ok (.iconst 2, 1) := by decide +kernel
theorem dX8_rules_72 : decode cX8_rules 72 = .ok (.iload_n 3, 1) := by decide +kernel
theorem dX8_rules_73 : decode cX8_rules 73 = .ok (.iastore, 1) := by decide +kernel
theorem dX8_rules_74 : decode cX8_rules 74 = .ok (.aload_n 0, 1) := by decide +kernel
theorem dX8_rules_75 : decode cX8_rules 75 = .ok (.getfield 31, 3) := by decide +kernel
theorem dX8_rules_78 : decode cX8_rules 78 = .ok (.iconst 3, 1) := by decide +kernel
theorem dX8_rules_79 : decode cX8_rules 79 = .ok (.iload 4, 2) := by decide +kernel
theorem dX8_rules_81 : decode cX8_rules 81 = .ok (.iastore, 1) := by decide +kernel
theorem dX8_rules_82 : decode cX8_rules 82 = .ok (.aload_n 0, 1) := by decide +kernel
theorem dX8_rules_83 : decode cX8_rules 83 = .ok (.getfield 31, 3) := by decide +kernel
theorem dX8_rules_86 : decode cX8_rules 86 = .ok (.iconst 4, 1) := by decide +kernel
theorem dX8_rules_87 : decode cX8_rules 87 = .ok (.iload 5, 2) := by decide +kernel
theorem dX8_rules_89 : decode cX8_rules 89 = .ok (.iastore, 1) := by decide +kernel
theorem dX8_rules_90 : decode cX8_rules 90 = .ok (.aload_n 0, 1) := by decide +kernel
theorem dX8_rules_91 : decode cX8_rules 91 = .ok (.invokevirtual 159, 3) := by decide +kernel
theorem dX8_rules_94 : decode cX8_rules 94 = .ok (.iconst 1, 1) := by decide +kernel
theorem dX8_rules_95 : decode cX8_rules 95 = .ok (.ireturn, 1) := by decide +kernel
theorem dX8_seed_0 : decode cX8_seed 0 = .ok (.aload_n 0, 1) := by decide +kernel
theorem dX8_seed_1 : decode cX8_seed 1 = .ok (.iload_n 1, 1) := by decide +kernel
theorem dX8_seed_2 : decode cX8_seed 2 = .ok (.putfield 34, 3) := by decide +kernel
theorem dX8_seed_5 : decode cX8_seed 5 = .ok (.return_, 1) := by decide +kernel
theorem dX8_put_0 : decode cX8_put 0 = .ok (.aload_n 0, 1) := by decide +kernel
theorem dX8_put_1 : decode cX8_put 1 = .ok (.getfield 44, 3) := by decide +kernel
theorem dX8_put_4 : decode cX8_put 4 = .ok (.aload_n 0, 1) := by decide +kernel
theorem dX8_put_5 : decode cX8_put 5 = .ok (.getfield 162, 3) := by decide +kernel
theorem dX8_put_8 : decode cX8_put 8 = .ok (.iload_n 1, 1) := by decide +kernel
theorem dX8_put_9 : decode cX8_put 9 = .ok (.bipush 24, 2) := by decide +kernel
theorem dX8_put_11 : decode cX8_put 11 = .ok (.ishr, 1) := by decide +kernel
theorem dX8_put_12 : decode cX8_put 12 = .ok (.i2b, 1) := by decide +kernel
theorem dX8_put_13 : decode cX8_put 13 = .ok (.bastore, 1) := by decide +kernel
theorem dX8_put_14 : decode cX8_put 14 = .ok (.aload_n 0, 1) := by decide +kernel
theorem dX8_put_15 : decode cX8_put 15 = .ok (.getfield 44, 3) := by decide +kernel
theorem dX8_put_18 : decode cX8_put 18 = .ok (.aload_n 0, 1) := by decide +kernel
theorem dX8_put_19 : decode cX8_put 19 = .ok (.getfield 162, 3) := by decide +kernel
theorem dX8_put_22 : decode cX8_put 22 = .ok (.iconst 1, 1) := by decide +kernel
theorem dX8_put_23 : decode cX8_put 23 = .ok (.iadd, 1) := by decide +kernel
theorem dX8_put_24 : decode cX8_put 24 = .ok (.iload_n 1, 1) := by decide +kernel
theorem dX8_put_25 : decode cX8_put 25 = .ok (.bipush 16, 2) := by decide +kernel
theorem dX8_put_27 : decode cX8_put 27 = .ok (.ishr, 1) := by decide +kernel
theorem dX8_put_28 : decode cX8_put 28 = .ok (.i2b, 1) := by decide +kernel
theorem dX8_put_29 : decode cX8_put 29 = .ok (.bastore, 1) := by decide +kernel
theorem dX8_put_30 : decode cX8_put 30 = .ok (.aload_n 0, 1) := by decide +kernel
theorem dX8_put_31 : decode cX8_put 31 = .ok (.getfield 44, 3) := by decide +kernel
theorem dX8_put_34 : decode cX8_put 34 = .ok (.aload_n 0, 1) := by decide +kernel
theorem dX8_put_35 : decode cX8_put 35 = .ok (.getfield 162, 3) := by decide +kernel
theorem dX8_put_38 : decode cX8_put 38 = .ok (.iconst 2, 1) := by decide +kernel
theorem dX8_put_39 : decode cX8_put 39 = .ok (.iadd, 1) := by decide +kernel
theorem dX8_put_40 : decode cX8_put 40 = .ok (.iload_n 1, 1) := by decide +kernel
theorem dX8_put_41 : decode cX8_put 41 = .ok (.bipush 8, 2) := by decide +kernel
theorem dX8_put_43 : decode cX8_put 43 = .ok (.ishr, 1) := by decide +kernel
theorem dX8_put_44 : decode cX8_put 44 = .ok (.i2b, 1) := by decide +kernel
theorem dX8_put_45 : decode cX8_put 45 = .ok (.bastore, 1) := by decide +kernel
theorem dX8_put_46 : decode cX8_put 46 = .ok (.aload_n 0, 1) := by decide +kernel
theorem dX8_put_47 : decode cX8_put 47 = .ok (.getfield 44, 3) := by decide +kernel
theorem dX8_put_50 : decode cX8_put 50 = .ok (.aload_n 0, 1) := by decide +kernel
theorem dX8_put_51 : decode cX8_put 51 = .ok (.getfield 162, 3) := by decide +kernel
theorem dX8_put_54 : decode cX8_put 54 = .ok (.iconst 3, 1) := by decide +kernel
theorem dX8_put_55 : decode cX8_put 55 = .ok (.iadd, 1) := by decide +kernel
theorem dX8_put_56 : decode cX8_put 56 = .ok (.iload_n 1, 1) := by decide +kernel
theorem dX8_put_57 : decode cX8_put 57 = .ok (.i2b, 1) := by decide +kernel
theorem dX8_put_58 : decode cX8_put 58 = .ok (.bastore, 1) := by decide +kernel
theorem dX8_put_59 : decode cX8_put 59 = .ok (.aload_n 0, 1) := by decide +kernel
theorem dX8_put_60 : decode cX8_put 60 = .ok (.dup, 1) := by decide +kernel
theorem dX8_put_61 : decode cX8_put 61 = .ok (.getfield 162, 3) := by decide +kernel
theorem dX8_put_64 : decode cX8_put 64 = .ok (.iconst 4, 1) := by decide +kernel
theorem dX8_put_65 : decode cX8_put 65 = .ok (.iadd, 1) := by decide +kernel
theorem dX8_put_66 : decode cX8_put 66 = .ok (.putfield 162, 3) := by decide +kernel
theorem dX8_put_69 : decode cX8_put 69 = .ok (.return_, 1) := by decide +kernel
theorem dX8_feed_0 : decode cX8_feed 0 = .ok (.aload_n 0, 1) := by decide +kernel
theorem dX8_feed_1 : decode cX8_feed 1 = .ok (.getfield 162, 3) := by decide +kernel
theorem dX8_feed_4 : decode cX8_feed 4 = .ok (.bipush 20, 2) := by decide +kernel
theorem dX8_feed_6 : decode cX8_feed 6 = .ok (.iadd, 1) := by decide +kernel
theorem dX8_feed_7 : decode cX8_feed 7 = .ok (.sipush 200, 3) := by decide +kernel
theorem dX8_feed_10 : decode cX8_feed 10 = .ok (.if_icmp .le 5, 3) := by decide +kernel
theorem dX8_feed_13 : decode cX8_feed 13 = .ok (.iconst (-1), 1) := by decide +kernel
theorem dX8_feed_14 : decode cX8_feed 14 = .ok (.ireturn, 1) := by decide +kernel
theorem dX8_feed_15 : decode cX8_feed 15 = .ok (.aload_n 0, 1) := by decide +kernel
theorem dX8_feed_16 : decode cX8_feed 16 = .ok (.iload_n 1, 1) := by decide +kernel
theorem dX8_feed_17 : decode cX8_feed 17 = .ok (.invokevirtual 165, 3) := by decide +kernel
theorem dX8_feed_20 : decode cX8_feed 20 = .ok (.aload_n 0, 1) := by decide +kernel
theorem dX8_feed_21 : decode cX8_feed 21 = .ok (.iload_n 2, 1) := by decide +kernel
theorem dX8_feed_22 : decode cX8_feed 22 = .ok (.invokevirtual 165, 3) := by decide +kernel
theorem dX8_feed_25 : decode cX8_feed 25 = .ok (.aload_n 0, 1) := by decide +kernel
theorem dX8_feed_26 : decode cX8_feed 26 = .ok (.iload_n 3, 1) := by decide +kernel
theorem dX8_feed_27 : decode cX8_feed 27 = .ok (.invokevirtual 165, 3) := by decide +kernel
theorem dX8_feed_30 : decode cX8_feed 30 = .ok (.aload_n 0, 1) := by decide +kernel
theorem dX8_feed_31 : decode cX8_feed 31 = .ok (.iload 4, 2) := by decide +kernel
theorem dX8_feed_33 : decode cX8_feed 33 = .ok (.invokevirtual 165, 3) := by decide +kernel
theorem dX8_feed_36 : decode cX8_feed 36 = .ok (.aload_n 0, 1) := by decide +kernel
theorem dX8_feed_37 : decode cX8_feed 37 = .ok (.iload 5, 2) := by decide +kernel
theorem dX8_feed_39 : decode cX8_feed 39 = .ok (.invokevirtual 165, 3) := by decide +kernel
theorem dX8_feed_42 : decode cX8_feed 42 = .ok (.aload_n 0, 1) := by decide +kernel
theorem dX8_feed_43 : decode cX8_feed 43 = .ok (.getfield 162, 3) := by decide +kernel
theorem dX8_feed_46 : decode cX8_feed 46 = .ok (.ireturn, 1) := by decide +kernel
theorem dX8_end_0 : decode cX8_end 0 = .ok (.iload_n 1, 1) := by decide +kernel
theorem dX8_end_1 : decode cX8_end 1 = .ok (.iconst 0, 1) := by decide +kernel
theorem dX8_end_2 : decode cX8_end 2 = .ok (.aload_n 0, 1) := by decide +kernel
theorem dX8_end_3 : decode cX8_end 3 = .ok (.getfield 162, 3) := by decide +kernel
theorem dX8_end_6 : decode cX8_end 6 = .ok (.invokestatic 110, 3) := by decide +kernel
theorem dX8_end_9 : decode cX8_end 9 = .ok (.ifCond .ne 5, 3) := by decide +kernel
theorem dX8_end_12 : decode cX8_end 12 = .ok (.iconst (-1), 1) := by decide +kernel
theorem dX8_end_13 : decode cX8_end 13 = .ok (.ireturn, 1) := by decide +kernel
theorem dX8_end_14 : decode cX8_end 14 = .ok (.aload_n 0, 1) := by decide +kernel
theorem dX8_end_15 : decode cX8_end 15 = .ok (.iload_n 1, 1) := by decide +kernel
theorem dX8_end_16 : decode cX8_end 16 = .ok (.putfield 162, 3) := by decide +kernel
theorem dX8_end_19 : decode cX8_end 19 = .ok (.iload_n 1, 1) := by decide +kernel
theorem dX8_end_20 : decode cX8_end 20 = .ok (.ireturn, 1) := by decide +kernel
theorem dX8_isLetter_0 : decode cX8_isLetter 0 = .ok (.iload_n 0, 1) := by decide +kernel
theorem dX8_isLetter_1 : decode cX8_isLetter 1 = .ok (.bipush 97, 2) := by decide +kernel
theorem dX8_isLetter_3 : decode cX8_isLetter 3 = .ok (.bipush 122, 2) := by decide +kernel
theorem dX8_isLetter_5 : decode cX8_isLetter 5 = .ok (.invokestatic 110, 3) := by decide +kernel
theorem dX8_isLetter_8 : decode cX8_isLetter 8 = .ok (.ifCond .ne 14, 3) := by decide +kernel
theorem dX8_isLetter_11 : decode cX8_isLetter 11 = .ok (.iload_n 0, 1) := by decide +kernel
theorem dX8_isLetter_12 : decode cX8_isLetter 12 = .ok (.bipush 65, 2) := by decide +kernel
theorem dX8_isLetter_14 : decode cX8_isLetter 14 = .ok (.bipush 90, 2) := by decide +kernel
theorem dX8_isLetter_16 : decode cX8_isLetter 16 = .ok (.invokestatic 110, 3) := by decide +kernel
theorem dX8_isLetter_19 : decode cX8_isLetter 19 = .ok (.ifCond .eq 7, 3) := by decide +kernel
theorem dX8_isLetter_22 : decode cX8_isLetter 22 = .ok (.iconst 1, 1) := by decide +kernel
theorem dX8_isLetter_23 : decode cX8_isLetter 23 = .ok (.goto 4, 3) := by decide +kernel
theorem dX8_isLetter_26 : decode cX8_isLetter 26 = .ok (.iconst 0, 1) := by decide +kernel
theorem dX8_isLetter_27 : decode cX8_isLetter 27 = .ok (.ireturn, 1) := by decide +kernel
theorem dX8_wordOf_0 : decode cX8_wordOf 0 = .ok (.lload_n 0, 1) := by decide +kernel
theorem dX8_wordOf_1 : decode cX8_wordOf 1 = .ok (.ldc2_w 168, 3) := by decide +kernel
theorem dX8_wordOf_4 : decode cX8_wordOf 4 = .ok (.lcmp, 1) := by decide +kernel
theorem dX8_wordOf_5 : decode cX8_wordOf 5 = .ok (.ifCond .ne 5, 3) := by decide +kernel
theorem dX8_wordOf_8 : decode cX8_wordOf 8 = .ok (.iconst 0, 1) := by decide +kernel
theorem dX8_wordOf_9 : decode cX8_wordOf 9 = .ok (.ireturn, 1) := by decide +kernel
theorem dX8_wordOf_10 : decode cX8_wordOf 10 = .ok (.lload_n 0, 1) := by decide +kernel
theorem dX8_wordOf_11 : decode cX8_wordOf 11 = .ok (.ldc2_w 170, 3) := by decide +kernel
theorem dX8_wordOf_14 : decode cX8_wordOf 14 = .ok (.lcmp, 1) := by decide +kernel
theorem dX8_wordOf_15 : decode cX8_wordOf 15 = .ok (.ifCond .ne 5, 3) := by decide +kernel
theorem dX8_wordOf_18 : decode cX8_wordOf 18 = .ok (.iconst 1, 1) := by decide +kernel
theorem dX8_wordOf_19 : decode cX8_wordOf 19 = .ok (.ireturn, 1) := by decide +kernel
theorem dX8_wordOf_20 : decode cX8_wordOf 20 = .ok (.lload_n 0, 1) := by decide +kernel
theorem dX8_wordOf_21 : decode cX8_wordOf 21 = .ok (.ldc2_w 172, 3) := by decide +kernel
theorem dX8_wordOf_24 : decode cX8_wordOf 24 = .ok (.lcmp, 1) := by decide +kernel
theorem dX8_wordOf_25 : decode cX8_wordOf 25 = .ok (.ifCond .ne 5, 3) := by decide +kernel
theorem dX8_wordOf_28 : decode cX8_wordOf 28 = .ok (.iconst 2, 1) := by decide +kernel
theorem dX8_wordOf_29 : decode cX8_wordOf 29 = .ok (.ireturn, 1) := by decide +kernel
theorem dX8_wordOf_30 : decode cX8_wordOf 30 = .ok (.lload_n 0, 1) := by decide +kernel
theorem dX8_wordOf_31 : decode cX8_wordOf 31 = .ok (.ldc2_w 174, 3) := by decide +kernel
theorem dX8_wordOf_34 : decode cX8_wordOf 34 = .ok (.lcmp, 1) := by decide +kernel
theorem dX8_wordOf_35 : decode cX8_wordOf 35 = .ok (.ifCond .ne 5, 3) := by decide +kernel
theorem dX8_wordOf_38 : decode cX8_wordOf 38 = .ok (.iconst 3, 1) := by decide +kernel
theorem dX8_wordOf_39 : decode cX8_wordOf 39 = .ok (.ireturn, 1) := by decide +kernel
theorem dX8_wordOf_40 : decode cX8_wordOf 40 = .ok (.lload_n 0, 1) := by decide +kernel
theorem dX8_wordOf_41 : decode cX8_wordOf 41 = .ok (.ldc2_w 176, 3) := by decide +kernel
theorem dX8_wordOf_44 : decode cX8_wordOf 44 = .ok (.lcmp, 1) := by decide +kernel
theorem dX8_wordOf_45 : decode cX8_wordOf 45 = .ok (.ifCond .ne 5, 3) := by decide +kernel
theorem dX8_wordOf_48 : decode cX8_wordOf 48 = .ok (.iconst 4, 1) := by decide +kernel
theorem dX8_wordOf_49 : decode cX8_wordOf 49 = .ok (.ireturn, 1) := by decide +kernel
theorem dX8_wordOf_50 : decode cX8_wordOf 50 = .ok (.iconst (-1), 1) := by decide +kernel
theorem dX8_wordOf_51 : decode cX8_wordOf 51 = .ok (.ireturn, 1) := by decide +kernel
theorem dX8_next_0 : decode cX8_next 0 = .ok (.aload_n 0, 1) := by decide +kernel
theorem dX8_next_1 : decode cX8_next 1 = .ok (.getfield 178, 3) := by decide +kernel
theorem dX8_next_4 : decode cX8_next 4 = .ok (.iload_n 1, 1) := by decide +kernel
theorem dX8_next_5 : decode cX8_next 5 = .ok (.if_icmp .ge 30, 3) := by decide +kernel
theorem dX8_next_8 : decode cX8_next 8 = .ok (.aload_n 0, 1) := by decide +kernel
theorem dX8_next_9 : decode cX8_next 9 = .ok (.getfield 44, 3) := by decide +kernel
theorem dX8_next_12 : decode cX8_next 12 = .ok (.aload_n 0, 1) := by decide +kernel
theorem dX8_next_13 : decode cX8_next 13 = .ok (.getfield 178, 3) := by decide +kernel
theorem dX8_next_16 : decode cX8_next 16 = .ok (.baload, 1) := by decide +kernel
theorem dX8_next_17 : decode cX8_next 17 = .ok (.bipush 32, 2) := by decide +kernel
theorem dX8_next_19 : decode cX8_next 19 = .ok (.if_icmp .ne 16, 3) := by decide +kernel
theorem dX8_next_22 : decode cX8_next 22 = .ok (.aload_n 0, 1) := by decide +kernel
theorem dX8_next_23 : decode cX8_next 23 = .ok (.dup, 1) := by decide +kernel
theorem dX8_next_24 : decode cX8_next 24 = .ok (.getfield 178, 3) := by decide +kernel
theorem dX8_next_27 : decode cX8_next 27 = .ok (.iconst 1, 1) := by decide +kernel
theorem dX8_next_28 : decode cX8_next 28 = .ok (.iadd, 1) := by decide +kernel
theorem dX8_next_29 : decode cX8_next 29 = .ok (.putfield 178, 3) := by decide +kernel
theorem dX8_next_32 : decode cX8_next 32 = .ok (.goto (-32), 3) := by decide +kernel
theorem dX8_next_35 : decode cX8_next 35 = .ok (.aload_n 0, 1) := by decide +kernel
theorem dX8_next_36 : decode cX8_next 36 = .ok (.aload_n 0, 1) := by decide +kernel
theorem dX8_next_37 : decode cX8_next 37 = .ok (.getfield 178, 3) := by decide +kernel
theorem dX8_next_40 : decode cX8_next 40 = .ok (.putfield 181, 3) := by decide +kernel
theorem dX8_next_43 : decode cX8_next 43 = .ok (.aload_n 0, 1) := by decide +kernel
theorem dX8_next_44 : decode cX8_next 44 = .ok (.getfield 178, 3) := by decide +kernel
theorem dX8_next_47 : decode cX8_next 47 = .ok (.iload_n 1, 1) := by decide +kernel
theorem dX8_next_48 : decode cX8_next 48 = .ok (.if_icmp .ne 9, 3) := by decide +kernel
theorem dX8_next_51 : decode cX8_next 51 = .ok (.aload_n 0, 1) := by decide +kernel
theorem dX8_next_52 : decode cX8_next 52 = .ok (.iconst 0, 1) := by decide +kernel
theorem dX8_next_53 : decode cX8_next 53 = .ok (.putfield 184, 3) := by decide +kernel
theorem dX8_next_56 : decode cX8_next 56 = .ok (.return_, 1) := by decide +kernel
theorem dX8_next_57 : decode cX8_next 57 = .ok (.aload_n 0, 1) := by decide +kernel
theorem dX8_next_58 : decode cX8_next 58 = .ok (.getfield 44, 3) := by decide +kernel
theorem dX8_next_61 : decode cX8_next 61 = .ok (.aload_n 0, 1) := by decide +kernel
theorem dX8_next_62 : decode cX8_next 62 = .ok (.getfield 178, 3) := by decide +kernel
theorem dX8_next_65 : decode cX8_next 65 = .ok (.baload, 1) := by decide +kernel
theorem dX8_next_66 : decode cX8_next 66 = .ok (.istore_n 2, 1) := by decide +kernel
theorem dX8_next_67 : decode cX8_next 67 = .ok (.iload_n 2, 1) := by decide +kernel
theorem dX8_next_68 : decode cX8_next 68 = .ok (.invokestatic 187, 3) := by decide +kernel
theorem dX8_next_71 : decode cX8_next 71 = .ok (.ifCond .eq 117, 3) := by decide +kernel
theorem dX8_next_74 : decode cX8_next 74 = .ok (.lconst 0, 1) := by decide +kernel
theorem dX8_next_75 : decode cX8_next 75 = .ok (.lstore_n 3, 1) := by decide +kernel
theorem dX8_next_76 : decode cX8_next 76 = .ok (.iconst 0, 1) := by decide +kernel
theorem dX8_next_77 : decode cX8_next 77 = .ok (.istore 5, 2) := by decide +kernel
theorem dX8_next_79 : decode cX8_next 79 = .ok (.aload_n 0, 1) := by decide +kernel
theorem dX8_next_80 : decode cX8_next 80 = .ok (.getfield 178, 3) := by decide +kernel
theorem dX8_next_83 : decode cX8_next 83 = .ok (.iload_n 1, 1) := by decide +kernel
theorem dX8_next_84 : decode cX8_next 84 = .ok (.if_icmp .ge 66, 3) := by decide +kernel
theorem dX8_next_87 : decode cX8_next 87 = .ok (.aload_n 0, 1) := by decide +kernel
theorem dX8_next_88 : decode cX8_next 88 = .ok (.getfield 44, 3) := by decide +kernel
theorem dX8_next_91 : decode cX8_next 91 = .ok (.aload_n 0, 1) := by decide +kernel
theorem dX8_next_92 : decode cX8_next 92 = .ok (.getfield 178, 3) := by decide +kernel
theorem dX8_next_95 : decode cX8_next 95 = .ok (.baload, 1) := by decide +kernel
theorem dX8_next_96 : decode cX8_next 96 = .ok (.invokestatic 187, 3) := by decide +kernel
theorem dX8_next_99 : decode cX8_next 99 = .ok (.ifCond .eq 51, 3) := by decide +kernel
theorem dX8_next_102 : decode cX8_next 102 = .ok (.iload 5, 2) := by decide +kernel
theorem dX8_next_104 : decode cX8_next 104 = .ok (.bipush 8, 2) := by decide +kernel
theorem dX8_next_106 : decode cX8_next 106 = .ok (.if_icmp .ge 26, 3) := by decide +kernel
theorem dX8_next_109 : decode cX8_next 109 = .ok (.ldc2_w 190, 3) := by decide +kernel
theorem dX8_next_112 : decode cX8_next 112 = .ok (.lload_n 3, 1) := by decide +kernel
theorem dX8_next_113 : decode cX8_next 113 = .ok (.lmul, 1) := by decide +kernel
theorem dX8_next_114 : decode cX8_next 114 = .ok (.aload_n 0, 1) := by decide +kernel
theorem dX8_next_115 : decode cX8_next 115 = .ok (.getfield 44, 3) := by decide +kernel
theorem dX8_next_118 : decode cX8_next 118 = .ok (.aload_n 0, 1) := by decide +kernel
theorem dX8_next_119 : decode cX8_next 119 = .ok (.getfield 178, 3) := by decide +kernel
theorem dX8_next_122 : decode cX8_next 122 = .ok (.baload, 1) := by decide +kernel
theorem dX8_next_123 : decode cX8_next 123 = .ok (.i2l, 1) := by decide +kernel
theorem dX8_next_124 : decode cX8_next 124 = .ok (.ladd, 1) := by decide +kernel
theorem dX8_next_125 : decode cX8_next 125 = .ok (.ldc2_w 190, 3) := by decide +kernel
theorem dX8_next_128 : decode cX8_next 128 = .ok (.lsub, 1) := by decide +kernel
theorem dX8_next_129 : decode cX8_next 129 = .ok (.goto 4, 3) := by decide +kernel
theorem dX8_next_132 : decode cX8_next 132 = .ok (.lload_n 3, 1) := by decide +kernel
theorem dX8_next_133 : decode cX8_next 133 = .ok (.lstore_n 3, 1) := by decide +kernel
theorem dX8_next_134 : decode cX8_next 134 = .ok (.iinc 5 1, 3) := by decide +kernel
theorem dX8_next_137 : decode cX8_next 137 = .ok (.aload_n 0, 1) := by decide +kernel
theorem dX8_next_138 : decode cX8_next 138 = .ok (.dup, 1) := by decide +kernel
theorem dX8_next_139 : decode cX8_next 139 = .ok (.getfield 178, 3) := by decide +kernel
theorem dX8_next_142 : decode cX8_next 142 = .ok (.iconst 1, 1) := by decide +kernel
theorem dX8_next_143 : decode cX8_next 143 = .ok (.iadd, 1) := by decide +kernel
theorem dX8_next_144 : decode cX8_next 144 = .ok (.putfield 178, 3) := by decide +kernel
theorem dX8_next_147 : decode cX8_next 147 = .ok (.goto (-68), 3) := by decide +kernel
theorem dX8_next_150 : decode cX8_next 150 = .ok (.aload_n 0, 1) := by decide +kernel
theorem dX8_next_151 : decode cX8_next 151 = .ok (.iload 5, 2) := by decide +kernel
theorem dX8_next_153 : decode cX8_next 153 = .ok (.bipush 7, 2) := by decide +kernel
theorem dX8_next_155 : decode cX8_next 155 = .ok (.if_icmp .le 7, 3) := by decide +kernel
theorem dX8_next_158 : decode cX8_next 158 = .ok (.iconst (-1), 1) := by decide +kernel
theorem dX8_next_159 : decode cX8_next 159 = .ok (.goto 7, 3) := by decide +kernel
theorem dX8_next_162 : decode cX8_next 162 = .ok (.lload_n 3, 1) := by decide +kernel
theorem dX8_next_163 : decode cX8_next 163 = .ok (.invokestatic 192, 3) := by decide +kernel
theorem dX8_next_166 : decode cX8_next 166 = .ok (.putfield 196, 3) := by decide +kernel
theorem dX8_next_169 : decode cX8_next 169 = .ok (.aload_n 0, 1) := by decide +kernel
theorem dX8_next_170 : decode cX8_next 170 = .ok (.aload_n 0, 1) := by decide +kernel
theorem dX8_next_171 : decode cX8_next 171 = .ok (.getfield 196, 3) := by decide +kernel
theorem dX8_next_174 : decode cX8_next 174 = .ok (.ifCond .ge 7, 3) := by decide +kernel
theorem dX8_next_177 : decode cX8_next 177 = .ok (.iconst 4, 1) := by decide +kernel
theorem dX8_next_178 : decode cX8_next 178 = .ok (.goto 4, 3) := by decide +kernel
theorem dX8_next_181 : decode cX8_next 181 = .ok (.iconst 1, 1) := by decide +kernel
theorem dX8_next_182 : decode cX8_next 182 = .ok (.putfield 184, 3) := by decide +kernel
theorem dX8_next_185 : decode cX8_next 185 = .ok (.goto 129, 3) := by decide +kernel
theorem dX8_next_188 : decode cX8_next 188 = .ok (.iload_n 2, 1) := by decide +kernel
theorem dX8_next_189 : decode cX8_next 189 = .ok (.bipush 48, 2) := by decide +kernel
theorem dX8_next_191 : decode cX8_next 191 = .ok (.bipush 57, 2) := by decide +kernel
theorem dX8_next_193 : decode cX8_next 193 = .ok (.invokestatic 110, 3) := by decide +kernel
theorem dX8_next_196 : decode cX8_next 196 = .ok (.ifCond .eq 93, 3) := by decide +kernel
theorem dX8_next_199 : decode cX8_next 199 = .ok (.aload_n 0, 1) := by decide +kernel
theorem dX8_next_200 : decode cX8_next 200 = .ok (.iconst 2, 1) := by decide +kernel
theorem dX8_next_201 : decode cX8_next 201 = .ok (.putfield 184, 3) := by decide +kernel
theorem dX8_next_204 : decode cX8_next 204 = .ok (.aload_n 0, 1) := by decide +kernel
theorem dX8_next_205 : decode cX8_next 205 = .ok (.iconst 0, 1) := by decide +kernel
theorem dX8_next_206 : decode cX8_next 206 = .ok (.putfield 196, 3) := by decide +kernel
theorem dX8_next_209 : decode cX8_next 209 = .ok (.aload_n 0, 1) := by decide +kernel
theorem dX8_next_210 : decode cX8_next 210 = .ok (.getfield 178, 3) := by decide +kernel
theorem dX8_next_213 : decode cX8_next 213 = .ok (.iload_n 1, 1) := by decide +kernel
theorem dX8_next_214 : decode cX8_next 214 = .ok (.if_icmp .ge 100, 3) := by decide +kernel
theorem dX8_next_217 : decode cX8_next 217 = .ok (.aload_n 0, 1) := by decide +kernel
theorem dX8_next_218 : decode cX8_next 218 = .ok (.getfield 44, 3) := by decide +kernel
theorem dX8_next_221 : decode cX8_next 221 = .ok (.aload_n 0, 1) := by decide +kernel
theorem dX8_next_222 : decode cX8_next 222 = .ok (.getfield 178, 3) := by decide +kernel
theorem dX8_next_225 : decode cX8_next 225 = .ok (.baload, 1) := by decide +kernel
theorem dX8_next_226 : decode cX8_next 226 = .ok (.bipush 48, 2) := by decide +kernel
theorem dX8_next_228 : decode cX8_next 228 = .ok (.bipush 57, 2) := by decide +kernel
theorem dX8_next_230 : decode cX8_next 230 = .ok (.invokestatic 110, 3) := by decide +kernel
theorem dX8_next_233 : decode cX8_next 233 = .ok (.ifCond .eq 81, 3) := by decide +kernel
theorem dX8_next_236 : decode cX8_next 236 = .ok (.aload_n 0, 1) := by decide +kernel
theorem dX8_next_237 : decode cX8_next 237 = .ok (.aload_n 0, 1) := by decide +kernel
theorem dX8_next_238 : decode cX8_next 238 = .ok (.getfield 196, 3) := by decide +kernel
theorem dX8_next_241 : decode cX8_next 241 = .ok (.ldc 199, 2) := by decide +kernel
theorem dX8_next_243 : decode cX8_next 243 = .ok (.if_icmp .le 10, 3) := by decide +kernel
theorem dX8_next_246 : decode cX8_next 246 = .ok (.aload_n 0, 1) := by decide +kernel
theorem dX8_next_247 : decode cX8_next 247 = .ok (.getfield 196, 3) := by decide +kernel
theorem dX8_next_250 : decode cX8_next 250 = .ok (.goto 23, 3) := by decide +kernel
theorem dX8_next_253 : decode cX8_next 253 = .ok (.bipush 10, 2) := by decide +kernel
theorem dX8_next_255 : decode cX8_next 255 = .ok (.aload_n 0, 1) := by decide +kernel
theorem dX8_next_256 : decode cX8_next 256 = .ok (.getfield 196, 3) := by decide +kernel
theorem dX8_next_259 : decode cX8_next 259 = .ok (.imul, 1) := by decide +kernel
theorem dX8_next_260 : decode cX8_next 260 = .ok (.aload_n 0, 1) := by decide +kernel
theorem dX8_next_261 : decode cX8_next 261 = .ok (.getfield 44, 3) := by decide +kernel
theorem dX8_next_264 : decode cX8_next 264 = .ok (.aload_n 0, 1) := by decide +kernel
theorem dX8_next_265 : decode cX8_next 265 = .ok (.getfield 178, 3) := by decide +kernel
theorem dX8_next_268 : decode cX8_next 268 = .ok (.baload, 1) := by decide +kernel
theorem dX8_next_269 : decode cX8_next 269 = .ok (.iadd, 1) := by decide +kernel
theorem dX8_next_270 : decode cX8_next 270 = .ok (.bipush 48, 2) := by decide +kernel
theorem dX8_next_272 : decode cX8_next 272 = .ok (.isub, 1) := by decide +kernel
theorem dX8_next_273 : decode cX8_next 273 = .ok (.putfield 196, 3) := by decide +kernel
theorem dX8_next_276 : decode cX8_next 276 = .ok (.aload_n 0, 1) := by decide +kernel
theorem dX8_next_277 : decode cX8_next 277 = .ok (.dup, 1) := by decide +kernel
theorem dX8_next_278 : decode cX8_next 278 = .ok (.getfield 178, 3) := by decide +kernel
theorem dX8_next_281 : decode cX8_next 281 = .ok (.iconst 1, 1) := by decide +kernel
theorem dX8_next_282 : decode cX8_next 282 = .ok (.iadd, 1) := by decide +kernel
theorem dX8_next_283 : decode cX8_next 283 = .ok (.putfield 178, 3) := by decide +kernel
theorem dX8_next_286 : decode cX8_next 286 = .ok (.goto (-77), 3) := by decide +kernel
theorem dX8_next_289 : decode cX8_next 289 = .ok (.aload_n 0, 1) := by decide +kernel
theorem dX8_next_290 : decode cX8_next 290 = .ok (.dup, 1) := by decide +kernel
theorem dX8_next_291 : decode cX8_next 291 = .ok (.getfield 178, 3) := by decide +kernel
theorem dX8_next_294 : decode cX8_next 294 = .ok (.iconst 1, 1) := by decide +kernel
theorem dX8_next_295 : decode cX8_next 295 = .ok (.iadd, 1) := by decide +kernel
theorem dX8_next_296 : decode cX8_next 296 = .ok (.putfield 178, 3) := by decide +kernel
theorem dX8_next_299 : decode cX8_next 299 = .ok (.aload_n 0, 1) := by decide +kernel
theorem dX8_next_300 : decode cX8_next 300 = .ok (.iload_n 2, 1) := by decide +kernel
theorem dX8_next_301 : decode cX8_next 301 = .ok (.bipush 59, 2) := by decide +kernel
theorem dX8_next_303 : decode cX8_next 303 = .ok (.if_icmp .ne 7, 3) := by decide +kernel
theorem dX8_next_306 : decode cX8_next 306 = .ok (.iconst 3, 1) := by decide +kernel
theorem dX8_next_307 : decode cX8_next 307 = .ok (.goto 4, 3) := by decide +kernel
theorem dX8_next_310 : decode cX8_next 310 = .ok (.iconst 4, 1) := by decide +kernel
theorem dX8_next_311 : decode cX8_next 311 = .ok (.putfield 184, 3) := by decide +kernel
theorem dX8_next_314 : decode cX8_next 314 = .ok (.return_, 1) := by decide +kernel
theorem dX8_errs_0 : decode cX8_errs 0 = .ok (.aload_n 0, 1) := by decide +kernel
theorem dX8_errs_1 : decode cX8_errs 1 = .ok (.getfield 200, 3) := by decide +kernel
theorem dX8_errs_4 : decode cX8_errs 4 = .ok (.ifCond .ne 16, 3) := by decide +kernel
theorem dX8_errs_7 : decode cX8_errs 7 = .ok (.aload_n 0, 1) := by decide +kernel
theorem dX8_errs_8 : decode cX8_errs 8 = .ok (.iload_n 1, 1) := by decide +kernel
theorem dX8_errs_9 : decode cX8_errs 9 = .ok (.putfield 200, 3) := by decide +kernel
theorem dX8_errs_12 : decode cX8_errs 12 = .ok (.aload_n 0, 1) := by decide +kernel
theorem dX8_errs_13 : decode cX8_errs 13 = .ok (.aload_n 0, 1) := by decide +kernel
theorem dX8_errs_14 : decode cX8_errs 14 = .ok (.getfield 181, 3) := by decide +kernel
theorem dX8_errs_17 : decode cX8_errs 17 = .ok (.putfield 203, 3) := by decide +kernel
theorem dX8_errs_20 : decode cX8_errs 20 = .ok (.return_, 1) := by decide +kernel
theorem dX8_winds_0 : decode cX8_winds 0 = .ok (.aload_n 0, 1) := by decide +kernel
theorem dX8_winds_1 : decode cX8_winds 1 = .ok (.getfield 162, 3) := by decide +kernel
theorem dX8_winds_4 : decode cX8_winds 4 = .ok (.istore_n 1, 1) := by decide +kernel
theorem dX8_winds_5 : decode cX8_winds 5 = .ok (.aload_n 0, 1) := by decide +kernel
theorem dX8_winds_6 : decode cX8_winds 6 = .ok (.iconst 0, 1) := by decide +kernel
theorem dX8_winds_7 : decode cX8_winds 7 = .ok (.putfield 162, 3) := by decide +kernel
theorem dX8_winds_10 : decode cX8_winds 10 = .ok (.aload_n 0, 1) := by decide +kernel
theorem dX8_winds_11 : decode cX8_winds 11 = .ok (.iconst 0, 1) := by decide +kernel
theorem dX8_winds_12 : decode cX8_winds 12 = .ok (.putfield 178, 3) := by decide +kernel
theorem dX8_winds_15 : decode cX8_winds 15 = .ok (.aload_n 0, 1) := by decide +kernel
theorem dX8_winds_16 : decode cX8_winds 16 = .ok (.iconst 0, 1) := by decide +kernel
theorem dX8_winds_17 : decode cX8_winds 17 = .ok (.putfield 200, 3) := by decide +kernel
theorem dX8_winds_20 : decode cX8_winds 20 = .ok (.aload_n 0, 1) := by decide +kernel
theorem dX8_winds_21 : decode cX8_winds 21 = .ok (.iconst (-1), 1) := by decide +kernel
theorem dX8_winds_22 : decode cX8_winds 22 = .ok (.putfield 203, 3) := by decide +kernel
theorem dX8_winds_25 : decode cX8_winds 25 = .ok (.iconst 0, 1) := by decide +kernel
theorem dX8_winds_26 : decode cX8_winds 26 = .ok (.istore_n 2, 1) := by decide +kernel
theorem dX8_winds_27 : decode cX8_winds 27 = .ok (.aload_n 0, 1) := by decide +kernel
theorem dX8_winds_28 : decode cX8_winds 28 = .ok (.iload_n 1, 1) := by decide +kernel
theorem dX8_winds_29 : decode cX8_winds 29 = .ok (.invokevirtual 206, 3) := by decide +kernel
theorem dX8_winds_32 : decode cX8_winds 32 = .ok (.aload_n 0, 1) := by decide +kernel
theorem dX8_winds_33 : decode cX8_winds 33 = .ok (.getfield 184, 3) := by decide +kernel
theorem dX8_winds_36 : decode cX8_winds 36 = .ok (.ifCond .eq 138, 3) := by decide +kernel
theorem dX8_winds_39 : decode cX8_winds 39 = .ok (.aload_n 0, 1) := by decide +kernel
theorem dX8_winds_40 : decode cX8_winds 40 = .ok (.getfield 200, 3) := by decide +kernel
theorem dX8_winds_43 : decode cX8_winds 43 = .ok (.ifCond .ne 131, 3) := by decide +kernel
theorem dX8_winds_46 : decode cX8_winds 46 = .ok (.aload_n 0, 1) := by decide +kernel
theorem dX8_winds_47 : decode cX8_winds 47 = .ok (.getfield 184, 3) := by decide +kernel
theorem dX8_winds_50 : decode cX8_winds 50 = .ok (.iconst 1, 1) := by decide +kernel
theorem dX8_winds_51 : decode cX8_winds 51 = .ok (.if_icmp .eq 11, 3) := by decide +kernel
theorem dX8_winds_54 : decode cX8_winds 54 = .ok (.aload_n 0, 1) := by decide +kernel
theorem dX8_winds_55 : decode cX8_winds 55 = .ok (.iconst 1, 1) := by decide +kernel
theorem dX8_winds_56 : decode cX8_winds 56 = .ok (.invokevirtual 209, 3) := by decide +kernel
theorem dX8_winds_59 : decode cX8_winds 59 = .ok (.goto (-27), 3) := by decide +kernel
theorem dX8_winds_62 : decode cX8_winds 62 = .ok (.iload_n 2, 1) := by decide +kernel
theorem dX8_winds_63 : decode cX8_winds 63 = .ok (.bipush 20, 2) := by decide +kernel
theorem dX8_winds_65 : decode cX8_winds 65 = .ok (.if_icmp .ne 11, 3) := by decide +kernel
theorem dX8_winds_68 : decode cX8_winds 68 = .ok (.aload_n 0, 1) := by decide +kernel
theorem dX8_winds_69 : decode cX8_winds 69 = .ok (.iconst 3, 1) := by decide +kernel
theorem dX8_winds_70 : decode cX8_winds 70 = .ok (.invokevirtual 209, 3) := by decide +kernel
theorem dX8_winds_73 : decode cX8_winds 73 = .ok (.goto (-41), 3) := by decide +kernel
theorem dX8_winds_76 : decode cX8_winds 76 = .ok (.aload_n 0, 1) := by decide +kernel
theorem dX8_winds_77 : decode cX8_winds 77 = .ok (.getfield 54, 3) := by decide +kernel
theorem dX8_winds_80 : decode cX8_winds 80 = .ok (.iload_n 2, 1) := by decide +kernel
theorem dX8_winds_81 : decode cX8_winds 81 = .ok (.aload_n 0, 1) := by decide +kernel
theorem dX8_winds_82 : decode cX8_winds 82 = .ok (.getfield 196, 3) := by decide +kernel
theorem dX8_winds_85 : decode cX8_winds 85 = .ok (.iastore, 1) := by decide +kernel
theorem dX8_winds_86 : decode cX8_winds 86 = .ok (.aload_n 0, 1) := by decide +kernel
theorem dX8_winds_87 : decode cX8_winds 87 = .ok (.iload_n 1, 1) := by decide +kernel
theorem dX8_winds_88 : decode cX8_winds 88 = .ok (.invokevirtual 206, 3) := by decide +kernel
theorem dX8_winds_91 : decode cX8_winds 91 = .ok (.aload_n 0, 1) := by decide +kernel
theorem dX8_winds_92 : decode cX8_winds 92 = .ok (.getfield 184, 3) := by decide +kernel
theorem dX8_winds_95 : decode cX8_winds 95 = .ok (.iconst 2, 1) := by decide +kernel
theorem dX8_winds_96 : decode cX8_winds 96 = .ok (.if_icmp .eq 11, 3) := by decide +kernel
theorem dX8_winds_99 : decode cX8_winds 99 = .ok (.aload_n 0, 1) := by decide +kernel
theorem dX8_winds_100 : decode cX8_winds 100 = .ok (.iconst 1, 1) := by decide +kernel
theorem dX8_winds_101 : decode cX8_winds 101 = .ok (.invokevirtual 209, 3) := by decide +kernel
theorem dX8_winds_104 : decode cX8_winds 104 = .ok (.goto 21, 3) := by decide +kernel
theorem dX8_winds_107 : decode cX8_winds 107 = .ok (.aload_n 0, 1) := by decide +kernel
theorem dX8_winds_108 : decode cX8_winds 108 = .ok (.getfield 196, 3) := by decide +kernel
theorem dX8_winds_111 : decode cX8_winds 111 = .ok (.iconst 1, 1) := by decide +kernel
theorem dX8_winds_112 : decode cX8_winds 112 = .ok (.bipush 60, 2) := by decide +kernel
theorem dX8_winds_114 : decode cX8_winds 114 = .ok (.invokestatic 110, 3) := by decide +kernel
theorem dX8_winds_117 : decode cX8_winds 117 = .ok (.ifCond .ne 8, 3) := by decide +kernel
theorem dX8_winds_120 : decode cX8_winds 120 = .ok (.aload_n 0, 1) := by decide +kernel
theorem dX8_winds_121 : decode cX8_winds 121 = .ok (.iconst 2, 1) := by decide +kernel
theorem dX8_winds_122 : decode cX8_winds 122 = .ok (.invokevirtual 209, 3) := by decide +kernel
theorem dX8_winds_125 : decode cX8_winds 125 = .ok (.aload_n 0, 1) := by decide +kernel
theorem dX8_winds_126 : decode cX8_winds 126 = .ok (.getfield 57, 3) := by decide +kernel
theorem dX8_winds_129 : decode cX8_winds 129 = .ok (.iload_n 2, 1) := by decide +kernel
theorem dX8_winds_130 : decode cX8_winds 130 = .ok (.aload_n 0, 1) := by decide +kernel
theorem dX8_winds_131 : decode cX8_winds 131 = .ok (.getfield 196, 3) := by decide +kernel
theorem dX8_winds_134 : decode cX8_winds 134 = .ok (.iastore, 1) := by decide +kernel
theorem dX8_winds_135 : decode cX8_winds 135 = .ok (.iinc 2 1, 3) := by decide +kernel
theorem dX8_winds_138 : decode cX8_winds 138 = .ok (.aload_n 0, 1) := by decide +kernel
theorem dX8_winds_139 : decode cX8_winds 139 = .ok (.getfield 200, 3) := by decide +kernel
theorem dX8_winds_142 : decode cX8_winds 142 = .ok (.ifCond .ne (-110), 3) := by decide +kernel
theorem dX8_winds_145 : decode cX8_winds 145 = .ok (.aload_n 0, 1) := by decide +kernel
theorem dX8_winds_146 : decode cX8_winds 146 = .ok (.iload_n 1, 1) := by decide +kernel
theorem dX8_winds_147 : decode cX8_winds 147 = .ok (.invokevirtual 206, 3) := by decide +kernel
theorem dX8_winds_150 : decode cX8_winds 150 = .ok (.aload_n 0, 1) := by decide +kernel
theorem dX8_winds_151 : decode cX8_winds 151 = .ok (.getfield 184, 3) := by decide +kernel
theorem dX8_winds_154 : decode cX8_winds 154 = .ok (.iconst 3, 1) := by decide +kernel
theorem dX8_winds_155 : decode cX8_winds 155 = .ok (.if_icmp .eq 11, 3) := by decide +kernel
theorem dX8_winds_158 : decode cX8_winds 158 = .ok (.aload_n 0, 1) := by decide +kernel
theorem dX8_winds_159 : decode cX8_winds 159 = .ok (.iconst 1, 1) := by decide +kernel
theorem dX8_winds_160 : decode cX8_winds 160 = .ok (.invokevirtual 209, 3) := by decide +kernel
theorem dX8_winds_163 : decode cX8_winds 163 = .ok (.goto (-131), 3) := by decide +kernel
theorem dX8_winds_166 : decode cX8_winds 166 = .ok (.aload_n 0, 1) := by decide +kernel
theorem dX8_winds_167 : decode cX8_winds 167 = .ok (.iload_n 1, 1) := by decide +kernel
theorem dX8_winds_168 : decode cX8_winds 168 = .ok (.invokevirtual 206, 3) := by decide +kernel
theorem dX8_winds_171 : decode cX8_winds 171 = .ok (.goto (-139), 3) := by decide +kernel
theorem dX8_winds_174 : decode cX8_winds 174 = .ok (.aload_n 0, 1) := by decide +kernel
theorem dX8_winds_175 : decode cX8_winds 175 = .ok (.aload_n 0, 1) := by decide +kernel
theorem dX8_winds_176 : decode cX8_winds 176 = .ok (.getfield 200, 3) := by decide +kernel
theorem dX8_winds_179 : decode cX8_winds 179 = .ok (.putfield 48, 3) := by decide +kernel
theorem dX8_winds_182 : decode cX8_winds 182 = .ok (.aload_n 0, 1) := by decide +kernel
theorem dX8_winds_183 : decode cX8_winds 183 = .ok (.aload_n 0, 1) := by decide +kernel
theorem dX8_winds_184 : decode cX8_winds 184 = .ok (.getfield 203, 3) := by decide +kernel
theorem dX8_winds_187 : decode cX8_winds 187 = .ok (.putfield 51, 3) := by decide +kernel
theorem dX8_winds_190 : decode cX8_winds 190 = .ok (.aload_n 0, 1) := by decide +kernel
theorem dX8_winds_191 : decode cX8_winds 191 = .ok (.getfield 200, 3) := by decide +kernel
theorem dX8_winds_194 : decode cX8_winds 194 = .ok (.ifCond .le 5, 3) := by decide +kernel
theorem dX8_winds_197 : decode cX8_winds 197 = .ok (.iconst (-1), 1) := by decide +kernel
theorem dX8_winds_198 : decode cX8_winds 198 = .ok (.ireturn, 1) := by decide +kernel
theorem dX8_winds_199 : decode cX8_winds 199 = .ok (.aload_n 0, 1) := by decide +kernel
theorem dX8_winds_200 : decode cX8_winds 200 = .ok (.iload_n 2, 1) := by decide +kernel
theorem dX8_winds_201 : decode cX8_winds 201 = .ok (.putfield 133, 3) := by decide +kernel
theorem dX8_winds_204 : decode cX8_winds 204 = .ok (.iconst 0, 1) := by decide +kernel
theorem dX8_winds_205 : decode cX8_winds 205 = .ok (.istore_n 3, 1) := by decide +kernel
theorem dX8_winds_206 : decode cX8_winds 206 = .ok (.iload_n 3, 1) := by decide +kernel
theorem dX8_winds_207 : decode cX8_winds 207 = .ok (.iload_n 2, 1) := by decide +kernel
theorem dX8_winds_208 : decode cX8_winds 208 = .ok (.if_icmp .ge 33, 3) := by decide +kernel
theorem dX8_winds_211 : decode cX8_winds 211 = .ok (.aload_n 0, 1) := by decide +kernel
theorem dX8_winds_212 : decode cX8_winds 212 = .ok (.getfield 38, 3) := by decide +kernel
theorem dX8_winds_215 : decode cX8_winds 215 = .ok (.iload_n 3, 1) := by decide +kernel
theorem dX8_winds_216 : decode cX8_winds 216 = .ok (.aload_n 0, 1) := by decide +kernel
theorem dX8_winds_217 : decode cX8_winds 217 = .ok (.getfield 54, 3) := by decide +kernel
theorem dX8_winds_220 : decode cX8_winds 220 = .ok (.iload_n 3, 1) := by decide +kernel
theorem dX8_winds_221 : decode cX8_winds 221 = .ok (.iaload, 1) := by decide +kernel
theorem dX8_winds_222 : decode cX8_winds 222 = .ok (.iastore, 1) := by decide +kernel
theorem dX8_winds_223 : decode cX8_winds 223 = .ok (.aload_n 0, 1) := by decide +kernel
theorem dX8_winds_224 : decode cX8_winds 224 = .ok (.getfield 41, 3) := by decide +kernel
theorem dX8_winds_227 : decode cX8_winds 227 = .ok (.iload_n 3, 1) := by decide +kernel
theorem dX8_winds_228 : decode cX8_winds 228 = .ok (.aload_n 0, 1) := by decide +kernel
theorem dX8_winds_229 : decode cX8_winds 229 = .ok (.getfield 57, 3) := by decide +kernel
theorem dX8_winds_232 : decode cX8_winds 232 = .ok (.iload_n 3, 1) := by decide +kernel
theorem dX8_winds_233 : decode cX8_winds 233 = .ok (.iaload, 1) := by decide +kernel
theorem dX8_winds_234 : decode cX8_winds 234 = .ok (.iastore, 1) := by decide +kernel
theorem dX8_winds_235 : decode cX8_winds 235 = .ok (.iinc 3 1, 3) := by decide +kernel
theorem dX8_winds_238 : decode cX8_winds 238 = .ok (.goto (-32), 3) := by decide +kernel
theorem dX8_winds_241 : decode cX8_winds 241 = .ok (.aload_n 0, 1) := by decide +kernel
theorem dX8_winds_242 : decode cX8_winds 242 = .ok (.iconst 0, 1) := by decide +kernel
theorem dX8_winds_243 : decode cX8_winds 243 = .ok (.putfield 127, 3) := by decide +kernel
theorem dX8_winds_246 : decode cX8_winds 246 = .ok (.aload_n 0, 1) := by decide +kernel
theorem dX8_winds_247 : decode cX8_winds 247 = .ok (.iconst 0, 1) := by decide +kernel
theorem dX8_winds_248 : decode cX8_winds 248 = .ok (.putfield 130, 3) := by decide +kernel
theorem dX8_winds_251 : decode cX8_winds 251 = .ok (.iload_n 2, 1) := by decide +kernel
theorem dX8_winds_252 : decode cX8_winds 252 = .ok (.ireturn, 1) := by decide +kernel
theorem dX8_fault_0 : decode cX8_fault 0 = .ok (.iload_n 1, 1) := by decide +kernel
theorem dX8_fault_1 : decode cX8_fault 1 = .ok (.ifCond .ne 10, 3) := by decide +kernel
theorem dX8_fault_4 : decode cX8_fault 4 = .ok (.aload_n 0, 1) := by decide +kernel
theorem dX8_fault_5 : decode cX8_fault 5 = .ok (.getfield 48, 3) := by decide +kernel
theorem dX8_fault_8 : decode cX8_fault 8 = .ok (.goto 16, 3) := by decide +kernel
theorem dX8_fault_11 : decode cX8_fault 11 = .ok (.iload_n 1, 1) := by decide +kernel
theorem dX8_fault_12 : decode cX8_fault 12 = .ok (.iconst 1, 1) := by decide +kernel
theorem dX8_fault_13 : decode cX8_fault 13 = .ok (.if_icmp .ne 10, 3) := by decide +kernel
theorem dX8_fault_16 : decode cX8_fault 16 = .ok (.aload_n 0, 1) := by decide +kernel
theorem dX8_fault_17 : decode cX8_fault 17 = .ok (.getfield 51, 3) := by decide +kernel
theorem dX8_fault_20 : decode cX8_fault 20 = .ok (.goto 4, 3) := by decide +kernel
theorem dX8_fault_23 : decode cX8_fault 23 = .ok (.iconst (-1), 1) := by decide +kernel
theorem dX8_fault_24 : decode cX8_fault 24 = .ok (.ireturn, 1) := by decide +kernel
theorem dX8_windNow_0 : decode cX8_windNow 0 = .ok (.aload_n 0, 1) := by decide +kernel
theorem dX8_windNow_1 : decode cX8_windNow 1 = .ok (.getfield 133, 3) := by decide +kernel
theorem dX8_windNow_4 : decode cX8_windNow 4 = .ok (.ifCond .ne 7, 3) := by decide +kernel
theorem dX8_windNow_7 : decode cX8_windNow 7 = .ok (.iconst 4, 1) := by decide +kernel
theorem dX8_windNow_8 : decode cX8_windNow 8 = .ok (.goto 12, 3) := by decide +kernel
theorem dX8_windNow_11 : decode cX8_windNow 11 = .ok (.aload_n 0, 1) := by decide +kernel
theorem dX8_windNow_12 : decode cX8_windNow 12 = .ok (.getfield 38, 3) := by decide +kernel
theorem dX8_windNow_15 : decode cX8_windNow 15 = .ok (.aload_n 0, 1) := by decide +kernel
theorem dX8_windNow_16 : decode cX8_windNow 16 = .ok (.getfield 127, 3) := by decide +kernel
theorem dX8_windNow_19 : decode cX8_windNow 19 = .ok (.iaload, 1) := by decide +kernel
theorem dX8_windNow_20 : decode cX8_windNow 20 = .ok (.ireturn, 1) := by decide +kernel
theorem dX8_windGoesOn_0 : decode cX8_windGoesOn 0 = .ok (.aload_n 0, 1) := by decide +kernel
theorem dX8_windGoesOn_1 : decode cX8_windGoesOn 1 = .ok (.getfield 133, 3) := by decide +kernel
theorem dX8_windGoesOn_4 : decode cX8_windGoesOn 4 = .ok (.ifCond .le 49, 3) := by decide +kernel
theorem dX8_windGoesOn_7 : decode cX8_windGoesOn 7 = .ok (.aload_n 0, 1) := by decide +kernel
theorem dX8_windGoesOn_8 : decode cX8_windGoesOn 8 = .ok (.dup, 1) := by decide +kernel
theorem dX8_windGoesOn_9 : decode cX8_windGoesOn 9 = .ok (.getfield 130, 3) := by decide +kernel
theorem dX8_windGoesOn_12 : decode cX8_windGoesOn 12 = .ok (.iconst 1, 1) := by decide +kernel
theorem dX8_windGoesOn_13 : decode cX8_windGoesOn 13 = .ok (.iadd, 1) := by decide +kernel
theorem dX8_windGoesOn_14 : decode cX8_windGoesOn 14 = .ok (.putfield 130, 3) := by decide +kernel
theorem dX8_windGoesOn_17 : decode cX8_windGoesOn 17 = .ok (.aload_n 0, 1) := by decide +kernel
theorem dX8_windGoesOn_18 : decode cX8_windGoesOn 18 = .ok (.getfield 130, 3) := by decide +kernel
theorem dX8_windGoesOn_21 : decode cX8_windGoesOn 21 = .ok (.aload_n 0, 1) := by decide +kernel
theorem dX8_windGoesOn_22 : decode cX8_windGoesOn 22 = .ok (.getfield 41, 3) := by decide +kernel
theorem dX8_windGoesOn_25 : decode cX8_windGoesOn 25 = .ok (.aload_n 0, 1) := by decide +kernel
theorem dX8_windGoesOn_26 : decode cX8_windGoesOn 26 = .ok (.getfield 127, 3) := by decide +kernel
theorem dX8_windGoesOn_29 : decode cX8_windGoesOn 29 = .ok (.iaload, 1) := by decide +kernel
theorem dX8_windGoesOn_30 : decode cX8_windGoesOn 30 = .ok (.if_icmp .ne 23, 3) := by decide +kernel
theorem dX8_windGoesOn_33 : decode cX8_windGoesOn 33 = .ok (.aload_n 0, 1) := by decide +kernel
theorem dX8_windGoesOn_34 : decode cX8_windGoesOn 34 = .ok (.iconst 0, 1) := by decide +kernel
theorem dX8_windGoesOn_35 : decode cX8_windGoesOn 35 = .ok (.putfield 130, 3) := by decide +kernel
theorem dX8_windGoesOn_38 : decode cX8_windGoesOn 38 = .ok (.aload_n 0, 1) := by decide +kernel
theorem dX8_windGoesOn_39 : decode cX8_windGoesOn 39 = .ok (.aload_n 0, 1) := by decide +kernel
theorem dX8_windGoesOn_40 : decode cX8_windGoesOn 40 = .ok (.getfield 127, 3) := by decide +kernel
theorem dX8_windGoesOn_43 : decode cX8_windGoesOn 43 = .ok (.iconst 1, 1) := by decide +kernel
theorem dX8_windGoesOn_44 : decode cX8_windGoesOn 44 = .ok (.iadd, 1) := by decide +kernel
theorem dX8_windGoesOn_45 : decode cX8_windGoesOn 45 = .ok (.aload_n 0, 1) := by decide +kernel
theorem dX8_windGoesOn_46 : decode cX8_windGoesOn 46 = .ok (.getfield 133, 3) := by decide +kernel
theorem dX8_windGoesOn_49 : decode cX8_windGoesOn 49 = .ok (.irem, 1) := by decide +kernel
theorem dX8_windGoesOn_50 : decode cX8_windGoesOn 50 = .ok (.putfield 127, 3) := by decide +kernel
theorem dX8_windGoesOn_53 : decode cX8_windGoesOn 53 = .ok (.return_, 1) := by decide +kernel
theorem dX8_ahead_0 : decode cX8_ahead 0 = .ok (.iload_n 1, 1) := by decide +kernel
theorem dX8_ahead_1 : decode cX8_ahead 1 = .ok (.aload_n 0, 1) := by decide +kernel
theorem dX8_ahead_2 : decode cX8_ahead 2 = .ok (.getfield 97, 3) := by decide +kernel
theorem dX8_ahead_5 : decode cX8_ahead 5 = .ok (.irem, 1) := by decide +kernel
theorem dX8_ahead_6 : decode cX8_ahead 6 = .ok (.istore 4, 2) := by decide +kernel
theorem dX8_ahead_8 : decode cX8_ahead 8 = .ok (.iload_n 1, 1) := by decide +kernel
theorem dX8_ahead_9 : decode cX8_ahead 9 = .ok (.aload_n 0, 1) := by decide +kernel
theorem dX8_ahead_10 : decode cX8_ahead 10 = .ok (.getfield 97, 3) := by decide +kernel
theorem dX8_ahead_13 : decode cX8_ahead 13 = .ok (.idiv, 1) := by decide +kernel
theorem dX8_ahead_14 : decode cX8_ahead 14 = .ok (.istore 5, 2) := by decide +kernel
theorem dX8_ahead_16 : decode cX8_ahead 16 = .ok (.iload_n 2, 1) := by decide +kernel
theorem dX8_ahead_17 : decode cX8_ahead 17 = .ok (.iconst 2, 1) := by decide +kernel
theorem dX8_ahead_18 : decode cX8_ahead 18 = .ok (.if_icmp .ge 54, 3) := by decide +kernel
theorem dX8_ahead_21 : decode cX8_ahead 21 = .ok (.iload_n 2, 1) := by decide +kernel
theorem dX8_ahead_22 : decode cX8_ahead 22 = .ok (.ifCond .ne 10, 3) := by decide +kernel
theorem dX8_ahead_25 : decode cX8_ahead 25 = .ok (.iload 4, 2) := by decide +kernel
theorem dX8_ahead_27 : decode cX8_ahead 27 = .ok (.iload_n 3, 1) := by decide +kernel
theorem dX8_ahead_28 : decode cX8_ahead 28 = .ok (.iadd, 1) := by decide +kernel
theorem dX8_ahead_29 : decode cX8_ahead 29 = .ok (.goto 7, 3) := by decide +kernel
theorem dX8_ahead_32 : decode cX8_ahead 32 = .ok (.iload 4, 2) := by decide +kernel
theorem dX8_ahead_34 : decode cX8_ahead 34 = .ok (.iload_n 3, 1) := by decide +kernel
theorem dX8_ahead_35 : decode cX8_ahead 35 = .ok (.isub, 1) := by decide +kernel
theorem dX8_ahead_36 : decode cX8_ahead 36 = .ok (.istore 6, 2) := by decide +kernel
theorem dX8_ahead_38 : decode cX8_ahead 38 = .ok (.iload 6, 2) := by decide +kernel
theorem dX8_ahead_40 : decode cX8_ahead 40 = .ok (.ifCond .ge 7, 3) := by decide +kernel
theorem dX8_ahead_43 : decode cX8_ahead 43 = .ok (.iconst (-1), 1) := by decide +kernel
theorem dX8_ahead_44 : decode cX8_ahead 44 = .ok (.goto 27, 3) := by decide +kernel
theorem dX8_ahead_47 : decode cX8_ahead 47 = .ok (.iload 6, 2) := by decide +kernel
theorem dX8_ahead_49 : decode cX8_ahead 49 = .ok (.aload_n 0, 1) := by decide +kernel
theorem dX8_ahead_50 : decode cX8_ahead 50 = .ok (.getfield 97, 3) := by decide +kernel
theorem dX8_ahead_53 : decode cX8_ahead 53 = .ok (.if_icmp .lt 8, 3) := by decide +kernel
theorem dX8_ahead_56 : decode cX8_ahead 56 = .ok (.bipush (-2), 2) := by decide +kernel
theorem dX8_ahead_58 : decode cX8_ahead 58 = .ok (.goto 13, 3) := by decide +kernel
theorem dX8_ahead_61 : decode cX8_ahead 61 = .ok (.iload 5, 2) := by decide +kernel
theorem dX8_ahead_63 : decode cX8_ahead 63 = .ok (.aload_n 0, 1) := by decide +kernel
theorem dX8_ahead_64 : decode cX8_ahead 64 = .ok (.getfield 97, 3) := by decide +kernel
theorem dX8_ahead_67 : decode cX8_ahead 67 = .ok (.imul, 1) := by decide +kernel
theorem dX8_ahead_68 : decode cX8_ahead 68 = .ok (.iload 6, 2) := by decide +kernel
theorem dX8_ahead_70 : decode cX8_ahead 70 = .ok (.iadd, 1) := by decide +kernel
theorem dX8_ahead_71 : decode cX8_ahead 71 = .ok (.ireturn, 1) := by decide +kernel
theorem dX8_ahead_72 : decode cX8_ahead 72 = .ok (.iload_n 2, 1) := by decide +kernel
theorem dX8_ahead_73 : decode cX8_ahead 73 = .ok (.iconst 2, 1) := by decide +kernel
theorem dX8_ahead_74 : decode cX8_ahead 74 = .ok (.if_icmp .ne 10, 3) := by decide +kernel
theorem dX8_ahead_77 : decode cX8_ahead 77 = .ok (.iload 5, 2) := by decide +kernel
theorem dX8_ahead_79 : decode cX8_ahead 79 = .ok (.iload_n 3, 1) := by decide +kernel
theorem dX8_ahead_80 : decode cX8_ahead 80 = .ok (.iadd, 1) := by decide +kernel
theorem dX8_ahead_81 : decode cX8_ahead 81 = .ok (.goto 7, 3) := by decide +kernel
theorem dX8_ahead_84 : decode cX8_ahead 84 = .ok (.iload 5, 2) := by decide +kernel
theorem dX8_ahead_86 : decode cX8_ahead 86 = .ok (.iload_n 3, 1) := by decide +kernel
theorem dX8_ahead_87 : decode cX8_ahead 87 = .ok (.isub, 1) := by decide +kernel
theorem dX8_ahead_88 : decode cX8_ahead 88 = .ok (.aload_n 0, 1) := by decide +kernel
theorem dX8_ahead_89 : decode cX8_ahead 89 = .ok (.getfield 100, 3) := by decide +kernel
theorem dX8_ahead_92 : decode cX8_ahead 92 = .ok (.irem, 1) := by decide +kernel
theorem dX8_ahead_93 : decode cX8_ahead 93 = .ok (.istore 6, 2) := by decide +kernel
theorem dX8_ahead_95 : decode cX8_ahead 95 = .ok (.iload 6, 2) := by decide +kernel
theorem dX8_ahead_97 : decode cX8_ahead 97 = .ok (.ifCond .ge 13, 3) := by decide +kernel
theorem dX8_ahead_100 : decode cX8_ahead 100 = .ok (.iload 6, 2) := by decide +kernel
theorem dX8_ahead_102 : decode cX8_ahead 102 = .ok (.aload_n 0, 1) := by decide +kernel
theorem dX8_ahead_103 : decode cX8_ahead 103 = .ok (.getfield 100, 3) := by decide +kernel
theorem dX8_ahead_106 : decode cX8_ahead 106 = .ok (.iadd, 1) := by decide +kernel
theorem dX8_ahead_107 : decode cX8_ahead 107 = .ok (.goto 5, 3) := by decide +kernel
theorem dX8_ahead_110 : decode cX8_ahead 110 = .ok (.iload 6, 2) := by decide +kernel
theorem dX8_ahead_112 : decode cX8_ahead 112 = .ok (.aload_n 0, 1) := by decide +kernel
theorem dX8_ahead_113 : decode cX8_ahead 113 = .ok (.getfield 97, 3) := by decide +kernel
theorem dX8_ahead_116 : decode cX8_ahead 116 = .ok (.imul, 1) := by decide +kernel
theorem dX8_ahead_117 : decode cX8_ahead 117 = .ok (.iload 4, 2) := by decide +kernel
theorem dX8_ahead_119 : decode cX8_ahead 119 = .ok (.iadd, 1) := by decide +kernel
theorem dX8_ahead_120 : decode cX8_ahead 120 = .ok (.ireturn, 1) := by decide +kernel
theorem dX8_isShadow_0 : decode cX8_isShadow 0 = .ok (.iconst 0, 1) := by decide +kernel
theorem dX8_isShadow_1 : decode cX8_isShadow 1 = .ok (.istore_n 3, 1) := by decide +kernel
theorem dX8_isShadow_2 : decode cX8_isShadow 2 = .ok (.iconst 1, 1) := by decide +kernel
theorem dX8_isShadow_3 : decode cX8_isShadow 3 = .ok (.istore 4, 2) := by decide +kernel
theorem dX8_isShadow_5 : decode cX8_isShadow 5 = .ok (.iload 4, 2) := by decide +kernel
theorem dX8_isShadow_7 : decode cX8_isShadow 7 = .ok (.bipush 9, 2) := by decide +kernel
theorem dX8_isShadow_9 : decode cX8_isShadow 9 = .ok (.if_icmp .ge 54, 3) := by decide +kernel
theorem dX8_isShadow_12 : decode cX8_isShadow 12 = .ok (.aload_n 0, 1) := by decide +kernel
theorem dX8_isShadow_13 : decode cX8_isShadow 13 = .ok (.iload_n 1, 1) := by decide +kernel
theorem dX8_isShadow_14 : decode cX8_isShadow 14 = .ok (.iload_n 2, 1) := by decide +kernel
theorem dX8_isShadow_15 : decode cX8_isShadow 15 = .ok (.iload 4, 2) := by decide +kernel
theorem dX8_isShadow_17 : decode cX8_isShadow 17 = .ok (.ineg, 1) := by decide +kernel
theorem dX8_isShadow_18 : decode cX8_isShadow 18 = .ok (.invokevirtual 212, 3) := by decide +kernel
theorem dX8_isShadow_21 : decode cX8_isShadow 21 = .ok (.istore 5, 2) := by decide +kernel
theorem dX8_isShadow_23 : decode cX8_isShadow 23 = .ok (.iload_n 3, 1) := by decide +kernel
theorem dX8_isShadow_24 : decode cX8_isShadow 24 = .ok (.ifCond .ne 27, 3) := by decide +kernel
theorem dX8_isShadow_27 : decode cX8_isShadow 27 = .ok (.iload 5, 2) := by decide +kernel
theorem dX8_isShadow_29 : decode cX8_isShadow 29 = .ok (.ifCond .lt 26, 3) := by decide +kernel
theorem dX8_isShadow_32 : decode cX8_isShadow 32 = .ok (.aload_n 0, 1) := by decide +kernel
theorem dX8_isShadow_33 : decode cX8_isShadow 33 = .ok (.getfield 7, 3) := by decide +kernel
theorem dX8_isShadow_36 : decode cX8_isShadow 36 = .ok (.iload 5, 2) := by decide +kernel
theorem dX8_isShadow_38 : decode cX8_isShadow 38 = .ok (.iaload, 1) := by decide +kernel
theorem dX8_isShadow_39 : decode cX8_isShadow 39 = .ok (.aload_n 0, 1) := by decide +kernel
theorem dX8_isShadow_40 : decode cX8_isShadow 40 = .ok (.getfield 7, 3) := by decide +kernel
theorem dX8_isShadow_43 : decode cX8_isShadow 43 = .ok (.iload_n 1, 1) := by decide +kernel
theorem dX8_isShadow_44 : decode cX8_isShadow 44 = .ok (.iaload, 1) := by decide +kernel
theorem dX8_isShadow_45 : decode cX8_isShadow 45 = .ok (.iload 4, 2) := by decide +kernel
theorem dX8_isShadow_47 : decode cX8_isShadow 47 = .ok (.iadd, 1) := by decide +kernel
theorem dX8_isShadow_48 : decode cX8_isShadow 48 = .ok (.if_icmp .lt 7, 3) := by decide +kernel
theorem dX8_isShadow_51 : decode cX8_isShadow 51 = .ok (.iconst 1, 1) := by decide +kernel
theorem dX8_isShadow_52 : decode cX8_isShadow 52 = .ok (.goto 4, 3) := by decide +kernel
theorem dX8_isShadow_55 : decode cX8_isShadow 55 = .ok (.iconst 0, 1) := by decide +kernel
theorem dX8_isShadow_56 : decode cX8_isShadow 56 = .ok (.istore_n 3, 1) := by decide +kernel
theorem dX8_isShadow_57 : decode cX8_isShadow 57 = .ok (.iinc 4 1, 3) := by decide +kernel
theorem dX8_isShadow_60 : decode cX8_isShadow 60 = .ok (.goto (-55), 3) := by decide +kernel
theorem dX8_isShadow_63 : decode cX8_isShadow 63 = .ok (.iload_n 3, 1) := by decide +kernel
theorem dX8_isShadow_64 : decode cX8_isShadow 64 = .ok (.ireturn, 1) := by decide +kernel
theorem dX8_lifts_0 : decode cX8_lifts 0 = .ok (.aload_n 0, 1) := by decide +kernel
theorem dX8_lifts_1 : decode cX8_lifts 1 = .ok (.aload_n 0, 1) := by decide +kernel
theorem dX8_lifts_2 : decode cX8_lifts 2 = .ok (.getfield 103, 3) := by decide +kernel
theorem dX8_lifts_5 : decode cX8_lifts 5 = .ok (.invokevirtual 216, 3) := by decide +kernel
theorem dX8_lifts_8 : decode cX8_lifts 8 = .ok (.istore_n 2, 1) := by decide +kernel
theorem dX8_lifts_9 : decode cX8_lifts 9 = .ok (.aload_n 0, 1) := by decide +kernel
theorem dX8_lifts_10 : decode cX8_lifts 10 = .ok (.getfield 7, 3) := by decide +kernel
theorem dX8_lifts_13 : decode cX8_lifts 13 = .ok (.iload_n 2, 1) := by decide +kernel
theorem dX8_lifts_14 : decode cX8_lifts 14 = .ok (.iaload, 1) := by decide +kernel
theorem dX8_lifts_15 : decode cX8_lifts 15 = .ok (.ifCond .eq 45, 3) := by decide +kernel
theorem dX8_lifts_18 : decode cX8_lifts 18 = .ok (.aload_n 0, 1) := by decide +kernel
theorem dX8_lifts_19 : decode cX8_lifts 19 = .ok (.iload_n 2, 1) := by decide +kernel
theorem dX8_lifts_20 : decode cX8_lifts 20 = .ok (.iload_n 1, 1) := by decide +kernel
theorem dX8_lifts_21 : decode cX8_lifts 21 = .ok (.invokevirtual 220, 3) := by decide +kernel
theorem dX8_lifts_24 : decode cX8_lifts 24 = .ok (.ifCond .ne 36, 3) := by decide +kernel
theorem dX8_lifts_27 : decode cX8_lifts 27 = .ok (.aload_n 0, 1) := by decide +kernel
theorem dX8_lifts_28 : decode cX8_lifts 28 = .ok (.getfield 25, 3) := by decide +kernel
theorem dX8_lifts_31 : decode cX8_lifts 31 = .ok (.iload_n 2, 1) := by decide +kernel
theorem dX8_lifts_32 : decode cX8_lifts 32 = .ok (.iaload, 1) := by decide +kernel
theorem dX8_lifts_33 : decode cX8_lifts 33 = .ok (.ifCond .gt 27, 3) := by decide +kernel
theorem dX8_lifts_36 : decode cX8_lifts 36 = .ok (.aload_n 0, 1) := by decide +kernel
theorem dX8_lifts_37 : decode cX8_lifts 37 = .ok (.getfield 16, 3) := by decide +kernel
theorem dX8_lifts_40 : decode cX8_lifts 40 = .ok (.iload_n 2, 1) := by decide +kernel
theorem dX8_lifts_41 : decode cX8_lifts 41 = .ok (.iaload, 1) := by decide +kernel
theorem dX8_lifts_42 : decode cX8_lifts 42 = .ok (.ifCond .le 19, 3) := by decide +kernel
theorem dX8_lifts_45 : decode cX8_lifts 45 = .ok (.aload_n 0, 1) := by decide +kernel
theorem dX8_lifts_46 : decode cX8_lifts 46 = .ok (.bipush 100, 2) := by decide +kernel
theorem dX8_lifts_48 : decode cX8_lifts 48 = .ok (.invokevirtual 216, 3) := by decide +kernel
theorem dX8_lifts_51 : decode cX8_lifts 51 = .ok (.aload_n 0, 1) := by decide +kernel
theorem dX8_lifts_52 : decode cX8_lifts 52 = .ok (.getfield 16, 3) := by decide +kernel
theorem dX8_lifts_55 : decode cX8_lifts 55 = .ok (.iload_n 2, 1) := by decide +kernel
theorem dX8_lifts_56 : decode cX8_lifts 56 = .ok (.iaload, 1) := by decide +kernel
theorem dX8_lifts_57 : decode cX8_lifts 57 = .ok (.if_icmp .ge 4, 3) := by decide +kernel
theorem dX8_lifts_60 : decode cX8_lifts 60 = .ok (.return_, 1) := by decide +kernel
theorem dX8_lifts_61 : decode cX8_lifts 61 = .ok (.aload_n 0, 1) := by decide +kernel
theorem dX8_lifts_62 : decode cX8_lifts 62 = .ok (.getfield 7, 3) := by decide +kernel
theorem dX8_lifts_65 : decode cX8_lifts 65 = .ok (.iload_n 2, 1) := by decide +kernel
theorem dX8_lifts_66 : decode cX8_lifts 66 = .ok (.dup2, 1) := by decide +kernel
theorem dX8_lifts_67 : decode cX8_lifts 67 = .ok (.iaload, 1) := by decide +kernel
theorem dX8_lifts_68 : decode cX8_lifts 68 = .ok (.iconst 1, 1) := by decide +kernel
theorem dX8_lifts_69 : decode cX8_lifts 69 = .ok (.isub, 1) := by decide +kernel
theorem dX8_lifts_70 : decode cX8_lifts 70 = .ok (.iastore, 1) := by decide +kernel
theorem dX8_lifts_71 : decode cX8_lifts 71 = .ok (.aload_n 0, 1) := by decide +kernel
theorem dX8_lifts_72 : decode cX8_lifts 72 = .ok (.iload_n 2, 1) := by decide +kernel
theorem dX8_lifts_73 : decode cX8_lifts 73 = .ok (.invokevirtual 156, 3) := by decide +kernel
theorem dX8_lifts_76 : decode cX8_lifts 76 = .ok (.iload_n 2, 1) := by decide +kernel
theorem dX8_lifts_77 : decode cX8_lifts 77 = .ok (.istore_n 3, 1) := by decide +kernel
theorem dX8_lifts_78 : decode cX8_lifts 78 = .ok (.iconst 1, 1) := by decide +kernel
theorem dX8_lifts_79 : decode cX8_lifts 79 = .ok (.istore 4, 2) := by decide +kernel
theorem dX8_lifts_81 : decode cX8_lifts 81 = .ok (.iload 4, 2) := by decide +kernel
theorem dX8_lifts_83 : decode cX8_lifts 83 = .ok (.bipush 11, 2) := by decide +kernel
theorem dX8_lifts_85 : decode cX8_lifts 85 = .ok (.if_icmp .ge 146, 3) := by decide +kernel
theorem dX8_lifts_88 : decode cX8_lifts 88 = .ok (.aload_n 0, 1) := by decide +kernel
theorem dX8_lifts_89 : decode cX8_lifts 89 = .ok (.iload_n 3, 1) := by decide +kernel
theorem dX8_lifts_90 : decode cX8_lifts 90 = .ok (.iload_n 1, 1) := by decide +kernel
theorem dX8_lifts_91 : decode cX8_lifts 91 = .ok (.aload_n 0, 1) := by decide +kernel
theorem dX8_lifts_92 : decode cX8_lifts 92 = .ok (.getfield 31, 3) := by decide +kernel
theorem dX8_lifts_95 : decode cX8_lifts 95 = .ok (.iconst 0, 1) := by decide +kernel
theorem dX8_lifts_96 : decode cX8_lifts 96 = .ok (.iaload, 1) := by decide +kernel
theorem dX8_lifts_97 : decode cX8_lifts 97 = .ok (.invokevirtual 212, 3) := by decide +kernel
theorem dX8_lifts_100 : decode cX8_lifts 100 = .ok (.istore_n 3, 1) := by decide +kernel
theorem dX8_lifts_101 : decode cX8_lifts 101 = .ok (.iload_n 3, 1) := by decide +kernel
theorem dX8_lifts_102 : decode cX8_lifts 102 = .ok (.ifCond .ge 43, 3) := by decide +kernel
theorem dX8_lifts_105 : decode cX8_lifts 105 = .ok (.aload_n 0, 1) := by decide +kernel
theorem dX8_lifts_106 : decode cX8_lifts 106 = .ok (.dup, 1) := by decide +kernel
theorem dX8_lifts_107 : decode cX8_lifts 107 = .ok (.getfield 118, 3) := by decide +kernel
theorem dX8_lifts_110 : decode cX8_lifts 110 = .ok (.iload_n 3, 1) := by decide +kernel
theorem dX8_lifts_111 : decode cX8_lifts 111 = .ok (.iconst (-1), 1) := by decide +kernel
theorem dX8_lifts_112 : decode cX8_lifts 112 = .ok (.if_icmp .ne 7, 3) := by decide +kernel
theorem dX8_lifts_115 : decode cX8_lifts 115 = .ok (.iconst 1, 1) := by decide +kernel
theorem dX8_lifts_116 : decode cX8_lifts 116 = .ok (.goto 4, 3) := by decide +kernel
theorem dX8_lifts_119 : decode cX8_lifts 119 = .ok (.iconst 0, 1) := by decide +kernel
theorem dX8_lifts_120 : decode cX8_lifts 120 = .ok (.iadd, 1) := by decide +kernel
theorem dX8_lifts_121 : decode cX8_lifts 121 = .ok (.putfield 118, 3) := by decide +kernel
theorem dX8_lifts_124 : decode cX8_lifts 124 = .ok (.aload_n 0, 1) := by decide +kernel
theorem dX8_lifts_125 : decode cX8_lifts 125 = .ok (.dup, 1) := by decide +kernel
theorem dX8_lifts_126 : decode cX8_lifts 126 = .ok (.getfield 121, 3) := by decide +kernel
theorem dX8_lifts_129 : decode cX8_lifts 129 = .ok (.iload_n 3, 1) := by decide +kernel
theorem dX8_lifts_130 : decode cX8_lifts 130 = .ok (.bipush (-2), 2) := by decide +kernel
theorem dX8_lifts_132 : decode cX8_lifts 132 = .ok (.if_icmp .ne 7, 3) := by decide +kernel
theorem dX8_lifts_135 : decode cX8_lifts 135 = .ok (.iconst 1, 1) := by decide +kernel
theorem dX8_lifts_136 : decode cX8_lifts 136 = .ok (.goto 4, 3) := by decide +kernel
theorem dX8_lifts_139 : decode cX8_lifts 139 = .ok (.iconst 0, 1) := by decide +kernel
theorem dX8_lifts_140 : decode cX8_lifts 140 = .ok (.iadd, 1) := by decide +kernel
theorem dX8_lifts_141 : decode cX8_lifts 141 = .ok (.putfield 121, 3) := by decide +kernel
theorem dX8_lifts_144 : decode cX8_lifts 144 = .ok (.return_, 1) := by decide +kernel
theorem dX8_lifts_145 : decode cX8_lifts 145 = .ok (.iload 4, 2) := by decide +kernel
theorem dX8_lifts_147 : decode cX8_lifts 147 = .ok (.bipush 10, 2) := by decide +kernel
theorem dX8_lifts_149 : decode cX8_lifts 149 = .ok (.if_icmp .eq 60, 3) := by decide +kernel
theorem dX8_lifts_152 : decode cX8_lifts 152 = .ok (.aload_n 0, 1) := by decide +kernel
theorem dX8_lifts_153 : decode cX8_lifts 153 = .ok (.iload_n 3, 1) := by decide +kernel
theorem dX8_lifts_154 : decode cX8_lifts 154 = .ok (.iload_n 1, 1) := by decide +kernel
theorem dX8_lifts_155 : decode cX8_lifts 155 = .ok (.invokevirtual 220, 3) := by decide +kernel
theorem dX8_lifts_158 : decode cX8_lifts 158 = .ok (.ifCond .ne 51, 3) := by decide +kernel
theorem dX8_lifts_161 : decode cX8_lifts 161 = .ok (.aload_n 0, 1) := by decide +kernel
theorem dX8_lifts_162 : decode cX8_lifts 162 = .ok (.getfield 7, 3) := by decide +kernel
theorem dX8_lifts_165 : decode cX8_lifts 165 = .ok (.iload_n 3, 1) := by decide +kernel
theorem dX8_lifts_166 : decode cX8_lifts 166 = .ok (.iaload, 1) := by decide +kernel
theorem dX8_lifts_167 : decode cX8_lifts 167 = .ok (.aload_n 0, 1) := by decide +kernel
theorem dX8_lifts_168 : decode cX8_lifts 168 = .ok (.getfield 19, 3) := by decide +kernel
theorem dX8_lifts_171 : decode cX8_lifts 171 = .ok (.iload_n 3, 1) := by decide +kernel
theorem dX8_lifts_172 : decode cX8_lifts 172 = .ok (.iaload, 1) := by decide +kernel
theorem dX8_lifts_173 : decode cX8_lifts 173 = .ok (.if_icmp .lt 36, 3) := by decide +kernel
theorem dX8_lifts_176 : decode cX8_lifts 176 = .ok (.aload_n 0, 1) := by decide +kernel
theorem dX8_lifts_177 : decode cX8_lifts 177 = .ok (.bipush 100, 2) := by decide +kernel
theorem dX8_lifts_179 : decode cX8_lifts 179 = .ok (.invokevirtual 216, 3) := by decide +kernel
theorem dX8_lifts_182 : decode cX8_lifts 182 = .ok (.aload_n 0, 1) := by decide +kernel
theorem dX8_lifts_183 : decode cX8_lifts 183 = .ok (.getfield 7, 3) := by decide +kernel
theorem dX8_lifts_186 : decode cX8_lifts 186 = .ok (.iload_n 3, 1) := by decide +kernel
theorem dX8_lifts_187 : decode cX8_lifts 187 = .ok (.iaload, 1) := by decide +kernel
theorem dX8_lifts_188 : decode cX8_lifts 188 = .ok (.ifCond .ne 12, 3) := by decide +kernel
theorem dX8_lifts_191 : decode cX8_lifts 191 = .ok (.aload_n 0, 1) := by decide +kernel
theorem dX8_lifts_192 : decode cX8_lifts 192 = .ok (.getfield 31, 3) := by decide +kernel
theorem dX8_lifts_195 : decode cX8_lifts 195 = .ok (.iconst 2, 1) := by decide +kernel
theorem dX8_lifts_196 : decode cX8_lifts 196 = .ok (.iaload, 1) := by decide +kernel
theorem dX8_lifts_197 : decode cX8_lifts 197 = .ok (.goto 9, 3) := by decide +kernel
theorem dX8_lifts_200 : decode cX8_lifts 200 = .ok (.aload_n 0, 1) := by decide +kernel
theorem dX8_lifts_201 : decode cX8_lifts 201 = .ok (.getfield 31, 3) := by decide +kernel
theorem dX8_lifts_204 : decode cX8_lifts 204 = .ok (.iconst 1, 1) := by decide +kernel
theorem dX8_lifts_205 : decode cX8_lifts 205 = .ok (.iaload, 1) := by decide +kernel
theorem dX8_lifts_206 : decode cX8_lifts 206 = .ok (.if_icmp .ge 19, 3) := by decide +kernel
theorem dX8_lifts_209 : decode cX8_lifts 209 = .ok (.aload_n 0, 1) := by decide +kernel
theorem dX8_lifts_210 : decode cX8_lifts 210 = .ok (.getfield 7, 3) := by decide +kernel
theorem dX8_lifts_213 : decode cX8_lifts 213 = .ok (.iload_n 3, 1) := by decide +kernel
theorem dX8_lifts_214 : decode cX8_lifts 214 = .ok (.dup2, 1) := by decide +kernel
theorem dX8_lifts_215 : decode cX8_lifts 215 = .ok (.iaload, 1) := by decide +kernel
theorem dX8_lifts_216 : decode cX8_lifts 216 = .ok (.iconst 1, 1) := by decide +kernel
theorem dX8_lifts_217 : decode cX8_lifts 217 = .ok (.iadd, 1) := by decide +kernel
theorem dX8_lifts_218 : decode cX8_lifts 218 = .ok (.iastore, 1) := by decide +kernel
theorem dX8_lifts_219 : decode cX8_lifts 219 = .ok (.aload_n 0, 1) := by decide +kernel
theorem dX8_lifts_220 : decode cX8_lifts 220 = .ok (.iload_n 3, 1) := by decide +kernel
theorem dX8_lifts_221 : decode cX8_lifts 221 = .ok (.invokevirtual 156, 3) := by decide +kernel
theorem dX8_lifts_224 : decode cX8_lifts 224 = .ok (.return_, 1) := by decide +kernel
theorem dX8_lifts_225 : decode cX8_lifts 225 = .ok (.iinc 4 1, 3) := by decide +kernel
theorem dX8_lifts_228 : decode cX8_lifts 228 = .ok (.goto (-147), 3) := by decide +kernel
theorem dX8_lifts_231 : decode cX8_lifts 231 = .ok (.return_, 1) := by decide +kernel
theorem dX8_grown_0 : decode cX8_grown 0 = .ok (.iload_n 0, 1) := by decide +kernel
theorem dX8_grown_1 : decode cX8_grown 1 = .ok (.bipush (-2), 2) := by decide +kernel
theorem dX8_grown_3 : decode cX8_grown 3 = .ok (.if_icmp .ge 8, 3) := by decide +kernel
theorem dX8_grown_6 : decode cX8_grown 6 = .ok (.bipush (-20), 2) := by decide +kernel
theorem dX8_grown_8 : decode cX8_grown 8 = .ok (.goto 42, 3) := by decide +kernel
theorem dX8_grown_11 : decode cX8_grown 11 = .ok (.iload_n 0, 1) := by decide +kernel
theorem dX8_grown_12 : decode cX8_grown 12 = .ok (.ifCond .ge 8, 3) := by decide +kernel
theorem dX8_grown_15 : decode cX8_grown 15 = .ok (.bipush (-5), 2) := by decide +kernel
theorem dX8_grown_17 : decode cX8_grown 17 = .ok (.goto 33, 3) := by decide +kernel
theorem dX8_grown_20 : decode cX8_grown 20 = .ok (.iload_n 0, 1) := by decide +kernel
theorem dX8_grown_21 : decode cX8_grown 21 = .ok (.ifCond .ne 7, 3) := by decide +kernel
theorem dX8_grown_24 : decode cX8_grown 24 = .ok (.iconst 1, 1) := by decide +kernel
theorem dX8_grown_25 : decode cX8_grown 25 = .ok (.goto 25, 3) := by decide +kernel
theorem dX8_grown_28 : decode cX8_grown 28 = .ok (.iload_n 0, 1) := by decide +kernel
theorem dX8_grown_29 : decode cX8_grown 29 = .ok (.iconst 3, 1) := by decide +kernel
theorem dX8_grown_30 : decode cX8_grown 30 = .ok (.if_icmp .gt 8, 3) := by decide +kernel
theorem dX8_grown_33 : decode cX8_grown 33 = .ok (.bipush 6, 2) := by decide +kernel
theorem dX8_grown_35 : decode cX8_grown 35 = .ok (.goto 15, 3) := by decide +kernel
end
section
theorem dX8_grown_38 : decode cX8_grown 38 = .ok (.iload_n 0, 1) := by decide +kernel
theorem dX8_grown_39 : decode cX8_grown 39 = .ok (.bipush 6, 2) := by decide +kernel
theorem dX8_grown_41 : decode cX8_grown 41 = .ok (.if_icmp .gt 7, 3) := by decide +kernel
theorem dX8_grown_44 : decode cX8_grown 44 = .ok (.iconst 2, 1) := by decide +kernel
theorem dX8_grown_45 : decode cX8_grown 45 = .ok (.goto 5, 3) := by decide +kernel
theorem dX8_grown_48 : decode cX8_grown 48 = .ok (.bipush (-30), 2) := by decide +kernel
theorem dX8_grown_50 : decode cX8_grown 50 = .ok (.ireturn, 1) := by decide +kernel
theorem dX8_season_0 : decode cX8_season 0 = .ok (.iconst 0, 1) := by decide +kernel
theorem dX8_season_1 : decode cX8_season 1 = .ok (.istore_n 1, 1) := by decide +kernel
theorem dX8_season_2 : decode cX8_season 2 = .ok (.iload_n 1, 1) := by decide +kernel
theorem dX8_season_3 : decode cX8_season 3 = .ok (.aload_n 0, 1) := by decide +kernel
theorem dX8_season_4 : decode cX8_season 4 = .ok (.getfield 103, 3) := by decide +kernel
theorem dX8_season_7 : decode cX8_season 7 = .ok (.if_icmp .ge 87, 3) := by decide +kernel
theorem dX8_season_10 : decode cX8_season 10 = .ok (.aload_n 0, 1) := by decide +kernel
theorem dX8_season_11 : decode cX8_season 11 = .ok (.getfield 16, 3) := by decide +kernel
theorem dX8_season_14 : decode cX8_season 14 = .ok (.iload_n 1, 1) := by decide +kernel
theorem dX8_season_15 : decode cX8_season 15 = .ok (.iaload, 1) := by decide +kernel
theorem dX8_season_16 : decode cX8_season 16 = .ok (.ifCond .le 60, 3) := by decide +kernel
theorem dX8_season_19 : decode cX8_season 19 = .ok (.aload_n 0, 1) := by decide +kernel
theorem dX8_season_20 : decode cX8_season 20 = .ok (.getfield 16, 3) := by decide +kernel
theorem dX8_season_23 : decode cX8_season 23 = .ok (.iload_n 1, 1) := by decide +kernel
theorem dX8_season_24 : decode cX8_season 24 = .ok (.iaload, 1) := by decide +kernel
theorem dX8_season_25 : decode cX8_season 25 = .ok (.aload_n 0, 1) := by decide +kernel
theorem dX8_season_26 : decode cX8_season 26 = .ok (.getfield 7, 3) := by decide +kernel
theorem dX8_season_29 : decode cX8_season 29 = .ok (.iload_n 1, 1) := by decide +kernel
theorem dX8_season_30 : decode cX8_season 30 = .ok (.iaload, 1) := by decide +kernel
theorem dX8_season_31 : decode cX8_season 31 = .ok (.aload_n 0, 1) := by decide +kernel
theorem dX8_season_32 : decode cX8_season 32 = .ok (.getfield 13, 3) := by decide +kernel
theorem dX8_season_35 : decode cX8_season 35 = .ok (.iload_n 1, 1) := by decide +kernel
theorem dX8_season_36 : decode cX8_season 36 = .ok (.iaload, 1) := by decide +kernel
theorem dX8_season_37 : decode cX8_season 37 = .ok (.isub, 1) := by decide +kernel
theorem dX8_season_38 : decode cX8_season 38 = .ok (.invokestatic 224, 3) := by decide +kernel
theorem dX8_season_41 : decode cX8_season 41 = .ok (.iadd, 1) := by decide +kernel
theorem dX8_season_42 : decode cX8_season 42 = .ok (.aload_n 0, 1) := by decide +kernel
theorem dX8_season_43 : decode cX8_season 43 = .ok (.getfield 22, 3) := by decide +kernel
theorem dX8_season_46 : decode cX8_season 46 = .ok (.iload_n 1, 1) := by decide +kernel
theorem dX8_season_47 : decode cX8_season 47 = .ok (.iaload, 1) := by decide +kernel
theorem dX8_season_48 : decode cX8_season 48 = .ok (.isub, 1) := by decide +kernel
theorem dX8_season_49 : decode cX8_season 49 = .ok (.istore_n 2, 1) := by decide +kernel
theorem dX8_season_50 : decode cX8_season 50 = .ok (.aload_n 0, 1) := by decide +kernel
theorem dX8_season_51 : decode cX8_season 51 = .ok (.getfield 16, 3) := by decide +kernel
theorem dX8_season_54 : decode cX8_season 54 = .ok (.iload_n 1, 1) := by decide +kernel
theorem dX8_season_55 : decode cX8_season 55 = .ok (.iload_n 2, 1) := by decide +kernel
theorem dX8_season_56 : decode cX8_season 56 = .ok (.ifCond .ge 7, 3) := by decide +kernel
theorem dX8_season_59 : decode cX8_season 59 = .ok (.iconst 0, 1) := by decide +kernel
theorem dX8_season_60 : decode cX8_season 60 = .ok (.goto 15, 3) := by decide +kernel
theorem dX8_season_63 : decode cX8_season 63 = .ok (.iload_n 2, 1) := by decide +kernel
theorem dX8_season_64 : decode cX8_season 64 = .ok (.bipush 100, 2) := by decide +kernel
theorem dX8_season_66 : decode cX8_season 66 = .ok (.if_icmp .le 8, 3) := by decide +kernel
theorem dX8_season_69 : decode cX8_season 69 = .ok (.bipush 100, 2) := by decide +kernel
theorem dX8_season_71 : decode cX8_season 71 = .ok (.goto 4, 3) := by decide +kernel
theorem dX8_season_74 : decode cX8_season 74 = .ok (.iload_n 2, 1) := by decide +kernel
theorem dX8_season_75 : decode cX8_season 75 = .ok (.iastore, 1) := by decide +kernel
theorem dX8_season_76 : decode cX8_season 76 = .ok (.aload_n 0, 1) := by decide +kernel
theorem dX8_season_77 : decode cX8_season 77 = .ok (.getfield 13, 3) := by decide +kernel
theorem dX8_season_80 : decode cX8_season 80 = .ok (.iload_n 1, 1) := by decide +kernel
theorem dX8_season_81 : decode cX8_season 81 = .ok (.aload_n 0, 1) := by decide +kernel
theorem dX8_season_82 : decode cX8_season 82 = .ok (.getfield 7, 3) := by decide +kernel
theorem dX8_season_85 : decode cX8_season 85 = .ok (.iload_n 1, 1) := by decide +kernel
theorem dX8_season_86 : decode cX8_season 86 = .ok (.iaload, 1) := by decide +kernel
theorem dX8_season_87 : decode cX8_season 87 = .ok (.iastore, 1) := by decide +kernel
theorem dX8_season_88 : decode cX8_season 88 = .ok (.iinc 1 1, 3) := by decide +kernel
theorem dX8_season_91 : decode cX8_season 91 = .ok (.goto (-89), 3) := by decide +kernel
theorem dX8_season_94 : decode cX8_season 94 = .ok (.return_, 1) := by decide +kernel
theorem dX8_goes_0 : decode cX8_goes 0 = .ok (.aload_n 0, 1) := by decide +kernel
theorem dX8_goes_1 : decode cX8_goes 1 = .ok (.invokevirtual 227, 3) := by decide +kernel
theorem dX8_goes_4 : decode cX8_goes 4 = .ok (.istore_n 1, 1) := by decide +kernel
theorem dX8_goes_5 : decode cX8_goes 5 = .ok (.iconst 0, 1) := by decide +kernel
theorem dX8_goes_6 : decode cX8_goes 6 = .ok (.istore_n 2, 1) := by decide +kernel
theorem dX8_goes_7 : decode cX8_goes 7 = .ok (.iload_n 2, 1) := by decide +kernel
theorem dX8_goes_8 : decode cX8_goes 8 = .ok (.aload_n 0, 1) := by decide +kernel
theorem dX8_goes_9 : decode cX8_goes 9 = .ok (.getfield 31, 3) := by decide +kernel
theorem dX8_goes_12 : decode cX8_goes 12 = .ok (.iconst 4, 1) := by decide +kernel
theorem dX8_goes_13 : decode cX8_goes 13 = .ok (.iaload, 1) := by decide +kernel
theorem dX8_goes_14 : decode cX8_goes 14 = .ok (.if_icmp .ge 52, 3) := by decide +kernel
theorem dX8_goes_17 : decode cX8_goes 17 = .ok (.iload_n 1, 1) := by decide +kernel
theorem dX8_goes_18 : decode cX8_goes 18 = .ok (.ifCond .ne 48, 3) := by decide +kernel
theorem dX8_goes_21 : decode cX8_goes 21 = .ok (.aload_n 0, 1) := by decide +kernel
theorem dX8_goes_22 : decode cX8_goes 22 = .ok (.aload_n 0, 1) := by decide +kernel
theorem dX8_goes_23 : decode cX8_goes 23 = .ok (.getfield 100, 3) := by decide +kernel
theorem dX8_goes_26 : decode cX8_goes 26 = .ok (.invokevirtual 216, 3) := by decide +kernel
theorem dX8_goes_29 : decode cX8_goes 29 = .ok (.aload_n 0, 1) := by decide +kernel
theorem dX8_goes_30 : decode cX8_goes 30 = .ok (.getfield 97, 3) := by decide +kernel
theorem dX8_goes_33 : decode cX8_goes 33 = .ok (.imul, 1) := by decide +kernel
theorem dX8_goes_34 : decode cX8_goes 34 = .ok (.istore_n 3, 1) := by decide +kernel
theorem dX8_goes_35 : decode cX8_goes 35 = .ok (.aload_n 0, 1) := by decide +kernel
theorem dX8_goes_36 : decode cX8_goes 36 = .ok (.getfield 7, 3) := by decide +kernel
theorem dX8_goes_39 : decode cX8_goes 39 = .ok (.iload_n 3, 1) := by decide +kernel
theorem dX8_goes_40 : decode cX8_goes 40 = .ok (.dup2, 1) := by decide +kernel
theorem dX8_goes_41 : decode cX8_goes 41 = .ok (.iaload, 1) := by decide +kernel
theorem dX8_goes_42 : decode cX8_goes 42 = .ok (.iconst 1, 1) := by decide +kernel
theorem dX8_goes_43 : decode cX8_goes 43 = .ok (.iadd, 1) := by decide +kernel
theorem dX8_goes_44 : decode cX8_goes 44 = .ok (.iastore, 1) := by decide +kernel
theorem dX8_goes_45 : decode cX8_goes 45 = .ok (.aload_n 0, 1) := by decide +kernel
theorem dX8_goes_46 : decode cX8_goes 46 = .ok (.dup, 1) := by decide +kernel
theorem dX8_goes_47 : decode cX8_goes 47 = .ok (.getfield 124, 3) := by decide +kernel
theorem dX8_goes_50 : decode cX8_goes 50 = .ok (.iconst 1, 1) := by decide +kernel
theorem dX8_goes_51 : decode cX8_goes 51 = .ok (.iadd, 1) := by decide +kernel
theorem dX8_goes_52 : decode cX8_goes 52 = .ok (.putfield 124, 3) := by decide +kernel
theorem dX8_goes_55 : decode cX8_goes 55 = .ok (.aload_n 0, 1) := by decide +kernel
theorem dX8_goes_56 : decode cX8_goes 56 = .ok (.iload_n 3, 1) := by decide +kernel
theorem dX8_goes_57 : decode cX8_goes 57 = .ok (.invokevirtual 156, 3) := by decide +kernel
theorem dX8_goes_60 : decode cX8_goes 60 = .ok (.iinc 2 1, 3) := by decide +kernel
theorem dX8_goes_63 : decode cX8_goes 63 = .ok (.goto (-56), 3) := by decide +kernel
theorem dX8_goes_66 : decode cX8_goes 66 = .ok (.iconst 0, 1) := by decide +kernel
theorem dX8_goes_67 : decode cX8_goes 67 = .ok (.istore_n 2, 1) := by decide +kernel
theorem dX8_goes_68 : decode cX8_goes 68 = .ok (.iload_n 2, 1) := by decide +kernel
theorem dX8_goes_69 : decode cX8_goes 69 = .ok (.aload_n 0, 1) := by decide +kernel
theorem dX8_goes_70 : decode cX8_goes 70 = .ok (.getfield 103, 3) := by decide +kernel
theorem dX8_goes_73 : decode cX8_goes 73 = .ok (.if_icmp .ge 19, 3) := by decide +kernel
theorem dX8_goes_76 : decode cX8_goes 76 = .ok (.iload_n 1, 1) := by decide +kernel
theorem dX8_goes_77 : decode cX8_goes 77 = .ok (.iconst 4, 1) := by decide +kernel
theorem dX8_goes_78 : decode cX8_goes 78 = .ok (.if_icmp .eq 14, 3) := by decide +kernel
theorem dX8_goes_81 : decode cX8_goes 81 = .ok (.aload_n 0, 1) := by decide +kernel
theorem dX8_goes_82 : decode cX8_goes 82 = .ok (.iload_n 1, 1) := by decide +kernel
theorem dX8_goes_83 : decode cX8_goes 83 = .ok (.invokevirtual 231, 3) := by decide +kernel
theorem dX8_goes_86 : decode cX8_goes 86 = .ok (.iinc 2 1, 3) := by decide +kernel
theorem dX8_goes_89 : decode cX8_goes 89 = .ok (.goto (-21), 3) := by decide +kernel
theorem dX8_goes_92 : decode cX8_goes 92 = .ok (.aload_n 0, 1) := by decide +kernel
theorem dX8_goes_93 : decode cX8_goes 93 = .ok (.invokevirtual 234, 3) := by decide +kernel
theorem dX8_goes_96 : decode cX8_goes 96 = .ok (.aload_n 0, 1) := by decide +kernel
theorem dX8_goes_97 : decode cX8_goes 97 = .ok (.dup, 1) := by decide +kernel
theorem dX8_goes_98 : decode cX8_goes 98 = .ok (.getfield 115, 3) := by decide +kernel
theorem dX8_goes_101 : decode cX8_goes 101 = .ok (.iconst 1, 1) := by decide +kernel
theorem dX8_goes_102 : decode cX8_goes 102 = .ok (.iadd, 1) := by decide +kernel
theorem dX8_goes_103 : decode cX8_goes 103 = .ok (.putfield 115, 3) := by decide +kernel
theorem dX8_goes_106 : decode cX8_goes 106 = .ok (.iconst 0, 1) := by decide +kernel
theorem dX8_goes_107 : decode cX8_goes 107 = .ok (.istore_n 2, 1) := by decide +kernel
theorem dX8_goes_108 : decode cX8_goes 108 = .ok (.iload_n 2, 1) := by decide +kernel
theorem dX8_goes_109 : decode cX8_goes 109 = .ok (.aload_n 0, 1) := by decide +kernel
theorem dX8_goes_110 : decode cX8_goes 110 = .ok (.getfield 103, 3) := by decide +kernel
theorem dX8_goes_113 : decode cX8_goes 113 = .ok (.if_icmp .ge 61, 3) := by decide +kernel
theorem dX8_goes_116 : decode cX8_goes 116 = .ok (.aload_n 0, 1) := by decide +kernel
theorem dX8_goes_117 : decode cX8_goes 117 = .ok (.getfield 28, 3) := by decide +kernel
theorem dX8_goes_120 : decode cX8_goes 120 = .ok (.iload_n 2, 1) := by decide +kernel
theorem dX8_goes_121 : decode cX8_goes 121 = .ok (.aload_n 0, 1) := by decide +kernel
theorem dX8_goes_122 : decode cX8_goes 122 = .ok (.getfield 25, 3) := by decide +kernel
theorem dX8_goes_125 : decode cX8_goes 125 = .ok (.iload_n 2, 1) := by decide +kernel
theorem dX8_goes_126 : decode cX8_goes 126 = .ok (.iaload, 1) := by decide +kernel
theorem dX8_goes_127 : decode cX8_goes 127 = .ok (.ifCond .le 34, 3) := by decide +kernel
theorem dX8_goes_130 : decode cX8_goes 130 = .ok (.aload_n 0, 1) := by decide +kernel
theorem dX8_goes_131 : decode cX8_goes 131 = .ok (.getfield 7, 3) := by decide +kernel
theorem dX8_goes_134 : decode cX8_goes 134 = .ok (.iload_n 2, 1) := by decide +kernel
theorem dX8_goes_135 : decode cX8_goes 135 = .ok (.iaload, 1) := by decide +kernel
theorem dX8_goes_136 : decode cX8_goes 136 = .ok (.aload_n 0, 1) := by decide +kernel
theorem dX8_goes_137 : decode cX8_goes 137 = .ok (.getfield 25, 3) := by decide +kernel
theorem dX8_goes_140 : decode cX8_goes 140 = .ok (.iload_n 2, 1) := by decide +kernel
theorem dX8_goes_141 : decode cX8_goes 141 = .ok (.iaload, 1) := by decide +kernel
theorem dX8_goes_142 : decode cX8_goes 142 = .ok (.if_icmp .lt 19, 3) := by decide +kernel
theorem dX8_goes_145 : decode cX8_goes 145 = .ok (.aload_n 0, 1) := by decide +kernel
theorem dX8_goes_146 : decode cX8_goes 146 = .ok (.getfield 28, 3) := by decide +kernel
theorem dX8_goes_149 : decode cX8_goes 149 = .ok (.iload_n 2, 1) := by decide +kernel
theorem dX8_goes_150 : decode cX8_goes 150 = .ok (.iaload, 1) := by decide +kernel
theorem dX8_goes_151 : decode cX8_goes 151 = .ok (.ifCond .ge 10, 3) := by decide +kernel
theorem dX8_goes_154 : decode cX8_goes 154 = .ok (.aload_n 0, 1) := by decide +kernel
theorem dX8_goes_155 : decode cX8_goes 155 = .ok (.getfield 115, 3) := by decide +kernel
theorem dX8_goes_158 : decode cX8_goes 158 = .ok (.goto 9, 3) := by decide +kernel
theorem dX8_goes_161 : decode cX8_goes 161 = .ok (.aload_n 0, 1) := by decide +kernel
theorem dX8_goes_162 : decode cX8_goes 162 = .ok (.getfield 28, 3) := by decide +kernel
theorem dX8_goes_165 : decode cX8_goes 165 = .ok (.iload_n 2, 1) := by decide +kernel
theorem dX8_goes_166 : decode cX8_goes 166 = .ok (.iaload, 1) := by decide +kernel
theorem dX8_goes_167 : decode cX8_goes 167 = .ok (.iastore, 1) := by decide +kernel
theorem dX8_goes_168 : decode cX8_goes 168 = .ok (.iinc 2 1, 3) := by decide +kernel
theorem dX8_goes_171 : decode cX8_goes 171 = .ok (.goto (-63), 3) := by decide +kernel
theorem dX8_goes_174 : decode cX8_goes 174 = .ok (.aload_n 0, 1) := by decide +kernel
theorem dX8_goes_175 : decode cX8_goes 175 = .ok (.getfield 115, 3) := by decide +kernel
theorem dX8_goes_178 : decode cX8_goes 178 = .ok (.bipush 30, 2) := by decide +kernel
theorem dX8_goes_180 : decode cX8_goes 180 = .ok (.irem, 1) := by decide +kernel
theorem dX8_goes_181 : decode cX8_goes 181 = .ok (.ifCond .ne 7, 3) := by decide +kernel
theorem dX8_goes_184 : decode cX8_goes 184 = .ok (.aload_n 0, 1) := by decide +kernel
theorem dX8_goes_185 : decode cX8_goes 185 = .ok (.invokevirtual 237, 3) := by decide +kernel
theorem dX8_goes_188 : decode cX8_goes 188 = .ok (.return_, 1) := by decide +kernel
theorem dX8_days_0 : decode cX8_days 0 = .ok (.iload_n 1, 1) := by decide +kernel
theorem dX8_days_1 : decode cX8_days 1 = .ok (.iconst 1, 1) := by decide +kernel
theorem dX8_days_2 : decode cX8_days 2 = .ok (.bipush 60, 2) := by decide +kernel
theorem dX8_days_4 : decode cX8_days 4 = .ok (.invokestatic 110, 3) := by decide +kernel
theorem dX8_days_7 : decode cX8_days 7 = .ok (.ifCond .eq 15, 3) := by decide +kernel
theorem dX8_days_10 : decode cX8_days 10 = .ok (.aload_n 0, 1) := by decide +kernel
theorem dX8_days_11 : decode cX8_days 11 = .ok (.getfield 115, 3) := by decide +kernel
theorem dX8_days_14 : decode cX8_days 14 = .ok (.iload_n 1, 1) := by decide +kernel
theorem dX8_days_15 : decode cX8_days 15 = .ok (.iadd, 1) := by decide +kernel
theorem dX8_days_16 : decode cX8_days 16 = .ok (.sipush 3000, 3) := by decide +kernel
theorem dX8_days_19 : decode cX8_days 19 = .ok (.if_icmp .le 5, 3) := by decide +kernel
theorem dX8_days_22 : decode cX8_days 22 = .ok (.iconst (-1), 1) := by decide +kernel
theorem dX8_days_23 : decode cX8_days 23 = .ok (.ireturn, 1) := by decide +kernel
theorem dX8_days_24 : decode cX8_days 24 = .ok (.iconst 0, 1) := by decide +kernel
theorem dX8_days_25 : decode cX8_days 25 = .ok (.istore_n 2, 1) := by decide +kernel
theorem dX8_days_26 : decode cX8_days 26 = .ok (.iload_n 2, 1) := by decide +kernel
theorem dX8_days_27 : decode cX8_days 27 = .ok (.iload_n 1, 1) := by decide +kernel
theorem dX8_days_28 : decode cX8_days 28 = .ok (.if_icmp .ge 13, 3) := by decide +kernel
theorem dX8_days_31 : decode cX8_days 31 = .ok (.aload_n 0, 1) := by decide +kernel
theorem dX8_days_32 : decode cX8_days 32 = .ok (.invokevirtual 240, 3) := by decide +kernel
theorem dX8_days_35 : decode cX8_days 35 = .ok (.iinc 2 1, 3) := by decide +kernel
theorem dX8_days_38 : decode cX8_days 38 = .ok (.goto (-12), 3) := by decide +kernel
theorem dX8_days_41 : decode cX8_days 41 = .ok (.aload_n 0, 1) := by decide +kernel
theorem dX8_days_42 : decode cX8_days 42 = .ok (.getfield 115, 3) := by decide +kernel
theorem dX8_days_45 : decode cX8_days 45 = .ok (.ireturn, 1) := by decide +kernel
theorem dX8_storm_0 : decode cX8_storm 0 = .ok (.iload_n 1, 1) := by decide +kernel
theorem dX8_storm_1 : decode cX8_storm 1 = .ok (.iconst 1, 1) := by decide +kernel
theorem dX8_storm_2 : decode cX8_storm 2 = .ok (.sipush 999, 3) := by decide +kernel
theorem dX8_storm_5 : decode cX8_storm 5 = .ok (.invokestatic 110, 3) := by decide +kernel
theorem dX8_storm_8 : decode cX8_storm 8 = .ok (.ifCond .ne 5, 3) := by decide +kernel
theorem dX8_storm_11 : decode cX8_storm 11 = .ok (.iconst (-1), 1) := by decide +kernel
theorem dX8_storm_12 : decode cX8_storm 12 = .ok (.ireturn, 1) := by decide +kernel
theorem dX8_storm_13 : decode cX8_storm 13 = .ok (.iconst 0, 1) := by decide +kernel
theorem dX8_storm_14 : decode cX8_storm 14 = .ok (.istore_n 2, 1) := by decide +kernel
theorem dX8_storm_15 : decode cX8_storm 15 = .ok (.iconst 0, 1) := by decide +kernel
theorem dX8_storm_16 : decode cX8_storm 16 = .ok (.istore_n 3, 1) := by decide +kernel
theorem dX8_storm_17 : decode cX8_storm 17 = .ok (.iload_n 3, 1) := by decide +kernel
theorem dX8_storm_18 : decode cX8_storm 18 = .ok (.aload_n 0, 1) := by decide +kernel
theorem dX8_storm_19 : decode cX8_storm 19 = .ok (.getfield 100, 3) := by decide +kernel
theorem dX8_storm_22 : decode cX8_storm 22 = .ok (.if_icmp .ge 91, 3) := by decide +kernel
theorem dX8_storm_25 : decode cX8_storm 25 = .ok (.iload_n 1, 1) := by decide +kernel
theorem dX8_storm_26 : decode cX8_storm 26 = .ok (.istore 4, 2) := by decide +kernel
theorem dX8_storm_28 : decode cX8_storm 28 = .ok (.iconst 0, 1) := by decide +kernel
theorem dX8_storm_29 : decode cX8_storm 29 = .ok (.istore 5, 2) := by decide +kernel
theorem dX8_storm_31 : decode cX8_storm 31 = .ok (.iload 5, 2) := by decide +kernel
theorem dX8_storm_33 : decode cX8_storm 33 = .ok (.aload_n 0, 1) := by decide +kernel
theorem dX8_storm_34 : decode cX8_storm 34 = .ok (.getfield 97, 3) := by decide +kernel
theorem dX8_storm_37 : decode cX8_storm 37 = .ok (.if_icmp .ge 70, 3) := by decide +kernel
theorem dX8_storm_40 : decode cX8_storm 40 = .ok (.iload_n 3, 1) := by decide +kernel
theorem dX8_storm_41 : decode cX8_storm 41 = .ok (.aload_n 0, 1) := by decide +kernel
theorem dX8_storm_42 : decode cX8_storm 42 = .ok (.getfield 97, 3) := by decide +kernel
theorem dX8_storm_45 : decode cX8_storm 45 = .ok (.imul, 1) := by decide +kernel
theorem dX8_storm_46 : decode cX8_storm 46 = .ok (.iload 5, 2) := by decide +kernel
theorem dX8_storm_48 : decode cX8_storm 48 = .ok (.iadd, 1) := by decide +kernel
theorem dX8_storm_49 : decode cX8_storm 49 = .ok (.istore 6, 2) := by decide +kernel
theorem dX8_storm_51 : decode cX8_storm 51 = .ok (.aload_n 0, 1) := by decide +kernel
theorem dX8_storm_52 : decode cX8_storm 52 = .ok (.getfield 7, 3) := by decide +kernel
theorem dX8_storm_55 : decode cX8_storm 55 = .ok (.iload 6, 2) := by decide +kernel
theorem dX8_storm_57 : decode cX8_storm 57 = .ok (.iaload, 1) := by decide +kernel
theorem dX8_storm_58 : decode cX8_storm 58 = .ok (.iload 4, 2) := by decide +kernel
theorem dX8_storm_60 : decode cX8_storm 60 = .ok (.if_icmp .ge 13, 3) := by decide +kernel
theorem dX8_storm_63 : decode cX8_storm 63 = .ok (.aload_n 0, 1) := by decide +kernel
theorem dX8_storm_64 : decode cX8_storm 64 = .ok (.getfield 7, 3) := by decide +kernel
theorem dX8_storm_67 : decode cX8_storm 67 = .ok (.iload 6, 2) := by decide +kernel
theorem dX8_storm_69 : decode cX8_storm 69 = .ok (.iaload, 1) := by decide +kernel
theorem dX8_storm_70 : decode cX8_storm 70 = .ok (.goto 5, 3) := by decide +kernel
theorem dX8_storm_73 : decode cX8_storm 73 = .ok (.iload 4, 2) := by decide +kernel
theorem dX8_storm_75 : decode cX8_storm 75 = .ok (.istore 7, 2) := by decide +kernel
theorem dX8_storm_77 : decode cX8_storm 77 = .ok (.aload_n 0, 1) := by decide +kernel
theorem dX8_storm_78 : decode cX8_storm 78 = .ok (.getfield 7, 3) := by decide +kernel
theorem dX8_storm_81 : decode cX8_storm 81 = .ok (.iload 6, 2) := by decide +kernel
theorem dX8_storm_83 : decode cX8_storm 83 = .ok (.dup2, 1) := by decide +kernel
theorem dX8_storm_84 : decode cX8_storm 84 = .ok (.iaload, 1) := by decide +kernel
theorem dX8_storm_85 : decode cX8_storm 85 = .ok (.iload 7, 2) := by decide +kernel
theorem dX8_storm_87 : decode cX8_storm 87 = .ok (.isub, 1) := by decide +kernel
theorem dX8_storm_88 : decode cX8_storm 88 = .ok (.iastore, 1) := by decide +kernel
theorem dX8_storm_89 : decode cX8_storm 89 = .ok (.iload 4, 2) := by decide +kernel
theorem dX8_storm_91 : decode cX8_storm 91 = .ok (.iload 7, 2) := by decide +kernel
theorem dX8_storm_93 : decode cX8_storm 93 = .ok (.isub, 1) := by decide +kernel
theorem dX8_storm_94 : decode cX8_storm 94 = .ok (.istore 4, 2) := by decide +kernel
theorem dX8_storm_96 : decode cX8_storm 96 = .ok (.iload_n 2, 1) := by decide +kernel
theorem dX8_storm_97 : decode cX8_storm 97 = .ok (.iload 7, 2) := by decide +kernel
theorem dX8_storm_99 : decode cX8_storm 99 = .ok (.iadd, 1) := by decide +kernel
theorem dX8_storm_100 : decode cX8_storm 100 = .ok (.istore_n 2, 1) := by decide +kernel
theorem dX8_storm_101 : decode cX8_storm 101 = .ok (.iinc 5 1, 3) := by decide +kernel
theorem dX8_storm_104 : decode cX8_storm 104 = .ok (.goto (-73), 3) := by decide +kernel
theorem dX8_storm_107 : decode cX8_storm 107 = .ok (.iinc 3 1, 3) := by decide +kernel
theorem dX8_storm_110 : decode cX8_storm 110 = .ok (.goto (-93), 3) := by decide +kernel
theorem dX8_storm_113 : decode cX8_storm 113 = .ok (.aload_n 0, 1) := by decide +kernel
theorem dX8_storm_114 : decode cX8_storm 114 = .ok (.dup, 1) := by decide +kernel
theorem dX8_storm_115 : decode cX8_storm 115 = .ok (.getfield 118, 3) := by decide +kernel
theorem dX8_storm_118 : decode cX8_storm 118 = .ok (.iload_n 2, 1) := by decide +kernel
theorem dX8_storm_119 : decode cX8_storm 119 = .ok (.iadd, 1) := by decide +kernel
theorem dX8_storm_120 : decode cX8_storm 120 = .ok (.putfield 118, 3) := by decide +kernel
theorem dX8_storm_123 : decode cX8_storm 123 = .ok (.aload_n 0, 1) := by decide +kernel
theorem dX8_storm_124 : decode cX8_storm 124 = .ok (.invokevirtual 159, 3) := by decide +kernel
theorem dX8_storm_127 : decode cX8_storm 127 = .ok (.iload_n 2, 1) := by decide +kernel
theorem dX8_storm_128 : decode cX8_storm 128 = .ok (.ireturn, 1) := by decide +kernel
theorem dX8_cell_0 : decode cX8_cell 0 = .ok (.aload_n 0, 1) := by decide +kernel
theorem dX8_cell_1 : decode cX8_cell 1 = .ok (.iload_n 1, 1) := by decide +kernel
theorem dX8_cell_2 : decode cX8_cell 2 = .ok (.invokevirtual 153, 3) := by decide +kernel
theorem dX8_cell_5 : decode cX8_cell 5 = .ok (.ifCond .ne 5, 3) := by decide +kernel
theorem dX8_cell_8 : decode cX8_cell 8 = .ok (.iconst (-1), 1) := by decide +kernel
theorem dX8_cell_9 : decode cX8_cell 9 = .ok (.ireturn, 1) := by decide +kernel
theorem dX8_cell_10 : decode cX8_cell 10 = .ok (.iload_n 2, 1) := by decide +kernel
theorem dX8_cell_11 : decode cX8_cell 11 = .ok (.tableswitch 113 0 9 #[53, 60, 67, 74, 81, 88, 95, 95, 95, 95], 53) := by decide +kernel
theorem dX8_cell_64 : decode cX8_cell 64 = .ok (.aload_n 0, 1) := by decide +kernel
theorem dX8_cell_65 : decode cX8_cell 65 = .ok (.getfield 7, 3) := by decide +kernel
theorem dX8_cell_68 : decode cX8_cell 68 = .ok (.iload_n 1, 1) := by decide +kernel
theorem dX8_cell_69 : decode cX8_cell 69 = .ok (.iaload, 1) := by decide +kernel
theorem dX8_cell_70 : decode cX8_cell 70 = .ok (.ireturn, 1) := by decide +kernel
theorem dX8_cell_71 : decode cX8_cell 71 = .ok (.aload_n 0, 1) := by decide +kernel
theorem dX8_cell_72 : decode cX8_cell 72 = .ok (.getfield 16, 3) := by decide +kernel
theorem dX8_cell_75 : decode cX8_cell 75 = .ok (.iload_n 1, 1) := by decide +kernel
theorem dX8_cell_76 : decode cX8_cell 76 = .ok (.iaload, 1) := by decide +kernel
theorem dX8_cell_77 : decode cX8_cell 77 = .ok (.ireturn, 1) := by decide +kernel
theorem dX8_cell_78 : decode cX8_cell 78 = .ok (.aload_n 0, 1) := by decide +kernel
theorem dX8_cell_79 : decode cX8_cell 79 = .ok (.getfield 19, 3) := by decide +kernel
theorem dX8_cell_82 : decode cX8_cell 82 = .ok (.iload_n 1, 1) := by decide +kernel
theorem dX8_cell_83 : decode cX8_cell 83 = .ok (.iaload, 1) := by decide +kernel
theorem dX8_cell_84 : decode cX8_cell 84 = .ok (.ireturn, 1) := by decide +kernel
theorem dX8_cell_85 : decode cX8_cell 85 = .ok (.aload_n 0, 1) := by decide +kernel
theorem dX8_cell_86 : decode cX8_cell 86 = .ok (.getfield 22, 3) := by decide +kernel
theorem dX8_cell_89 : decode cX8_cell 89 = .ok (.iload_n 1, 1) := by decide +kernel
theorem dX8_cell_90 : decode cX8_cell 90 = .ok (.iaload, 1) := by decide +kernel
theorem dX8_cell_91 : decode cX8_cell 91 = .ok (.ireturn, 1) := by decide +kernel
theorem dX8_cell_92 : decode cX8_cell 92 = .ok (.aload_n 0, 1) := by decide +kernel
theorem dX8_cell_93 : decode cX8_cell 93 = .ok (.getfield 25, 3) := by decide +kernel
theorem dX8_cell_96 : decode cX8_cell 96 = .ok (.iload_n 1, 1) := by decide +kernel
theorem dX8_cell_97 : decode cX8_cell 97 = .ok (.iaload, 1) := by decide +kernel
theorem dX8_cell_98 : decode cX8_cell 98 = .ok (.ireturn, 1) := by decide +kernel
theorem dX8_cell_99 : decode cX8_cell 99 = .ok (.aload_n 0, 1) := by decide +kernel
theorem dX8_cell_100 : decode cX8_cell 100 = .ok (.getfield 28, 3) := by decide +kernel
theorem dX8_cell_103 : decode cX8_cell 103 = .ok (.iload_n 1, 1) := by decide +kernel
theorem dX8_cell_104 : decode cX8_cell 104 = .ok (.iaload, 1) := by decide +kernel
theorem dX8_cell_105 : decode cX8_cell 105 = .ok (.ireturn, 1) := by decide +kernel
theorem dX8_cell_106 : decode cX8_cell 106 = .ok (.aload_n 0, 1) := by decide +kernel
theorem dX8_cell_107 : decode cX8_cell 107 = .ok (.iload_n 1, 1) := by decide +kernel
theorem dX8_cell_108 : decode cX8_cell 108 = .ok (.iload_n 2, 1) := by decide +kernel
theorem dX8_cell_109 : decode cX8_cell 109 = .ok (.bipush 6, 2) := by decide +kernel
theorem dX8_cell_111 : decode cX8_cell 111 = .ok (.isub, 1) := by decide +kernel
theorem dX8_cell_112 : decode cX8_cell 112 = .ok (.invokevirtual 220, 3) := by decide +kernel
theorem dX8_cell_115 : decode cX8_cell 115 = .ok (.ifCond .eq 7, 3) := by decide +kernel
theorem dX8_cell_118 : decode cX8_cell 118 = .ok (.iconst 1, 1) := by decide +kernel
theorem dX8_cell_119 : decode cX8_cell 119 = .ok (.goto 4, 3) := by decide +kernel
theorem dX8_cell_122 : decode cX8_cell 122 = .ok (.iconst 0, 1) := by decide +kernel
theorem dX8_cell_123 : decode cX8_cell 123 = .ok (.ireturn, 1) := by decide +kernel
theorem dX8_cell_124 : decode cX8_cell 124 = .ok (.iconst (-1), 1) := by decide +kernel
theorem dX8_cell_125 : decode cX8_cell 125 = .ok (.ireturn, 1) := by decide +kernel
theorem dX8_work_0 : decode cX8_work 0 = .ok (.iload_n 1, 1) := by decide +kernel
theorem dX8_work_1 : decode cX8_work 1 = .ok (.iconst 0, 1) := by decide +kernel
theorem dX8_work_2 : decode cX8_work 2 = .ok (.iconst 2, 1) := by decide +kernel
theorem dX8_work_3 : decode cX8_work 3 = .ok (.invokestatic 110, 3) := by decide +kernel
theorem dX8_work_6 : decode cX8_work 6 = .ok (.ifCond .eq 41, 3) := by decide +kernel
theorem dX8_work_9 : decode cX8_work 9 = .ok (.aload_n 0, 1) := by decide +kernel
theorem dX8_work_10 : decode cX8_work 10 = .ok (.iload_n 2, 1) := by decide +kernel
theorem dX8_work_11 : decode cX8_work 11 = .ok (.invokevirtual 153, 3) := by decide +kernel
theorem dX8_work_14 : decode cX8_work 14 = .ok (.ifCond .eq 33, 3) := by decide +kernel
theorem dX8_work_17 : decode cX8_work 17 = .ok (.iload_n 3, 1) := by decide +kernel
theorem dX8_work_18 : decode cX8_work 18 = .ok (.iconst 1, 1) := by decide +kernel
theorem dX8_work_19 : decode cX8_work 19 = .ok (.bipush 99, 2) := by decide +kernel
theorem dX8_work_21 : decode cX8_work 21 = .ok (.invokestatic 110, 3) := by decide +kernel
theorem dX8_work_24 : decode cX8_work 24 = .ok (.ifCond .eq 23, 3) := by decide +kernel
theorem dX8_work_27 : decode cX8_work 27 = .ok (.iload 4, 2) := by decide +kernel
theorem dX8_work_29 : decode cX8_work 29 = .ok (.iconst 0, 1) := by decide +kernel
theorem dX8_work_30 : decode cX8_work 30 = .ok (.sipush 999, 3) := by decide +kernel
theorem dX8_work_33 : decode cX8_work 33 = .ok (.invokestatic 110, 3) := by decide +kernel
theorem dX8_work_36 : decode cX8_work 36 = .ok (.ifCond .eq 11, 3) := by decide +kernel
theorem dX8_work_39 : decode cX8_work 39 = .ok (.aload_n 0, 1) := by decide +kernel
theorem dX8_work_40 : decode cX8_work 40 = .ok (.getfield 243, 3) := by decide +kernel
theorem dX8_work_43 : decode cX8_work 43 = .ok (.iconst 4, 1) := by decide +kernel
theorem dX8_work_44 : decode cX8_work 44 = .ok (.if_icmp .ne 5, 3) := by decide +kernel
theorem dX8_work_47 : decode cX8_work 47 = .ok (.iconst (-1), 1) := by decide +kernel
theorem dX8_work_48 : decode cX8_work 48 = .ok (.ireturn, 1) := by decide +kernel
theorem dX8_work_49 : decode cX8_work 49 = .ok (.aload_n 0, 1) := by decide +kernel
theorem dX8_work_50 : decode cX8_work 50 = .ok (.getfield 60, 3) := by decide +kernel
theorem dX8_work_53 : decode cX8_work 53 = .ok (.aload_n 0, 1) := by decide +kernel
theorem dX8_work_54 : decode cX8_work 54 = .ok (.getfield 243, 3) := by decide +kernel
theorem dX8_work_57 : decode cX8_work 57 = .ok (.iload_n 1, 1) := by decide +kernel
theorem dX8_work_58 : decode cX8_work 58 = .ok (.iastore, 1) := by decide +kernel
theorem dX8_work_59 : decode cX8_work 59 = .ok (.aload_n 0, 1) := by decide +kernel
theorem dX8_work_60 : decode cX8_work 60 = .ok (.getfield 63, 3) := by decide +kernel
theorem dX8_work_63 : decode cX8_work 63 = .ok (.aload_n 0, 1) := by decide +kernel
theorem dX8_work_64 : decode cX8_work 64 = .ok (.getfield 243, 3) := by decide +kernel
theorem dX8_work_67 : decode cX8_work 67 = .ok (.iload_n 2, 1) := by decide +kernel
theorem dX8_work_68 : decode cX8_work 68 = .ok (.iastore, 1) := by decide +kernel
theorem dX8_work_69 : decode cX8_work 69 = .ok (.aload_n 0, 1) := by decide +kernel
theorem dX8_work_70 : decode cX8_work 70 = .ok (.getfield 66, 3) := by decide +kernel
theorem dX8_work_73 : decode cX8_work 73 = .ok (.aload_n 0, 1) := by decide +kernel
theorem dX8_work_74 : decode cX8_work 74 = .ok (.getfield 243, 3) := by decide +kernel
theorem dX8_work_77 : decode cX8_work 77 = .ok (.iload_n 3, 1) := by decide +kernel
theorem dX8_work_78 : decode cX8_work 78 = .ok (.iastore, 1) := by decide +kernel
theorem dX8_work_79 : decode cX8_work 79 = .ok (.aload_n 0, 1) := by decide +kernel
theorem dX8_work_80 : decode cX8_work 80 = .ok (.getfield 69, 3) := by decide +kernel
theorem dX8_work_83 : decode cX8_work 83 = .ok (.aload_n 0, 1) := by decide +kernel
theorem dX8_work_84 : decode cX8_work 84 = .ok (.getfield 243, 3) := by decide +kernel
theorem dX8_work_87 : decode cX8_work 87 = .ok (.iload 4, 2) := by decide +kernel
theorem dX8_work_89 : decode cX8_work 89 = .ok (.iastore, 1) := by decide +kernel
theorem dX8_work_90 : decode cX8_work 90 = .ok (.aload_n 0, 1) := by decide +kernel
theorem dX8_work_91 : decode cX8_work 91 = .ok (.dup, 1) := by decide +kernel
theorem dX8_work_92 : decode cX8_work 92 = .ok (.getfield 243, 3) := by decide +kernel
theorem dX8_work_95 : decode cX8_work 95 = .ok (.iconst 1, 1) := by decide +kernel
theorem dX8_work_96 : decode cX8_work 96 = .ok (.iadd, 1) := by decide +kernel
theorem dX8_work_97 : decode cX8_work 97 = .ok (.putfield 243, 3) := by decide +kernel
theorem dX8_work_100 : decode cX8_work 100 = .ok (.aload_n 0, 1) := by decide +kernel
theorem dX8_work_101 : decode cX8_work 101 = .ok (.getfield 243, 3) := by decide +kernel
theorem dX8_work_104 : decode cX8_work 104 = .ok (.iconst 1, 1) := by decide +kernel
theorem dX8_work_105 : decode cX8_work 105 = .ok (.isub, 1) := by decide +kernel
theorem dX8_work_106 : decode cX8_work 106 = .ok (.ireturn, 1) := by decide +kernel
theorem dX8_drop_0 : decode cX8_drop 0 = .ok (.aload_n 0, 1) := by decide +kernel
theorem dX8_drop_1 : decode cX8_drop 1 = .ok (.getfield 243, 3) := by decide +kernel
theorem dX8_drop_4 : decode cX8_drop 4 = .ok (.istore_n 1, 1) := by decide +kernel
theorem dX8_drop_5 : decode cX8_drop 5 = .ok (.aload_n 0, 1) := by decide +kernel
theorem dX8_drop_6 : decode cX8_drop 6 = .ok (.iconst 0, 1) := by decide +kernel
theorem dX8_drop_7 : decode cX8_drop 7 = .ok (.putfield 243, 3) := by decide +kernel
theorem dX8_drop_10 : decode cX8_drop 10 = .ok (.iload_n 1, 1) := by decide +kernel
theorem dX8_drop_11 : decode cX8_drop 11 = .ok (.ireturn, 1) := by decide +kernel
theorem dX8_does_0 : decode cX8_does 0 = .ok (.aload_n 0, 1) := by decide +kernel
theorem dX8_does_1 : decode cX8_does 1 = .ok (.getfield 63, 3) := by decide +kernel
theorem dX8_does_4 : decode cX8_does 4 = .ok (.iload_n 1, 1) := by decide +kernel
theorem dX8_does_5 : decode cX8_does 5 = .ok (.iaload, 1) := by decide +kernel
theorem dX8_does_6 : decode cX8_does 6 = .ok (.istore_n 2, 1) := by decide +kernel
theorem dX8_does_7 : decode cX8_does 7 = .ok (.aload_n 0, 1) := by decide +kernel
theorem dX8_does_8 : decode cX8_does 8 = .ok (.getfield 60, 3) := by decide +kernel
theorem dX8_does_11 : decode cX8_does 11 = .ok (.iload_n 1, 1) := by decide +kernel
theorem dX8_does_12 : decode cX8_does 12 = .ok (.iaload, 1) := by decide +kernel
theorem dX8_does_13 : decode cX8_does 13 = .ok (.ifCond .ne 18, 3) := by decide +kernel
theorem dX8_does_16 : decode cX8_does 16 = .ok (.aload_n 0, 1) := by decide +kernel
theorem dX8_does_17 : decode cX8_does 17 = .ok (.getfield 19, 3) := by decide +kernel
theorem dX8_does_20 : decode cX8_does 20 = .ok (.iload_n 2, 1) := by decide +kernel
theorem dX8_does_21 : decode cX8_does 21 = .ok (.aload_n 0, 1) := by decide +kernel
theorem dX8_does_22 : decode cX8_does 22 = .ok (.getfield 66, 3) := by decide +kernel
theorem dX8_does_25 : decode cX8_does 25 = .ok (.iload_n 1, 1) := by decide +kernel
theorem dX8_does_26 : decode cX8_does 26 = .ok (.iaload, 1) := by decide +kernel
theorem dX8_does_27 : decode cX8_does 27 = .ok (.iastore, 1) := by decide +kernel
theorem dX8_does_28 : decode cX8_does 28 = .ok (.goto 71, 3) := by decide +kernel
theorem dX8_does_31 : decode cX8_does 31 = .ok (.aload_n 0, 1) := by decide +kernel
theorem dX8_does_32 : decode cX8_does 32 = .ok (.getfield 60, 3) := by decide +kernel
theorem dX8_does_35 : decode cX8_does 35 = .ok (.iload_n 1, 1) := by decide +kernel
theorem dX8_does_36 : decode cX8_does 36 = .ok (.iaload, 1) := by decide +kernel
theorem dX8_does_37 : decode cX8_does 37 = .ok (.iconst 1, 1) := by decide +kernel
theorem dX8_does_38 : decode cX8_does 38 = .ok (.if_icmp .ne 18, 3) := by decide +kernel
theorem dX8_does_41 : decode cX8_does 41 = .ok (.aload_n 0, 1) := by decide +kernel
theorem dX8_does_42 : decode cX8_does 42 = .ok (.getfield 16, 3) := by decide +kernel
theorem dX8_does_45 : decode cX8_does 45 = .ok (.iload_n 2, 1) := by decide +kernel
theorem dX8_does_46 : decode cX8_does 46 = .ok (.aload_n 0, 1) := by decide +kernel
theorem dX8_does_47 : decode cX8_does 47 = .ok (.getfield 66, 3) := by decide +kernel
theorem dX8_does_50 : decode cX8_does 50 = .ok (.iload_n 1, 1) := by decide +kernel
theorem dX8_does_51 : decode cX8_does 51 = .ok (.iaload, 1) := by decide +kernel
theorem dX8_does_52 : decode cX8_does 52 = .ok (.iastore, 1) := by decide +kernel
theorem dX8_does_53 : decode cX8_does 53 = .ok (.goto 46, 3) := by decide +kernel
theorem dX8_does_56 : decode cX8_does 56 = .ok (.aload_n 0, 1) := by decide +kernel
theorem dX8_does_57 : decode cX8_does 57 = .ok (.getfield 7, 3) := by decide +kernel
theorem dX8_does_60 : decode cX8_does 60 = .ok (.iload_n 2, 1) := by decide +kernel
theorem dX8_does_61 : decode cX8_does 61 = .ok (.aload_n 0, 1) := by decide +kernel
theorem dX8_does_62 : decode cX8_does 62 = .ok (.getfield 7, 3) := by decide +kernel
theorem dX8_does_65 : decode cX8_does 65 = .ok (.iload_n 2, 1) := by decide +kernel
theorem dX8_does_66 : decode cX8_does 66 = .ok (.iaload, 1) := by decide +kernel
theorem dX8_does_67 : decode cX8_does 67 = .ok (.aload_n 0, 1) := by decide +kernel
theorem dX8_does_68 : decode cX8_does 68 = .ok (.getfield 66, 3) := by decide +kernel
theorem dX8_does_71 : decode cX8_does 71 = .ok (.iload_n 1, 1) := by decide +kernel
theorem dX8_does_72 : decode cX8_does 72 = .ok (.iaload, 1) := by decide +kernel
theorem dX8_does_73 : decode cX8_does 73 = .ok (.if_icmp .ge 7, 3) := by decide +kernel
theorem dX8_does_76 : decode cX8_does 76 = .ok (.iconst 0, 1) := by decide +kernel
theorem dX8_does_77 : decode cX8_does 77 = .ok (.goto 16, 3) := by decide +kernel
theorem dX8_does_80 : decode cX8_does 80 = .ok (.aload_n 0, 1) := by decide +kernel
theorem dX8_does_81 : decode cX8_does 81 = .ok (.getfield 7, 3) := by decide +kernel
theorem dX8_does_84 : decode cX8_does 84 = .ok (.iload_n 2, 1) := by decide +kernel
theorem dX8_does_85 : decode cX8_does 85 = .ok (.iaload, 1) := by decide +kernel
theorem dX8_does_86 : decode cX8_does 86 = .ok (.aload_n 0, 1) := by decide +kernel
theorem dX8_does_87 : decode cX8_does 87 = .ok (.getfield 66, 3) := by decide +kernel
theorem dX8_does_90 : decode cX8_does 90 = .ok (.iload_n 1, 1) := by decide +kernel
theorem dX8_does_91 : decode cX8_does 91 = .ok (.iaload, 1) := by decide +kernel
theorem dX8_does_92 : decode cX8_does 92 = .ok (.isub, 1) := by decide +kernel
theorem dX8_does_93 : decode cX8_does 93 = .ok (.iastore, 1) := by decide +kernel
theorem dX8_does_94 : decode cX8_does 94 = .ok (.aload_n 0, 1) := by decide +kernel
theorem dX8_does_95 : decode cX8_does 95 = .ok (.iload_n 2, 1) := by decide +kernel
theorem dX8_does_96 : decode cX8_does 96 = .ok (.invokevirtual 156, 3) := by decide +kernel
theorem dX8_does_99 : decode cX8_does 99 = .ok (.return_, 1) := by decide +kernel
theorem dX8_seeks_0 : decode cX8_seeks 0 = .ok (.iload_n 1, 1) := by decide +kernel
theorem dX8_seeks_1 : decode cX8_seeks 1 = .ok (.iconst 0, 1) := by decide +kernel
theorem dX8_seeks_2 : decode cX8_seeks 2 = .ok (.sipush 9999, 3) := by decide +kernel
theorem dX8_seeks_5 : decode cX8_seeks 5 = .ok (.invokestatic 110, 3) := by decide +kernel
theorem dX8_seeks_8 : decode cX8_seeks 8 = .ok (.ifCond .eq 25, 3) := by decide +kernel
theorem dX8_seeks_11 : decode cX8_seeks 11 = .ok (.iload_n 2, 1) := by decide +kernel
theorem dX8_seeks_12 : decode cX8_seeks 12 = .ok (.iconst 1, 1) := by decide +kernel
theorem dX8_seeks_13 : decode cX8_seeks 13 = .ok (.bipush 60, 2) := by decide +kernel
theorem dX8_seeks_15 : decode cX8_seeks 15 = .ok (.invokestatic 110, 3) := by decide +kernel
theorem dX8_seeks_18 : decode cX8_seeks 18 = .ok (.ifCond .eq 15, 3) := by decide +kernel
theorem dX8_seeks_21 : decode cX8_seeks 21 = .ok (.aload_n 0, 1) := by decide +kernel
theorem dX8_seeks_22 : decode cX8_seeks 22 = .ok (.getfield 115, 3) := by decide +kernel
theorem dX8_seeks_25 : decode cX8_seeks 25 = .ok (.iload_n 2, 1) := by decide +kernel
theorem dX8_seeks_26 : decode cX8_seeks 26 = .ok (.iadd, 1) := by decide +kernel
theorem dX8_seeks_27 : decode cX8_seeks 27 = .ok (.sipush 3000, 3) := by decide +kernel
theorem dX8_seeks_30 : decode cX8_seeks 30 = .ok (.if_icmp .le 5, 3) := by decide +kernel
theorem dX8_seeks_33 : decode cX8_seeks 33 = .ok (.iconst 0, 1) := by decide +kernel
theorem dX8_seeks_34 : decode cX8_seeks 34 = .ok (.ireturn, 1) := by decide +kernel
theorem dX8_seeks_35 : decode cX8_seeks 35 = .ok (.aload_n 0, 1) := by decide +kernel
theorem dX8_seeks_36 : decode cX8_seeks 36 = .ok (.iconst 0, 1) := by decide +kernel
theorem dX8_seeks_37 : decode cX8_seeks 37 = .ok (.invokevirtual 106, 3) := by decide +kernel
theorem dX8_seeks_40 : decode cX8_seeks 40 = .ok (.iconst 0, 1) := by decide +kernel
theorem dX8_seeks_41 : decode cX8_seeks 41 = .ok (.istore_n 3, 1) := by decide +kernel
theorem dX8_seeks_42 : decode cX8_seeks 42 = .ok (.aload_n 0, 1) := by decide +kernel
theorem dX8_seeks_43 : decode cX8_seeks 43 = .ok (.iconst (-1), 1) := by decide +kernel
theorem dX8_seeks_44 : decode cX8_seeks 44 = .ok (.putfield 246, 3) := by decide +kernel
theorem dX8_seeks_47 : decode cX8_seeks 47 = .ok (.iconst 0, 1) := by decide +kernel
theorem dX8_seeks_48 : decode cX8_seeks 48 = .ok (.istore 4, 2) := by decide +kernel
theorem dX8_seeks_50 : decode cX8_seeks 50 = .ok (.iload 4, 2) := by decide +kernel
theorem dX8_seeks_52 : decode cX8_seeks 52 = .ok (.iconst 1, 1) := by decide +kernel
theorem dX8_seeks_53 : decode cX8_seeks 53 = .ok (.aload_n 0, 1) := by decide +kernel
theorem dX8_seeks_54 : decode cX8_seeks 54 = .ok (.getfield 243, 3) := by decide +kernel
theorem dX8_seeks_57 : decode cX8_seeks 57 = .ok (.ishl, 1) := by decide +kernel
theorem dX8_seeks_58 : decode cX8_seeks 58 = .ok (.if_icmp .ge 218, 3) := by decide +kernel
theorem dX8_seeks_61 : decode cX8_seeks 61 = .ok (.iconst 0, 1) := by decide +kernel
theorem dX8_seeks_62 : decode cX8_seeks 62 = .ok (.istore 5, 2) := by decide +kernel
theorem dX8_seeks_64 : decode cX8_seeks 64 = .ok (.iconst 0, 1) := by decide +kernel
theorem dX8_seeks_65 : decode cX8_seeks 65 = .ok (.istore 6, 2) := by decide +kernel
theorem dX8_seeks_67 : decode cX8_seeks 67 = .ok (.iload 6, 2) := by decide +kernel
theorem dX8_seeks_69 : decode cX8_seeks 69 = .ok (.aload_n 0, 1) := by decide +kernel
theorem dX8_seeks_70 : decode cX8_seeks 70 = .ok (.getfield 243, 3) := by decide +kernel
theorem dX8_seeks_73 : decode cX8_seeks 73 = .ok (.if_icmp .ge 36, 3) := by decide +kernel
theorem dX8_seeks_76 : decode cX8_seeks 76 = .ok (.iload 5, 2) := by decide +kernel
theorem dX8_seeks_78 : decode cX8_seeks 78 = .ok (.iload 4, 2) := by decide +kernel
theorem dX8_seeks_80 : decode cX8_seeks 80 = .ok (.iload 6, 2) := by decide +kernel
theorem dX8_seeks_82 : decode cX8_seeks 82 = .ok (.ishr, 1) := by decide +kernel
theorem dX8_seeks_83 : decode cX8_seeks 83 = .ok (.iconst 1, 1) := by decide +kernel
theorem dX8_seeks_84 : decode cX8_seeks 84 = .ok (.iand, 1) := by decide +kernel
theorem dX8_seeks_85 : decode cX8_seeks 85 = .ok (.iconst 1, 1) := by decide +kernel
theorem dX8_seeks_86 : decode cX8_seeks 86 = .ok (.if_icmp .ne 13, 3) := by decide +kernel
theorem dX8_seeks_89 : decode cX8_seeks 89 = .ok (.aload_n 0, 1) := by decide +kernel
theorem dX8_seeks_90 : decode cX8_seeks 90 = .ok (.getfield 69, 3) := by decide +kernel
theorem dX8_seeks_93 : decode cX8_seeks 93 = .ok (.iload 6, 2) := by decide +kernel
theorem dX8_seeks_95 : decode cX8_seeks 95 = .ok (.iaload, 1) := by decide +kernel
theorem dX8_seeks_96 : decode cX8_seeks 96 = .ok (.goto 4, 3) := by decide +kernel
theorem dX8_seeks_99 : decode cX8_seeks 99 = .ok (.iconst 0, 1) := by decide +kernel
theorem dX8_seeks_100 : decode cX8_seeks 100 = .ok (.iadd, 1) := by decide +kernel
theorem dX8_seeks_101 : decode cX8_seeks 101 = .ok (.istore 5, 2) := by decide +kernel
theorem dX8_seeks_103 : decode cX8_seeks 103 = .ok (.iinc 6 1, 3) := by decide +kernel
theorem dX8_seeks_106 : decode cX8_seeks 106 = .ok (.goto (-39), 3) := by decide +kernel
theorem dX8_seeks_109 : decode cX8_seeks 109 = .ok (.iload 5, 2) := by decide +kernel
theorem dX8_seeks_111 : decode cX8_seeks 111 = .ok (.iload_n 1, 1) := by decide +kernel
theorem dX8_seeks_112 : decode cX8_seeks 112 = .ok (.if_icmp .le 6, 3) := by decide +kernel
theorem dX8_seeks_115 : decode cX8_seeks 115 = .ok (.goto 155, 3) := by decide +kernel
theorem dX8_seeks_118 : decode cX8_seeks 118 = .ok (.iconst 0, 1) := by decide +kernel
theorem dX8_seeks_119 : decode cX8_seeks 119 = .ok (.istore 6, 2) := by decide +kernel
theorem dX8_seeks_121 : decode cX8_seeks 121 = .ok (.iload 6, 2) := by decide +kernel
theorem dX8_seeks_123 : decode cX8_seeks 123 = .ok (.aload_n 0, 1) := by decide +kernel
theorem dX8_seeks_124 : decode cX8_seeks 124 = .ok (.getfield 243, 3) := by decide +kernel
theorem dX8_seeks_127 : decode cX8_seeks 127 = .ok (.if_icmp .ge 26, 3) := by decide +kernel
theorem dX8_seeks_130 : decode cX8_seeks 130 = .ok (.iload 4, 2) := by decide +kernel
theorem dX8_seeks_132 : decode cX8_seeks 132 = .ok (.iload 6, 2) := by decide +kernel
theorem dX8_seeks_134 : decode cX8_seeks 134 = .ok (.ishr, 1) := by decide +kernel
theorem dX8_seeks_135 : decode cX8_seeks 135 = .ok (.iconst 1, 1) := by decide +kernel
theorem dX8_seeks_136 : decode cX8_seeks 136 = .ok (.iand, 1) := by decide +kernel
theorem dX8_seeks_137 : decode cX8_seeks 137 = .ok (.iconst 1, 1) := by decide +kernel
theorem dX8_seeks_138 : decode cX8_seeks 138 = .ok (.if_icmp .ne 9, 3) := by decide +kernel
theorem dX8_seeks_141 : decode cX8_seeks 141 = .ok (.aload_n 0, 1) := by decide +kernel
theorem dX8_seeks_142 : decode cX8_seeks 142 = .ok (.iload 6, 2) := by decide +kernel
theorem dX8_seeks_144 : decode cX8_seeks 144 = .ok (.invokevirtual 249, 3) := by decide +kernel
theorem dX8_seeks_147 : decode cX8_seeks 147 = .ok (.iinc 6 1, 3) := by decide +kernel
theorem dX8_seeks_150 : decode cX8_seeks 150 = .ok (.goto (-29), 3) := by decide +kernel
theorem dX8_seeks_153 : decode cX8_seeks 153 = .ok (.iconst 0, 1) := by decide +kernel
theorem dX8_seeks_154 : decode cX8_seeks 154 = .ok (.istore 6, 2) := by decide +kernel
theorem dX8_seeks_156 : decode cX8_seeks 156 = .ok (.iload 6, 2) := by decide +kernel
theorem dX8_seeks_158 : decode cX8_seeks 158 = .ok (.iload_n 2, 1) := by decide +kernel
theorem dX8_seeks_159 : decode cX8_seeks 159 = .ok (.if_icmp .ge 13, 3) := by decide +kernel
theorem dX8_seeks_162 : decode cX8_seeks 162 = .ok (.aload_n 0, 1) := by decide +kernel
theorem dX8_seeks_163 : decode cX8_seeks 163 = .ok (.invokevirtual 240, 3) := by decide +kernel
theorem dX8_seeks_166 : decode cX8_seeks 166 = .ok (.iinc 6 1, 3) := by decide +kernel
theorem dX8_seeks_169 : decode cX8_seeks 169 = .ok (.goto (-13), 3) := by decide +kernel
theorem dX8_seeks_172 : decode cX8_seeks 172 = .ok (.iconst 0, 1) := by decide +kernel
theorem dX8_seeks_173 : decode cX8_seeks 173 = .ok (.istore 6, 2) := by decide +kernel
theorem dX8_seeks_175 : decode cX8_seeks 175 = .ok (.iconst 0, 1) := by decide +kernel
theorem dX8_seeks_176 : decode cX8_seeks 176 = .ok (.istore 7, 2) := by decide +kernel
theorem dX8_seeks_178 : decode cX8_seeks 178 = .ok (.iload 7, 2) := by decide +kernel
theorem dX8_seeks_180 : decode cX8_seeks 180 = .ok (.aload_n 0, 1) := by decide +kernel
theorem dX8_seeks_181 : decode cX8_seeks 181 = .ok (.getfield 103, 3) := by decide +kernel
theorem dX8_seeks_184 : decode cX8_seeks 184 = .ok (.if_icmp .ge 35, 3) := by decide +kernel
theorem dX8_seeks_187 : decode cX8_seeks 187 = .ok (.iload 6, 2) := by decide +kernel
theorem dX8_seeks_189 : decode cX8_seeks 189 = .ok (.aload_n 0, 1) := by decide +kernel
theorem dX8_seeks_190 : decode cX8_seeks 190 = .ok (.getfield 25, 3) := by decide +kernel
theorem dX8_seeks_193 : decode cX8_seeks 193 = .ok (.iload 7, 2) := by decide +kernel
theorem dX8_seeks_195 : decode cX8_seeks 195 = .ok (.iaload, 1) := by decide +kernel
theorem dX8_seeks_196 : decode cX8_seeks 196 = .ok (.ifCond .le 13, 3) := by decide +kernel
theorem dX8_seeks_199 : decode cX8_seeks 199 = .ok (.aload_n 0, 1) := by decide +kernel
theorem dX8_seeks_200 : decode cX8_seeks 200 = .ok (.getfield 7, 3) := by decide +kernel
theorem dX8_seeks_203 : decode cX8_seeks 203 = .ok (.iload 7, 2) := by decide +kernel
theorem dX8_seeks_205 : decode cX8_seeks 205 = .ok (.iaload, 1) := by decide +kernel
theorem dX8_seeks_206 : decode cX8_seeks 206 = .ok (.goto 4, 3) := by decide +kernel
theorem dX8_seeks_209 : decode cX8_seeks 209 = .ok (.iconst 0, 1) := by decide +kernel
theorem dX8_seeks_210 : decode cX8_seeks 210 = .ok (.iadd, 1) := by decide +kernel
theorem dX8_seeks_211 : decode cX8_seeks 211 = .ok (.istore 6, 2) := by decide +kernel
theorem dX8_seeks_213 : decode cX8_seeks 213 = .ok (.iinc 7 1, 3) := by decide +kernel
theorem dX8_seeks_216 : decode cX8_seeks 216 = .ok (.goto (-38), 3) := by decide +kernel
theorem dX8_seeks_219 : decode cX8_seeks 219 = .ok (.aload_n 0, 1) := by decide +kernel
theorem dX8_seeks_220 : decode cX8_seeks 220 = .ok (.getfield 246, 3) := by decide +kernel
theorem dX8_seeks_223 : decode cX8_seeks 223 = .ok (.ifCond .lt 27, 3) := by decide +kernel
theorem dX8_seeks_226 : decode cX8_seeks 226 = .ok (.iload 6, 2) := by decide +kernel
theorem dX8_seeks_228 : decode cX8_seeks 228 = .ok (.aload_n 0, 1) := by decide +kernel
theorem dX8_seeks_229 : decode cX8_seeks 229 = .ok (.getfield 246, 3) := by decide +kernel
theorem dX8_seeks_232 : decode cX8_seeks 232 = .ok (.if_icmp .lt 18, 3) := by decide +kernel
theorem dX8_seeks_235 : decode cX8_seeks 235 = .ok (.iload 6, 2) := by decide +kernel
theorem dX8_seeks_237 : decode cX8_seeks 237 = .ok (.aload_n 0, 1) := by decide +kernel
theorem dX8_seeks_238 : decode cX8_seeks 238 = .ok (.getfield 246, 3) := by decide +kernel
theorem dX8_seeks_241 : decode cX8_seeks 241 = .ok (.if_icmp .ne 24, 3) := by decide +kernel
theorem dX8_seeks_244 : decode cX8_seeks 244 = .ok (.iload 5, 2) := by decide +kernel
theorem dX8_seeks_246 : decode cX8_seeks 246 = .ok (.iload_n 3, 1) := by decide +kernel
theorem dX8_seeks_247 : decode cX8_seeks 247 = .ok (.if_icmp .ge 18, 3) := by decide +kernel
theorem dX8_seeks_250 : decode cX8_seeks 250 = .ok (.aload_n 0, 1) := by decide +kernel
theorem dX8_seeks_251 : decode cX8_seeks 251 = .ok (.iload 6, 2) := by decide +kernel
theorem dX8_seeks_253 : decode cX8_seeks 253 = .ok (.putfield 246, 3) := by decide +kernel
theorem dX8_seeks_256 : decode cX8_seeks 256 = .ok (.iload 5, 2) := by decide +kernel
theorem dX8_seeks_258 : decode cX8_seeks 258 = .ok (.istore_n 3, 1) := by decide +kernel
theorem dX8_seeks_259 : decode cX8_seeks 259 = .ok (.aload_n 0, 1) := by decide +kernel
theorem dX8_seeks_260 : decode cX8_seeks 260 = .ok (.iload 4, 2) := by decide +kernel
theorem dX8_seeks_262 : decode cX8_seeks 262 = .ok (.putfield 252, 3) := by decide +kernel
theorem dX8_seeks_265 : decode cX8_seeks 265 = .ok (.aload_n 0, 1) := by decide +kernel
theorem dX8_seeks_266 : decode cX8_seeks 266 = .ok (.iconst 0, 1) := by decide +kernel
theorem dX8_seeks_267 : decode cX8_seeks 267 = .ok (.invokevirtual 255, 3) := by decide +kernel
theorem dX8_seeks_270 : decode cX8_seeks 270 = .ok (.iinc 4 1, 3) := by decide +kernel
theorem dX8_seeks_273 : decode cX8_seeks 273 = .ok (.goto (-223), 3) := by decide +kernel
theorem dX8_seeks_276 : decode cX8_seeks 276 = .ok (.iconst 1, 1) := by decide +kernel
theorem dX8_seeks_277 : decode cX8_seeks 277 = .ok (.ireturn, 1) := by decide +kernel
theorem dX8_best_0 : decode cX8_best 0 = .ok (.aload_n 0, 1) := by decide +kernel
theorem dX8_best_1 : decode cX8_best 1 = .ok (.iload_n 1, 1) := by decide +kernel
theorem dX8_best_2 : decode cX8_best 2 = .ok (.iload_n 2, 1) := by decide +kernel
theorem dX8_best_3 : decode cX8_best 3 = .ok (.invokevirtual 258, 3) := by decide +kernel
theorem dX8_best_6 : decode cX8_best 6 = .ok (.ifCond .eq 10, 3) := by decide +kernel
theorem dX8_best_9 : decode cX8_best 9 = .ok (.aload_n 0, 1) := by decide +kernel
theorem dX8_best_10 : decode cX8_best 10 = .ok (.getfield 246, 3) := by decide +kernel
theorem dX8_best_13 : decode cX8_best 13 = .ok (.goto 4, 3) := by decide +kernel
theorem dX8_best_16 : decode cX8_best 16 = .ok (.iconst (-1), 1) := by decide +kernel
theorem dX8_best_17 : decode cX8_best 17 = .ok (.ireturn, 1) := by decide +kernel
theorem dX8_bestSet_0 : decode cX8_bestSet 0 = .ok (.aload_n 0, 1) := by decide +kernel
theorem dX8_bestSet_1 : decode cX8_bestSet 1 = .ok (.iload_n 1, 1) := by decide +kernel
theorem dX8_bestSet_2 : decode cX8_bestSet 2 = .ok (.iload_n 2, 1) := by decide +kernel
theorem dX8_bestSet_3 : decode cX8_bestSet 3 = .ok (.invokevirtual 258, 3) := by decide +kernel
theorem dX8_bestSet_6 : decode cX8_bestSet 6 = .ok (.ifCond .eq 10, 3) := by decide +kernel
theorem dX8_bestSet_9 : decode cX8_bestSet 9 = .ok (.aload_n 0, 1) := by decide +kernel
theorem dX8_bestSet_10 : decode cX8_bestSet 10 = .ok (.getfield 252, 3) := by decide +kernel
theorem dX8_bestSet_13 : decode cX8_bestSet 13 = .ok (.goto 4, 3) := by decide +kernel
theorem dX8_bestSet_16 : decode cX8_bestSet 16 = .ok (.iconst (-1), 1) := by decide +kernel
theorem dX8_bestSet_17 : decode cX8_bestSet 17 = .ok (.ireturn, 1) := by decide +kernel
theorem dX8_mark_0 : decode cX8_mark 0 = .ok (.aload_n 0, 1) := by decide +kernel
theorem dX8_mark_1 : decode cX8_mark 1 = .ok (.iconst 1, 1) := by decide +kernel
theorem dX8_mark_2 : decode cX8_mark 2 = .ok (.invokevirtual 106, 3) := by decide +kernel
theorem dX8_mark_5 : decode cX8_mark 5 = .ok (.aload_n 0, 1) := by decide +kernel
theorem dX8_mark_6 : decode cX8_mark 6 = .ok (.iconst 0, 1) := by decide +kernel
theorem dX8_mark_7 : decode cX8_mark 7 = .ok (.putfield 261, 3) := by decide +kernel
theorem dX8_mark_10 : decode cX8_mark 10 = .ok (.return_, 1) := by decide +kernel
theorem dX8_flight_0 : decode cX8_flight 0 = .ok (.aload_n 0, 1) := by decide +kernel
theorem dX8_flight_1 : decode cX8_flight 1 = .ok (.iload_n 1, 1) := by decide +kernel
theorem dX8_flight_2 : decode cX8_flight 2 = .ok (.invokevirtual 153, 3) := by decide +kernel
theorem dX8_flight_5 : decode cX8_flight 5 = .ok (.ifCond .eq 33, 3) := by decide +kernel
theorem dX8_flight_8 : decode cX8_flight 8 = .ok (.iload_n 2, 1) := by decide +kernel
theorem dX8_flight_9 : decode cX8_flight 9 = .ok (.iconst 0, 1) := by decide +kernel
theorem dX8_flight_10 : decode cX8_flight 10 = .ok (.sipush 9999, 3) := by decide +kernel
theorem dX8_flight_13 : decode cX8_flight 13 = .ok (.invokestatic 110, 3) := by decide +kernel
theorem dX8_flight_16 : decode cX8_flight 16 = .ok (.ifCond .eq 22, 3) := by decide +kernel
theorem dX8_flight_19 : decode cX8_flight 19 = .ok (.iload_n 3, 1) := by decide +kernel
theorem dX8_flight_20 : decode cX8_flight 20 = .ok (.iconst 0, 1) := by decide +kernel
theorem dX8_flight_21 : decode cX8_flight 21 = .ok (.bipush 9, 2) := by decide +kernel
theorem dX8_flight_23 : decode cX8_flight 23 = .ok (.invokestatic 110, 3) := by decide +kernel
theorem dX8_flight_26 : decode cX8_flight 26 = .ok (.ifCond .eq 12, 3) := by decide +kernel
theorem dX8_flight_29 : decode cX8_flight 29 = .ok (.aload_n 0, 1) := by decide +kernel
theorem dX8_flight_30 : decode cX8_flight 30 = .ok (.getfield 261, 3) := by decide +kernel
theorem dX8_flight_33 : decode cX8_flight 33 = .ok (.bipush 20, 2) := by decide +kernel
theorem dX8_flight_35 : decode cX8_flight 35 = .ok (.if_icmp .ne 5, 3) := by decide +kernel
theorem dX8_flight_38 : decode cX8_flight 38 = .ok (.iconst (-1), 1) := by decide +kernel
theorem dX8_flight_39 : decode cX8_flight 39 = .ok (.ireturn, 1) := by decide +kernel
theorem dX8_flight_40 : decode cX8_flight 40 = .ok (.aload_n 0, 1) := by decide +kernel
theorem dX8_flight_41 : decode cX8_flight 41 = .ok (.getfield 72, 3) := by decide +kernel
theorem dX8_flight_44 : decode cX8_flight 44 = .ok (.aload_n 0, 1) := by decide +kernel
theorem dX8_flight_45 : decode cX8_flight 45 = .ok (.getfield 261, 3) := by decide +kernel
theorem dX8_flight_48 : decode cX8_flight 48 = .ok (.iload_n 1, 1) := by decide +kernel
theorem dX8_flight_49 : decode cX8_flight 49 = .ok (.iastore, 1) := by decide +kernel
theorem dX8_flight_50 : decode cX8_flight 50 = .ok (.aload_n 0, 1) := by decide +kernel
theorem dX8_flight_51 : decode cX8_flight 51 = .ok (.getfield 75, 3) := by decide +kernel
theorem dX8_flight_54 : decode cX8_flight 54 = .ok (.aload_n 0, 1) := by decide +kernel
theorem dX8_flight_55 : decode cX8_flight 55 = .ok (.getfield 261, 3) := by decide +kernel
theorem dX8_flight_58 : decode cX8_flight 58 = .ok (.iload_n 2, 1) := by decide +kernel
theorem dX8_flight_59 : decode cX8_flight 59 = .ok (.iastore, 1) := by decide +kernel
theorem dX8_flight_60 : decode cX8_flight 60 = .ok (.aload_n 0, 1) := by decide +kernel
theorem dX8_flight_61 : decode cX8_flight 61 = .ok (.getfield 78, 3) := by decide +kernel
theorem dX8_flight_64 : decode cX8_flight 64 = .ok (.aload_n 0, 1) := by decide +kernel
theorem dX8_flight_65 : decode cX8_flight 65 = .ok (.getfield 261, 3) := by decide +kernel
theorem dX8_flight_68 : decode cX8_flight 68 = .ok (.iload_n 3, 1) := by decide +kernel
theorem dX8_flight_69 : decode cX8_flight 69 = .ok (.iastore, 1) := by decide +kernel
theorem dX8_flight_70 : decode cX8_flight 70 = .ok (.aload_n 0, 1) := by decide +kernel
theorem dX8_flight_71 : decode cX8_flight 71 = .ok (.dup, 1) := by decide +kernel
theorem dX8_flight_72 : decode cX8_flight 72 = .ok (.getfield 261, 3) := by decide +kernel
theorem dX8_flight_75 : decode cX8_flight 75 = .ok (.iconst 1, 1) := by decide +kernel
theorem dX8_flight_76 : decode cX8_flight 76 = .ok (.iadd, 1) := by decide +kernel
theorem dX8_flight_77 : decode cX8_flight 77 = .ok (.putfield 261, 3) := by decide +kernel
theorem dX8_flight_80 : decode cX8_flight 80 = .ok (.aload_n 0, 1) := by decide +kernel
theorem dX8_flight_81 : decode cX8_flight 81 = .ok (.getfield 261, 3) := by decide +kernel
theorem dX8_flight_84 : decode cX8_flight 84 = .ok (.ireturn, 1) := by decide +kernel
theorem dX8_areSeen_0 : decode cX8_areSeen 0 = .ok (.iconst 1, 1) := by decide +kernel
theorem dX8_areSeen_1 : decode cX8_areSeen 1 = .ok (.istore_n 1, 1) := by decide +kernel
theorem dX8_areSeen_2 : decode cX8_areSeen 2 = .ok (.iconst 0, 1) := by decide +kernel
theorem dX8_areSeen_3 : decode cX8_areSeen 3 = .ok (.istore_n 2, 1) := by decide +kernel
theorem dX8_areSeen_4 : decode cX8_areSeen 4 = .ok (.iload_n 2, 1) := by decide +kernel
theorem dX8_areSeen_5 : decode cX8_areSeen 5 = .ok (.aload_n 0, 1) := by decide +kernel
theorem dX8_areSeen_6 : decode cX8_areSeen 6 = .ok (.getfield 261, 3) := by decide +kernel
theorem dX8_areSeen_9 : decode cX8_areSeen 9 = .ok (.if_icmp .ge 62, 3) := by decide +kernel
theorem dX8_areSeen_12 : decode cX8_areSeen 12 = .ok (.iload_n 1, 1) := by decide +kernel
theorem dX8_areSeen_13 : decode cX8_areSeen 13 = .ok (.ifCond .eq 50, 3) := by decide +kernel
theorem dX8_areSeen_16 : decode cX8_areSeen 16 = .ok (.aload_n 0, 1) := by decide +kernel
theorem dX8_areSeen_17 : decode cX8_areSeen 17 = .ok (.getfield 7, 3) := by decide +kernel
theorem dX8_areSeen_20 : decode cX8_areSeen 20 = .ok (.aload_n 0, 1) := by decide +kernel
theorem dX8_areSeen_21 : decode cX8_areSeen 21 = .ok (.getfield 72, 3) := by decide +kernel
theorem dX8_areSeen_24 : decode cX8_areSeen 24 = .ok (.iload_n 2, 1) := by decide +kernel
theorem dX8_areSeen_25 : decode cX8_areSeen 25 = .ok (.iaload, 1) := by decide +kernel
theorem dX8_areSeen_26 : decode cX8_areSeen 26 = .ok (.iaload, 1) := by decide +kernel
theorem dX8_areSeen_27 : decode cX8_areSeen 27 = .ok (.aload_n 0, 1) := by decide +kernel
theorem dX8_areSeen_28 : decode cX8_areSeen 28 = .ok (.getfield 75, 3) := by decide +kernel
theorem dX8_areSeen_31 : decode cX8_areSeen 31 = .ok (.iload_n 2, 1) := by decide +kernel
theorem dX8_areSeen_32 : decode cX8_areSeen 32 = .ok (.iaload, 1) := by decide +kernel
theorem dX8_areSeen_33 : decode cX8_areSeen 33 = .ok (.aload_n 0, 1) := by decide +kernel
theorem dX8_areSeen_34 : decode cX8_areSeen 34 = .ok (.getfield 78, 3) := by decide +kernel
theorem dX8_areSeen_37 : decode cX8_areSeen 37 = .ok (.iload_n 2, 1) := by decide +kernel
theorem dX8_areSeen_38 : decode cX8_areSeen 38 = .ok (.iaload, 1) := by decide +kernel
theorem dX8_areSeen_39 : decode cX8_areSeen 39 = .ok (.isub, 1) := by decide +kernel
theorem dX8_areSeen_40 : decode cX8_areSeen 40 = .ok (.aload_n 0, 1) := by decide +kernel
theorem dX8_areSeen_41 : decode cX8_areSeen 41 = .ok (.getfield 75, 3) := by decide +kernel
theorem dX8_areSeen_44 : decode cX8_areSeen 44 = .ok (.iload_n 2, 1) := by decide +kernel
theorem dX8_areSeen_45 : decode cX8_areSeen 45 = .ok (.iaload, 1) := by decide +kernel
theorem dX8_areSeen_46 : decode cX8_areSeen 46 = .ok (.aload_n 0, 1) := by decide +kernel
theorem dX8_areSeen_47 : decode cX8_areSeen 47 = .ok (.getfield 78, 3) := by decide +kernel
theorem dX8_areSeen_50 : decode cX8_areSeen 50 = .ok (.iload_n 2, 1) := by decide +kernel
theorem dX8_areSeen_51 : decode cX8_areSeen 51 = .ok (.iaload, 1) := by decide +kernel
theorem dX8_areSeen_52 : decode cX8_areSeen 52 = .ok (.iadd, 1) := by decide +kernel
theorem dX8_areSeen_53 : decode cX8_areSeen 53 = .ok (.invokestatic 110, 3) := by decide +kernel
theorem dX8_areSeen_56 : decode cX8_areSeen 56 = .ok (.ifCond .eq 7, 3) := by decide +kernel
theorem dX8_areSeen_59 : decode cX8_areSeen 59 = .ok (.iconst 1, 1) := by decide +kernel
theorem dX8_areSeen_60 : decode cX8_areSeen 60 = .ok (.goto 4, 3) := by decide +kernel
theorem dX8_areSeen_63 : decode cX8_areSeen 63 = .ok (.iconst 0, 1) := by decide +kernel
theorem dX8_areSeen_64 : decode cX8_areSeen 64 = .ok (.istore_n 1, 1) := by decide +kernel
theorem dX8_areSeen_65 : decode cX8_areSeen 65 = .ok (.iinc 2 1, 3) := by decide +kernel
theorem dX8_areSeen_68 : decode cX8_areSeen 68 = .ok (.goto (-64), 3) := by decide +kernel
theorem dX8_areSeen_71 : decode cX8_areSeen 71 = .ok (.iload_n 1, 1) := by decide +kernel
theorem dX8_areSeen_72 : decode cX8_areSeen 72 = .ok (.ireturn, 1) := by decide +kernel
theorem dX8_fits_0 : decode cX8_fits 0 = .ok (.iload_n 1, 1) := by decide +kernel
theorem dX8_fits_1 : decode cX8_fits 1 = .ok (.iconst 1, 1) := by decide +kernel
theorem dX8_fits_2 : decode cX8_fits 2 = .ok (.bipush 60, 2) := by decide +kernel
theorem dX8_fits_4 : decode cX8_fits 4 = .ok (.invokestatic 110, 3) := by decide +kernel
theorem dX8_fits_7 : decode cX8_fits 7 = .ok (.ifCond .eq 18, 3) := by decide +kernel
theorem dX8_fits_10 : decode cX8_fits 10 = .ok (.aload_n 0, 1) := by decide +kernel
theorem dX8_fits_11 : decode cX8_fits 11 = .ok (.getfield 87, 3) := by decide +kernel
theorem dX8_fits_14 : decode cX8_fits 14 = .ok (.bipush 9, 2) := by decide +kernel
theorem dX8_fits_16 : decode cX8_fits 16 = .ok (.iaload, 1) := by decide +kernel
theorem dX8_fits_17 : decode cX8_fits 17 = .ok (.iload_n 1, 1) := by decide +kernel
theorem dX8_fits_18 : decode cX8_fits 18 = .ok (.iadd, 1) := by decide +kernel
theorem dX8_fits_19 : decode cX8_fits 19 = .ok (.sipush 3000, 3) := by decide +kernel
theorem dX8_fits_22 : decode cX8_fits 22 = .ok (.if_icmp .le 5, 3) := by decide +kernel
theorem dX8_fits_25 : decode cX8_fits 25 = .ok (.iconst (-1), 1) := by decide +kernel
theorem dX8_fits_26 : decode cX8_fits 26 = .ok (.ireturn, 1) := by decide +kernel
theorem dX8_fits_27 : decode cX8_fits 27 = .ok (.aload_n 0, 1) := by decide +kernel
theorem dX8_fits_28 : decode cX8_fits 28 = .ok (.iconst 0, 1) := by decide +kernel
theorem dX8_fits_29 : decode cX8_fits 29 = .ok (.invokevirtual 106, 3) := by decide +kernel
theorem dX8_fits_32 : decode cX8_fits 32 = .ok (.iconst 0, 1) := by decide +kernel
theorem dX8_fits_33 : decode cX8_fits 33 = .ok (.istore_n 2, 1) := by decide +kernel
theorem dX8_fits_34 : decode cX8_fits 34 = .ok (.iconst 1, 1) := by decide +kernel
theorem dX8_fits_35 : decode cX8_fits 35 = .ok (.istore_n 3, 1) := by decide +kernel
theorem dX8_fits_36 : decode cX8_fits 36 = .ok (.iload_n 3, 1) := by decide +kernel
theorem dX8_fits_37 : decode cX8_fits 37 = .ok (.bipush 6, 2) := by decide +kernel
theorem dX8_fits_39 : decode cX8_fits 39 = .ok (.if_icmp .ge 57, 3) := by decide +kernel
theorem dX8_fits_42 : decode cX8_fits 42 = .ok (.aload_n 0, 1) := by decide +kernel
theorem dX8_fits_43 : decode cX8_fits 43 = .ok (.iconst 1, 1) := by decide +kernel
theorem dX8_fits_44 : decode cX8_fits 44 = .ok (.invokevirtual 255, 3) := by decide +kernel
theorem dX8_fits_47 : decode cX8_fits 47 = .ok (.aload_n 0, 1) := by decide +kernel
theorem dX8_fits_48 : decode cX8_fits 48 = .ok (.getfield 31, 3) := by decide +kernel
theorem dX8_fits_51 : decode cX8_fits 51 = .ok (.iconst 0, 1) := by decide +kernel
theorem dX8_fits_52 : decode cX8_fits 52 = .ok (.iload_n 3, 1) := by decide +kernel
theorem dX8_fits_53 : decode cX8_fits 53 = .ok (.iastore, 1) := by decide +kernel
theorem dX8_fits_54 : decode cX8_fits 54 = .ok (.iconst 0, 1) := by decide +kernel
theorem dX8_fits_55 : decode cX8_fits 55 = .ok (.istore 4, 2) := by decide +kernel
theorem dX8_fits_57 : decode cX8_fits 57 = .ok (.iload 4, 2) := by decide +kernel
theorem dX8_fits_59 : decode cX8_fits 59 = .ok (.iload_n 1, 1) := by decide +kernel
theorem dX8_fits_60 : decode cX8_fits 60 = .ok (.if_icmp .ge 13, 3) := by decide +kernel
theorem dX8_fits_63 : decode cX8_fits 63 = .ok (.aload_n 0, 1) := by decide +kernel
theorem dX8_fits_64 : decode cX8_fits 64 = .ok (.invokevirtual 240, 3) := by decide +kernel
theorem dX8_fits_67 : decode cX8_fits 67 = .ok (.iinc 4 1, 3) := by decide +kernel
theorem dX8_fits_70 : decode cX8_fits 70 = .ok (.goto (-13), 3) := by decide +kernel
theorem dX8_fits_73 : decode cX8_fits 73 = .ok (.iload_n 2, 1) := by decide +kernel
theorem dX8_fits_74 : decode cX8_fits 74 = .ok (.aload_n 0, 1) := by decide +kernel
theorem dX8_fits_75 : decode cX8_fits 75 = .ok (.invokevirtual 264, 3) := by decide +kernel
theorem dX8_fits_78 : decode cX8_fits 78 = .ok (.ifCond .eq 9, 3) := by decide +kernel
theorem dX8_fits_81 : decode cX8_fits 81 = .ok (.iconst 1, 1) := by decide +kernel
theorem dX8_fits_82 : decode cX8_fits 82 = .ok (.iload_n 3, 1) := by decide +kernel
theorem dX8_fits_83 : decode cX8_fits 83 = .ok (.ishl, 1) := by decide +kernel
theorem dX8_fits_84 : decode cX8_fits 84 = .ok (.goto 4, 3) := by decide +kernel
theorem dX8_fits_87 : decode cX8_fits 87 = .ok (.iconst 0, 1) := by decide +kernel
theorem dX8_fits_88 : decode cX8_fits 88 = .ok (.ior, 1) := by decide +kernel
theorem dX8_fits_89 : decode cX8_fits 89 = .ok (.istore_n 2, 1) := by decide +kernel
theorem dX8_fits_90 : decode cX8_fits 90 = .ok (.iinc 3 1, 3) := by decide +kernel
theorem dX8_fits_93 : decode cX8_fits 93 = .ok (.goto (-57), 3) := by decide +kernel
theorem dX8_fits_96 : decode cX8_fits 96 = .ok (.aload_n 0, 1) := by decide +kernel
theorem dX8_fits_97 : decode cX8_fits 97 = .ok (.iconst 0, 1) := by decide +kernel
theorem dX8_fits_98 : decode cX8_fits 98 = .ok (.invokevirtual 255, 3) := by decide +kernel
theorem dX8_fits_101 : decode cX8_fits 101 = .ok (.iload_n 2, 1) := by decide +kernel
theorem dX8_fits_102 : decode cX8_fits 102 = .ok (.ireturn, 1) := by decide +kernel
theorem dX8_about_0 : decode cX8_about 0 = .ok (.iload_n 1, 1) := by decide +kernel
theorem dX8_about_1 : decode cX8_about 1 = .ok (.bipush 20, 2) := by decide +kernel
theorem dX8_about_3 : decode cX8_about 3 = .ok (.bipush 24, 2) := by decide +kernel
theorem dX8_about_5 : decode cX8_about 5 = .ok (.invokestatic 110, 3) := by decide +kernel
theorem dX8_about_8 : decode cX8_about 8 = .ok (.ifCond .eq 13, 3) := by decide +kernel
theorem dX8_about_11 : decode cX8_about 11 = .ok (.aload_n 0, 1) := by decide +kernel
theorem dX8_about_12 : decode cX8_about 12 = .ok (.getfield 31, 3) := by decide +kernel
theorem dX8_about_15 : decode cX8_about 15 = .ok (.iload_n 1, 1) := by decide +kernel
theorem dX8_about_16 : decode cX8_about 16 = .ok (.bipush 20, 2) := by decide +kernel
theorem dX8_about_18 : decode cX8_about 18 = .ok (.isub, 1) := by decide +kernel
theorem dX8_about_19 : decode cX8_about 19 = .ok (.iaload, 1) := by decide +kernel
theorem dX8_about_20 : decode cX8_about 20 = .ok (.ireturn, 1) := by decide +kernel
theorem dX8_about_21 : decode cX8_about 21 = .ok (.iconst 0, 1) := by decide +kernel
theorem dX8_about_22 : decode cX8_about 22 = .ok (.istore_n 2, 1) := by decide +kernel
theorem dX8_about_23 : decode cX8_about 23 = .ok (.iconst 0, 1) := by decide +kernel
theorem dX8_about_24 : decode cX8_about 24 = .ok (.istore_n 3, 1) := by decide +kernel
theorem dX8_about_25 : decode cX8_about 25 = .ok (.iload_n 3, 1) := by decide +kernel
theorem dX8_about_26 : decode cX8_about 26 = .ok (.aload_n 0, 1) := by decide +kernel
theorem dX8_about_27 : decode cX8_about 27 = .ok (.getfield 103, 3) := by decide +kernel
theorem dX8_about_30 : decode cX8_about 30 = .ok (.if_icmp .ge 18, 3) := by decide +kernel
theorem dX8_about_33 : decode cX8_about 33 = .ok (.iload_n 2, 1) := by decide +kernel
theorem dX8_about_34 : decode cX8_about 34 = .ok (.aload_n 0, 1) := by decide +kernel
theorem dX8_about_35 : decode cX8_about 35 = .ok (.getfield 7, 3) := by decide +kernel
theorem dX8_about_38 : decode cX8_about 38 = .ok (.iload_n 3, 1) := by decide +kernel
theorem dX8_about_39 : decode cX8_about 39 = .ok (.iaload, 1) := by decide +kernel
theorem dX8_about_40 : decode cX8_about 40 = .ok (.iadd, 1) := by decide +kernel
theorem dX8_about_41 : decode cX8_about 41 = .ok (.istore_n 2, 1) := by decide +kernel
theorem dX8_about_42 : decode cX8_about 42 = .ok (.iinc 3 1, 3) := by decide +kernel
theorem dX8_about_45 : decode cX8_about 45 = .ok (.goto (-20), 3) := by decide +kernel
theorem dX8_about_48 : decode cX8_about 48 = .ok (.iload_n 1, 1) := by decide +kernel
theorem dX8_about_49 : decode cX8_about 49 = .ok (.tableswitch 132 0 12 #[67, 72, 77, 82, 84, 89, 94, 99, 104, 109, 114, 119, 124], 67) := by decide +kernel
theorem dX8_about_116 : decode cX8_about 116 = .ok (.aload_n 0, 1) := by decide +kernel
theorem dX8_about_117 : decode cX8_about 117 = .ok (.getfield 115, 3) := by decide +kernel
theorem dX8_about_120 : decode cX8_about 120 = .ok (.ireturn, 1) := by decide +kernel
theorem dX8_about_121 : decode cX8_about 121 = .ok (.aload_n 0, 1) := by decide +kernel
theorem dX8_about_122 : decode cX8_about 122 = .ok (.getfield 97, 3) := by decide +kernel
theorem dX8_about_125 : decode cX8_about 125 = .ok (.ireturn, 1) := by decide +kernel
theorem dX8_about_126 : decode cX8_about 126 = .ok (.aload_n 0, 1) := by decide +kernel
theorem dX8_about_127 : decode cX8_about 127 = .ok (.getfield 100, 3) := by decide +kernel
theorem dX8_about_130 : decode cX8_about 130 = .ok (.ireturn, 1) := by decide +kernel
theorem dX8_about_131 : decode cX8_about 131 = .ok (.iload_n 2, 1) := by decide +kernel
theorem dX8_about_132 : decode cX8_about 132 = .ok (.ireturn, 1) := by decide +kernel
theorem dX8_about_133 : decode cX8_about 133 = .ok (.aload_n 0, 1) := by decide +kernel
theorem dX8_about_134 : decode cX8_about 134 = .ok (.getfield 118, 3) := by decide +kernel
theorem dX8_about_137 : decode cX8_about 137 = .ok (.ireturn, 1) := by decide +kernel
theorem dX8_about_138 : decode cX8_about 138 = .ok (.aload_n 0, 1) := by decide +kernel
theorem dX8_about_139 : decode cX8_about 139 = .ok (.getfield 121, 3) := by decide +kernel
theorem dX8_about_142 : decode cX8_about 142 = .ok (.ireturn, 1) := by decide +kernel
theorem dX8_about_143 : decode cX8_about 143 = .ok (.aload_n 0, 1) := by decide +kernel
theorem dX8_about_144 : decode cX8_about 144 = .ok (.getfield 124, 3) := by decide +kernel
theorem dX8_about_147 : decode cX8_about 147 = .ok (.ireturn, 1) := by decide +kernel
theorem dX8_about_148 : decode cX8_about 148 = .ok (.aload_n 0, 1) := by decide +kernel
theorem dX8_about_149 : decode cX8_about 149 = .ok (.getfield 133, 3) := by decide +kernel
theorem dX8_about_152 : decode cX8_about 152 = .ok (.ireturn, 1) := by decide +kernel
theorem dX8_about_153 : decode cX8_about 153 = .ok (.aload_n 0, 1) := by decide +kernel
theorem dX8_about_154 : decode cX8_about 154 = .ok (.invokevirtual 227, 3) := by decide +kernel
theorem dX8_about_157 : decode cX8_about 157 = .ok (.ireturn, 1) := by decide +kernel
theorem dX8_about_158 : decode cX8_about 158 = .ok (.aload_n 0, 1) := by decide +kernel
theorem dX8_about_159 : decode cX8_about 159 = .ok (.getfield 162, 3) := by decide +kernel
theorem dX8_about_162 : decode cX8_about 162 = .ok (.ireturn, 1) := by decide +kernel
theorem dX8_about_163 : decode cX8_about 163 = .ok (.aload_n 0, 1) := by decide +kernel
theorem dX8_about_164 : decode cX8_about 164 = .ok (.getfield 243, 3) := by decide +kernel
theorem dX8_about_167 : decode cX8_about 167 = .ok (.ireturn, 1) := by decide +kernel
theorem dX8_about_168 : decode cX8_about 168 = .ok (.aload_n 0, 1) := by decide +kernel
theorem dX8_about_169 : decode cX8_about 169 = .ok (.getfield 261, 3) := by decide +kernel
theorem dX8_about_172 : decode cX8_about 172 = .ok (.ireturn, 1) := by decide +kernel
theorem dX8_about_173 : decode cX8_about 173 = .ok (.aload_n 0, 1) := by decide +kernel
theorem dX8_about_174 : decode cX8_about 174 = .ok (.getfield 87, 3) := by decide +kernel
theorem dX8_about_177 : decode cX8_about 177 = .ok (.bipush 9, 2) := by decide +kernel
theorem dX8_about_179 : decode cX8_about 179 = .ok (.iaload, 1) := by decide +kernel
theorem dX8_about_180 : decode cX8_about 180 = .ok (.ireturn, 1) := by decide +kernel
theorem dX8_about_181 : decode cX8_about 181 = .ok (.iconst (-1), 1) := by decide +kernel
theorem dX8_about_182 : decode cX8_about 182 = .ok (.ireturn, 1) := by decide +kernel
end
section
theorem dJ13_bitCount_95d88_0 : decode cJ13_bitCount_95d88 0 = .ok (.lload_n 0, 1) := by decide +kernel
theorem dJ13_bitCount_95d88_1 : decode cJ13_bitCount_95d88 1 = .ok (.lload_n 0, 1) := by decide +kernel
theorem dJ13_bitCount_95d88_2 : decode cJ13_bitCount_95d88 2 = .ok (.iconst 1, 1) := by decide +kernel
theorem dJ13_bitCount_95d88_3 : decode cJ13_bitCount_95d88 3 = .ok (.lushr, 1) := by decide +kernel
theorem dJ13_bitCount_95d88_4 : decode cJ13_bitCount_95d88 4 = .ok (.ldc2_w 314, 3) := by decide +kernel
theorem dJ13_bitCount_95d88_7 : decode cJ13_bitCount_95d88 7 = .ok (.land, 1) := by decide +kernel
theorem dJ13_bitCount_95d88_8 : decode cJ13_bitCount_95d88 8 = .ok (.lsub, 1) := by decide +kernel
theorem dJ13_bitCount_95d88_9 : decode cJ13_bitCount_95d88 9 = .ok (.lstore_n 0, 1) := by decide +kernel
theorem dJ13_bitCount_95d88_10 : decode cJ13_bitCount_95d88 10 = .ok (.lload_n 0, 1) := by decide +kernel
theorem dJ13_bitCount_95d88_11 : decode cJ13_bitCount_95d88 11 = .ok (.ldc2_w 316, 3) := by decide +kernel
theorem dJ13_bitCount_95d88_14 : decode cJ13_bitCount_95d88 14 = .ok (.land, 1) := by decide +kernel
theorem dJ13_bitCount_95d88_15 : decode cJ13_bitCount_95d88 15 = .ok (.lload_n 0, 1) := by decide +kernel
theorem dJ13_bitCount_95d88_16 : decode cJ13_bitCount_95d88 16 = .ok (.iconst 2, 1) := by decide +kernel
theorem dJ13_bitCount_95d88_17 : decode cJ13_bitCount_95d88 17 = .ok (.lushr, 1) := by decide +kernel
theorem dJ13_bitCount_95d88_18 : decode cJ13_bitCount_95d88 18 = .ok (.ldc2_w 316, 3) := by decide +kernel
theorem dJ13_bitCount_95d88_21 : decode cJ13_bitCount_95d88 21 = .ok (.land, 1) := by decide +kernel
theorem dJ13_bitCount_95d88_22 : decode cJ13_bitCount_95d88 22 = .ok (.ladd, 1) := by decide +kernel
theorem dJ13_bitCount_95d88_23 : decode cJ13_bitCount_95d88 23 = .ok (.lstore_n 0, 1) := by decide +kernel
theorem dJ13_bitCount_95d88_24 : decode cJ13_bitCount_95d88 24 = .ok (.lload_n 0, 1) := by decide +kernel
theorem dJ13_bitCount_95d88_25 : decode cJ13_bitCount_95d88 25 = .ok (.lload_n 0, 1) := by decide +kernel
theorem dJ13_bitCount_95d88_26 : decode cJ13_bitCount_95d88 26 = .ok (.iconst 4, 1) := by decide +kernel
theorem dJ13_bitCount_95d88_27 : decode cJ13_bitCount_95d88 27 = .ok (.lushr, 1) := by decide +kernel
theorem dJ13_bitCount_95d88_28 : decode cJ13_bitCount_95d88 28 = .ok (.ladd, 1) := by decide +kernel
theorem dJ13_bitCount_95d88_29 : decode cJ13_bitCount_95d88 29 = .ok (.ldc2_w 318, 3) := by decide +kernel
theorem dJ13_bitCount_95d88_32 : decode cJ13_bitCount_95d88 32 = .ok (.land, 1) := by decide +kernel
theorem dJ13_bitCount_95d88_33 : decode cJ13_bitCount_95d88 33 = .ok (.lstore_n 0, 1) := by decide +kernel
theorem dJ13_bitCount_95d88_34 : decode cJ13_bitCount_95d88 34 = .ok (.lload_n 0, 1) := by decide +kernel
theorem dJ13_bitCount_95d88_35 : decode cJ13_bitCount_95d88 35 = .ok (.lload_n 0, 1) := by decide +kernel
theorem dJ13_bitCount_95d88_36 : decode cJ13_bitCount_95d88 36 = .ok (.bipush 8, 2) := by decide +kernel
theorem dJ13_bitCount_95d88_38 : decode cJ13_bitCount_95d88 38 = .ok (.lushr, 1) := by decide +kernel
theorem dJ13_bitCount_95d88_39 : decode cJ13_bitCount_95d88 39 = .ok (.ladd, 1) := by decide +kernel
theorem dJ13_bitCount_95d88_40 : decode cJ13_bitCount_95d88 40 = .ok (.lstore_n 0, 1) := by decide +kernel
theorem dJ13_bitCount_95d88_41 : decode cJ13_bitCount_95d88 41 = .ok (.lload_n 0, 1) := by decide +kernel
theorem dJ13_bitCount_95d88_42 : decode cJ13_bitCount_95d88 42 = .ok (.lload_n 0, 1) := by decide +kernel
theorem dJ13_bitCount_95d88_43 : decode cJ13_bitCount_95d88 43 = .ok (.bipush 16, 2) := by decide +kernel
theorem dJ13_bitCount_95d88_45 : decode cJ13_bitCount_95d88 45 = .ok (.lushr, 1) := by decide +kernel
theorem dJ13_bitCount_95d88_46 : decode cJ13_bitCount_95d88 46 = .ok (.ladd, 1) := by decide +kernel
theorem dJ13_bitCount_95d88_47 : decode cJ13_bitCount_95d88 47 = .ok (.lstore_n 0, 1) := by decide +kernel
theorem dJ13_bitCount_95d88_48 : decode cJ13_bitCount_95d88 48 = .ok (.lload_n 0, 1) := by decide +kernel
theorem dJ13_bitCount_95d88_49 : decode cJ13_bitCount_95d88 49 = .ok (.lload_n 0, 1) := by decide +kernel
theorem dJ13_bitCount_95d88_50 : decode cJ13_bitCount_95d88 50 = .ok (.bipush 32, 2) := by decide +kernel
theorem dJ13_bitCount_95d88_52 : decode cJ13_bitCount_95d88 52 = .ok (.lushr, 1) := by decide +kernel
theorem dJ13_bitCount_95d88_53 : decode cJ13_bitCount_95d88 53 = .ok (.ladd, 1) := by decide +kernel
theorem dJ13_bitCount_95d88_54 : decode cJ13_bitCount_95d88 54 = .ok (.lstore_n 0, 1) := by decide +kernel
theorem dJ13_bitCount_95d88_55 : decode cJ13_bitCount_95d88 55 = .ok (.lload_n 0, 1) := by decide +kernel
theorem dJ13_bitCount_95d88_56 : decode cJ13_bitCount_95d88 56 = .ok (.l2i, 1) := by decide +kernel
theorem dJ13_bitCount_95d88_57 : decode cJ13_bitCount_95d88 57 = .ok (.bipush 127, 2) := by decide +kernel
theorem dJ13_bitCount_95d88_59 : decode cJ13_bitCount_95d88 59 = .ok (.iand, 1) := by decide +kernel
theorem dJ13_bitCount_95d88_60 : decode cJ13_bitCount_95d88 60 = .ok (.ireturn, 1) := by decide +kernel
theorem dJ9_abs_0f7a4_0 : decode cJ9_abs_0f7a4 0 = .ok (.iload_n 0, 1) := by decide +kernel
theorem dJ9_abs_0f7a4_1 : decode cJ9_abs_0f7a4 1 = .ok (.ifCond .ge 8, 3) := by decide +kernel
theorem dJ9_abs_0f7a4_4 : decode cJ9_abs_0f7a4 4 = .ok (.iload_n 0, 1) := by decide +kernel
theorem dJ9_abs_0f7a4_5 : decode cJ9_abs_0f7a4 5 = .ok (.ineg, 1) := by decide +kernel
theorem dJ9_abs_0f7a4_6 : decode cJ9_abs_0f7a4 6 = .ok (.goto 4, 3) := by decide +kernel
theorem dJ9_abs_0f7a4_9 : decode cJ9_abs_0f7a4 9 = .ok (.iload_n 0, 1) := by decide +kernel
theorem dJ9_abs_0f7a4_10 : decode cJ9_abs_0f7a4 10 = .ok (.ireturn, 1) := by decide +kernel
theorem dJ9_max_7cf53_0 : decode cJ9_max_7cf53 0 = .ok (.iload_n 0, 1) := by decide +kernel
theorem dJ9_max_7cf53_1 : decode cJ9_max_7cf53 1 = .ok (.iload_n 1, 1) := by decide +kernel
theorem dJ9_max_7cf53_2 : decode cJ9_max_7cf53 2 = .ok (.if_icmp .lt 7, 3) := by decide +kernel
theorem dJ9_max_7cf53_5 : decode cJ9_max_7cf53 5 = .ok (.iload_n 0, 1) := by decide +kernel
theorem dJ9_max_7cf53_6 : decode cJ9_max_7cf53 6 = .ok (.goto 4, 3) := by decide +kernel
theorem dJ9_max_7cf53_9 : decode cJ9_max_7cf53 9 = .ok (.iload_n 1, 1) := by decide +kernel
theorem dJ9_max_7cf53_10 : decode cJ9_max_7cf53 10 = .ok (.ireturn, 1) := by decide +kernel
theorem dJ9_min_7cf53_0 : decode cJ9_min_7cf53 0 = .ok (.iload_n 0, 1) := by decide +kernel
theorem dJ9_min_7cf53_1 : decode cJ9_min_7cf53 1 = .ok (.iload_n 1, 1) := by decide +kernel
theorem dJ9_min_7cf53_2 : decode cJ9_min_7cf53 2 = .ok (.if_icmp .gt 7, 3) := by decide +kernel
theorem dJ9_min_7cf53_5 : decode cJ9_min_7cf53 5 = .ok (.iload_n 0, 1) := by decide +kernel
theorem dJ9_min_7cf53_6 : decode cJ9_min_7cf53 6 = .ok (.goto 4, 3) := by decide +kernel
theorem dJ9_min_7cf53_9 : decode cJ9_min_7cf53 9 = .ok (.iload_n 1, 1) := by decide +kernel
theorem dJ9_min_7cf53_10 : decode cJ9_min_7cf53 10 = .ok (.ireturn, 1) := by decide +kernel
theorem dJ0_length_8abf5_0 : decode cJ0_length_8abf5 0 = .ok (.aload_n 0, 1) := by decide +kernel
theorem dJ0_length_8abf5_1 : decode cJ0_length_8abf5 1 = .ok (.getfield 9, 3) := by decide +kernel
theorem dJ0_length_8abf5_4 : decode cJ0_length_8abf5 4 = .ok (.arraylength, 1) := by decide +kernel
theorem dJ0_length_8abf5_5 : decode cJ0_length_8abf5 5 = .ok (.aload_n 0, 1) := by decide +kernel
theorem dJ0_length_8abf5_6 : decode cJ0_length_8abf5 6 = .ok (.invokevirtual 335, 3) := by decide +kernel
theorem dJ0_length_8abf5_9 : decode cJ0_length_8abf5 9 = .ok (.ishr, 1) := by decide +kernel
theorem dJ0_length_8abf5_10 : decode cJ0_length_8abf5 10 = .ok (.ireturn, 1) := by decide +kernel
theorem dJ0_charAt_5068e_0 : decode cJ0_charAt_5068e 0 = .ok (.aload_n 0, 1) := by decide +kernel
theorem dJ0_charAt_5068e_1 : decode cJ0_charAt_5068e 1 = .ok (.invokevirtual 492, 3) := by decide +kernel
theorem dJ0_charAt_5068e_4 : decode cJ0_charAt_5068e 4 = .ok (.ifCond .eq 12, 3) := by decide +kernel
theorem dJ0_charAt_5068e_7 : decode cJ0_charAt_5068e 7 = .ok (.aload_n 0, 1) := by decide +kernel
theorem dJ0_charAt_5068e_8 : decode cJ0_charAt_5068e 8 = .ok (.getfield 9, 3) := by decide +kernel
theorem dJ0_charAt_5068e_11 : decode cJ0_charAt_5068e 11 = .ok (.iload_n 1, 1) := by decide +kernel
theorem dJ0_charAt_5068e_12 : decode cJ0_charAt_5068e 12 = .ok (.invokestatic 495, 3) := by decide +kernel
theorem dJ0_charAt_5068e_15 : decode cJ0_charAt_5068e 15 = .ok (.ireturn, 1) := by decide +kernel
theorem dJ0_charAt_5068e_16 : decode cJ0_charAt_5068e 16 = .ok (.aload_n 0, 1) := by decide +kernel
theorem dJ0_charAt_5068e_17 : decode cJ0_charAt_5068e 17 = .ok (.getfield 9, 3) := by decide +kernel
theorem dJ0_charAt_5068e_20 : decode cJ0_charAt_5068e 20 = .ok (.iload_n 1, 1) := by decide +kernel
theorem dJ0_charAt_5068e_21 : decode cJ0_charAt_5068e 21 = .ok (.invokestatic 498, 3) := by decide +kernel
theorem dJ0_charAt_5068e_24 : decode cJ0_charAt_5068e 24 = .ok (.ireturn, 1) := by decide +kernel
theorem dJ0_coder_7d493_0 : decode cJ0_coder_7d493 0 = .ok (.getstatic 38, 3) := by decide +kernel
theorem dJ0_coder_7d493_3 : decode cJ0_coder_7d493 3 = .ok (.ifCond .eq 10, 3) := by decide +kernel
theorem dJ0_coder_7d493_6 : decode cJ0_coder_7d493 6 = .ok (.aload_n 0, 1) := by decide +kernel
theorem dJ0_coder_7d493_7 : decode cJ0_coder_7d493 7 = .ok (.getfield 15, 3) := by decide +kernel
theorem dJ0_coder_7d493_10 : decode cJ0_coder_7d493 10 = .ok (.goto 4, 3) := by decide +kernel
theorem dJ0_coder_7d493_13 : decode cJ0_coder_7d493 13 = .ok (.iconst 1, 1) := by decide +kernel
theorem dJ0_coder_7d493_14 : decode cJ0_coder_7d493 14 = .ok (.ireturn, 1) := by decide +kernel
theorem dJ0_isLatin1_aae02_0 : decode cJ0_isLatin1_aae02 0 = .ok (.getstatic 38, 3) := by decide +kernel
theorem dJ0_isLatin1_aae02_3 : decode cJ0_isLatin1_aae02 3 = .ok (.ifCond .eq 14, 3) := by decide +kernel
theorem dJ0_isLatin1_aae02_6 : decode cJ0_isLatin1_aae02 6 = .ok (.aload_n 0, 1) := by decide +kernel
theorem dJ0_isLatin1_aae02_7 : decode cJ0_isLatin1_aae02 7 = .ok (.getfield 15, 3) := by decide +kernel
theorem dJ0_isLatin1_aae02_10 : decode cJ0_isLatin1_aae02 10 = .ok (.ifCond .ne 7, 3) := by decide +kernel
theorem dJ0_isLatin1_aae02_13 : decode cJ0_isLatin1_aae02 13 = .ok (.iconst 1, 1) := by decide +kernel
theorem dJ0_isLatin1_aae02_14 : decode cJ0_isLatin1_aae02 14 = .ok (.goto 4, 3) := by decide +kernel
theorem dJ0_isLatin1_aae02_17 : decode cJ0_isLatin1_aae02 17 = .ok (.iconst 0, 1) := by decide +kernel
theorem dJ0_isLatin1_aae02_18 : decode cJ0_isLatin1_aae02 18 = .ok (.ireturn, 1) := by decide +kernel
theorem dJ0_checkIndex_df160_0 : decode cJ0_checkIndex_df160 0 = .ok (.iload_n 0, 1) := by decide +kernel
theorem dJ0_checkIndex_df160_1 : decode cJ0_checkIndex_df160 1 = .ok (.iload_n 1, 1) := by decide +kernel
theorem dJ0_checkIndex_df160_2 : decode cJ0_checkIndex_df160 2 = .ok (.getstatic 1053, 3) := by decide +kernel
theorem dJ0_checkIndex_df160_5 : decode cJ0_checkIndex_df160 5 = .ok (.invokestatic 1059, 3) := by decide +kernel
theorem dJ0_checkIndex_df160_8 : decode cJ0_checkIndex_df160 8 = .ok (.pop, 1) := by decide +kernel
theorem dJ0_checkIndex_df160_9 : decode cJ0_checkIndex_df160 9 = .ok (.return_, 1) := by decide +kernel
theorem dJ1_charAt_3b067_0 : decode cJ1_charAt_3b067 0 = .ok (.iload_n 1, 1) := by decide +kernel
theorem dJ1_charAt_3b067_1 : decode cJ1_charAt_3b067 1 = .ok (.aload_n 0, 1) := by decide +kernel
theorem dJ1_charAt_3b067_2 : decode cJ1_charAt_3b067 2 = .ok (.arraylength, 1) := by decide +kernel
theorem dJ1_charAt_3b067_3 : decode cJ1_charAt_3b067 3 = .ok (.invokestatic 9, 3) := by decide +kernel
theorem dJ1_charAt_3b067_6 : decode cJ1_charAt_3b067 6 = .ok (.aload_n 0, 1) := by decide +kernel
theorem dJ1_charAt_3b067_7 : decode cJ1_charAt_3b067 7 = .ok (.iload_n 1, 1) := by decide +kernel
theorem dJ1_charAt_3b067_8 : decode cJ1_charAt_3b067 8 = .ok (.baload, 1) := by decide +kernel
theorem dJ1_charAt_3b067_9 : decode cJ1_charAt_3b067 9 = .ok (.sipush 255, 3) := by decide +kernel
theorem dJ1_charAt_3b067_12 : decode cJ1_charAt_3b067 12 = .ok (.iand, 1) := by decide +kernel
theorem dJ1_charAt_3b067_13 : decode cJ1_charAt_3b067 13 = .ok (.i2c, 1) := by decide +kernel
theorem dJ1_charAt_3b067_14 : decode cJ1_charAt_3b067 14 = .ok (.ireturn, 1) := by decide +kernel
theorem dJ2_getChar_3b067_0 : decode cJ2_getChar_3b067 0 = .ok (.getstatic 44, 3) := by decide +kernel
theorem dJ2_getChar_3b067_3 : decode cJ2_getChar_3b067 3 = .ok (.ifCond .ne 25, 3) := by decide +kernel
theorem dJ2_getChar_3b067_6 : decode cJ2_getChar_3b067 6 = .ok (.iload_n 1, 1) := by decide +kernel
theorem dJ2_getChar_3b067_7 : decode cJ2_getChar_3b067 7 = .ok (.ifCond .lt 11, 3) := by decide +kernel
theorem dJ2_getChar_3b067_10 : decode cJ2_getChar_3b067 10 = .ok (.iload_n 1, 1) := by decide +kernel
theorem dJ2_getChar_3b067_11 : decode cJ2_getChar_3b067 11 = .ok (.aload_n 0, 1) := by decide +kernel
theorem dJ2_getChar_3b067_12 : decode cJ2_getChar_3b067 12 = .ok (.invokestatic 48, 3) := by decide +kernel
theorem dJ2_getChar_3b067_15 : decode cJ2_getChar_3b067 15 = .ok (.if_icmp .lt 13, 3) := by decide +kernel
theorem dJ2_getChar_3b067_18 : decode cJ2_getChar_3b067 18 = .ok (.new 52, 3) := by decide +kernel
theorem dJ2_getChar_3b067_21 : decode cJ2_getChar_3b067 21 = .ok (.dup, 1) := by decide +kernel
theorem dJ2_getChar_3b067_22 : decode cJ2_getChar_3b067 22 = .ok (.ldc 54, 2) := by decide +kernel
theorem dJ2_getChar_3b067_24 : decode cJ2_getChar_3b067 24 = .ok (.invokespecial 56, 3) := by decide +kernel
theorem dJ2_getChar_3b067_27 : decode cJ2_getChar_3b067 27 = .ok (.athrow, 1) := by decide +kernel
theorem dJ2_getChar_3b067_28 : decode cJ2_getChar_3b067 28 = .ok (.iload_n 1, 1) := by decide +kernel
theorem dJ2_getChar_3b067_29 : decode cJ2_getChar_3b067 29 = .ok (.iconst 1, 1) := by decide +kernel
theorem dJ2_getChar_3b067_30 : decode cJ2_getChar_3b067 30 = .ok (.ishl, 1) := by decide +kernel
theorem dJ2_getChar_3b067_31 : decode cJ2_getChar_3b067 31 = .ok (.istore_n 1, 1) := by decide +kernel
theorem dJ2_getChar_3b067_32 : decode cJ2_getChar_3b067 32 = .ok (.aload_n 0, 1) := by decide +kernel
theorem dJ2_getChar_3b067_33 : decode cJ2_getChar_3b067 33 = .ok (.iload_n 1, 1) := by decide +kernel
theorem dJ2_getChar_3b067_34 : decode cJ2_getChar_3b067 34 = .ok (.iinc 1 1, 3) := by decide +kernel
theorem dJ2_getChar_3b067_37 : decode cJ2_getChar_3b067 37 = .ok (.baload, 1) := by decide +kernel
theorem dJ2_getChar_3b067_38 : decode cJ2_getChar_3b067 38 = .ok (.sipush 255, 3) := by decide +kernel
theorem dJ2_getChar_3b067_41 : decode cJ2_getChar_3b067 41 = .ok (.iand, 1) := by decide +kernel
theorem dJ2_getChar_3b067_42 : decode cJ2_getChar_3b067 42 = .ok (.getstatic 59, 3) := by decide +kernel
theorem dJ2_getChar_3b067_45 : decode cJ2_getChar_3b067 45 = .ok (.ishl, 1) := by decide +kernel
theorem dJ2_getChar_3b067_46 : decode cJ2_getChar_3b067 46 = .ok (.aload_n 0, 1) := by decide +kernel
theorem dJ2_getChar_3b067_47 : decode cJ2_getChar_3b067 47 = .ok (.iload_n 1, 1) := by decide +kernel
theorem dJ2_getChar_3b067_48 : decode cJ2_getChar_3b067 48 = .ok (.baload, 1) := by decide +kernel
theorem dJ2_getChar_3b067_49 : decode cJ2_getChar_3b067 49 = .ok (.sipush 255, 3) := by decide +kernel
theorem dJ2_getChar_3b067_52 : decode cJ2_getChar_3b067 52 = .ok (.iand, 1) := by decide +kernel
theorem dJ2_getChar_3b067_53 : decode cJ2_getChar_3b067 53 = .ok (.getstatic 63, 3) := by decide +kernel
theorem dJ2_getChar_3b067_56 : decode cJ2_getChar_3b067 56 = .ok (.ishl, 1) := by decide +kernel
theorem dJ2_getChar_3b067_57 : decode cJ2_getChar_3b067 57 = .ok (.ior, 1) := by decide +kernel
theorem dJ2_getChar_3b067_58 : decode cJ2_getChar_3b067 58 = .ok (.i2c, 1) := by decide +kernel
theorem dJ2_getChar_3b067_59 : decode cJ2_getChar_3b067 59 = .ok (.ireturn, 1) := by decide +kernel
theorem dJ2_length_9d52b_0 : decode cJ2_length_9d52b 0 = .ok (.aload_n 0, 1) := by decide +kernel
theorem dJ2_length_9d52b_1 : decode cJ2_length_9d52b 1 = .ok (.arraylength, 1) := by decide +kernel
theorem dJ2_length_9d52b_2 : decode cJ2_length_9d52b 2 = .ok (.iconst 1, 1) := by decide +kernel
theorem dJ2_length_9d52b_3 : decode cJ2_length_9d52b 3 = .ok (.ishr, 1) := by decide +kernel
theorem dJ2_length_9d52b_4 : decode cJ2_length_9d52b 4 = .ok (.ireturn, 1) := by decide +kernel
theorem dJ2_charAt_3b067_0 : decode cJ2_charAt_3b067 0 = .ok (.iload_n 1, 1) := by decide +kernel
theorem dJ2_charAt_3b067_1 : decode cJ2_charAt_3b067 1 = .ok (.aload_n 0, 1) := by decide +kernel
theorem dJ2_charAt_3b067_2 : decode cJ2_charAt_3b067 2 = .ok (.invokestatic 67, 3) := by decide +kernel
theorem dJ2_charAt_3b067_5 : decode cJ2_charAt_3b067 5 = .ok (.aload_n 0, 1) := by decide +kernel
theorem dJ2_charAt_3b067_6 : decode cJ2_charAt_3b067 6 = .ok (.iload_n 1, 1) := by decide +kernel
theorem dJ2_charAt_3b067_7 : decode cJ2_charAt_3b067 7 = .ok (.invokestatic 71, 3) := by decide +kernel
theorem dJ2_charAt_3b067_10 : decode cJ2_charAt_3b067 10 = .ok (.ireturn, 1) := by decide +kernel
theorem dJ2_checkIndex_2214a_0 : decode cJ2_checkIndex_2214a 0 = .ok (.iload_n 0, 1) := by decide +kernel
theorem dJ2_checkIndex_2214a_1 : decode cJ2_checkIndex_2214a 1 = .ok (.aload_n 1, 1) := by decide +kernel
theorem dJ2_checkIndex_2214a_2 : decode cJ2_checkIndex_2214a 2 = .ok (.invokestatic 48, 3) := by decide +kernel
theorem dJ2_checkIndex_2214a_5 : decode cJ2_checkIndex_2214a 5 = .ok (.invokestatic 414, 3) := by decide +kernel
theorem dJ2_checkIndex_2214a_8 : decode cJ2_checkIndex_2214a 8 = .ok (.return_, 1) := by decide +kernel
theorem dJ3_checkIndex_8e157_0 : decode cJ3_checkIndex_8e157 0 = .ok (.iload_n 0, 1) := by decide +kernel
theorem dJ3_checkIndex_8e157_1 : decode cJ3_checkIndex_8e157 1 = .ok (.ifCond .lt 8, 3) := by decide +kernel
theorem dJ3_checkIndex_8e157_4 : decode cJ3_checkIndex_8e157 4 = .ok (.iload_n 0, 1) := by decide +kernel
theorem dJ3_checkIndex_8e157_5 : decode cJ3_checkIndex_8e157 5 = .ok (.iload_n 1, 1) := by decide +kernel
theorem dJ3_checkIndex_8e157_6 : decode cJ3_checkIndex_8e157 6 = .ok (.if_icmp .lt 10, 3) := by decide +kernel
theorem dJ3_checkIndex_8e157_9 : decode cJ3_checkIndex_8e157 9 = .ok (.aload_n 2, 1) := by decide +kernel
theorem dJ3_checkIndex_8e157_10 : decode cJ3_checkIndex_8e157 10 = .ok (.iload_n 0, 1) := by decide +kernel
theorem dJ3_checkIndex_8e157_11 : decode cJ3_checkIndex_8e157 11 = .ok (.iload_n 1, 1) := by decide +kernel
theorem dJ3_checkIndex_8e157_12 : decode cJ3_checkIndex_8e157 12 = .ok (.invokestatic 95, 3) := by decide +kernel
theorem dJ3_checkIndex_8e157_15 : decode cJ3_checkIndex_8e157 15 = .ok (.athrow, 1) := by decide +kernel
theorem dJ3_checkIndex_8e157_16 : decode cJ3_checkIndex_8e157 16 = .ok (.iload_n 0, 1) := by decide +kernel
theorem dJ3_checkIndex_8e157_17 : decode cJ3_checkIndex_8e157 17 = .ok (.ireturn, 1) := by decide +kernel
end
section
theorem dL_cell_0 : decode cL_cell 0 = .ok (.iload_n 1, 1) := by decide +kernel
theorem dL_cell_1 : decode cL_cell 1 = .ok (.aload_n 0, 1) := by decide +kernel
theorem dL_cell_2 : decode cL_cell 2 = .ok (.arraylength, 1) := by decide +kernel
theorem dL_cell_3 : decode cL_cell 3 = .ok (.if_icmp .ge 9, 3) := by decide +kernel
theorem dL_cell_6 : decode cL_cell 6 = .ok (.aload_n 0, 1) := by decide +kernel
theorem dL_cell_7 : decode cL_cell 7 = .ok (.iload_n 1, 1) := by decide +kernel
theorem dL_cell_8 : decode cL_cell 8 = .ok (.iaload, 1) := by decide +kernel
theorem dL_cell_9 : decode cL_cell 9 = .ok (.goto 4, 3) := by decide +kernel
theorem dL_cell_12 : decode cL_cell 12 = .ok (.iconst 0, 1) := by decide +kernel
theorem dL_cell_13 : decode cL_cell 13 = .ok (.ireturn, 1) := by decide +kernel
theorem dL_law_0 : decode cL_law 0 = .ok (.new 7, 3) := by decide +kernel
theorem dL_law_3 : decode cL_law 3 = .ok (.dup, 1) := by decide +kernel
theorem dL_law_4 : decode cL_law 4 = .ok (.aload_n 0, 1) := by decide +kernel
theorem dL_law_5 : decode cL_law 5 = .ok (.iconst 0, 1) := by decide +kernel
theorem dL_law_6 : decode cL_law 6 = .ok (.invokestatic 9, 3) := by decide +kernel
theorem dL_law_9 : decode cL_law 9 = .ok (.aload_n 0, 1) := by decide +kernel
theorem dL_law_10 : decode cL_law 10 = .ok (.iconst 1, 1) := by decide +kernel
theorem dL_law_11 : decode cL_law 11 = .ok (.invokestatic 9, 3) := by decide +kernel
theorem dL_law_14 : decode cL_law 14 = .ok (.invokespecial 15, 3) := by decide +kernel
theorem dL_law_17 : decode cL_law 17 = .ok (.astore_n 1, 1) := by decide +kernel
theorem dL_law_18 : decode cL_law 18 = .ok (.new 18, 3) := by decide +kernel
theorem dL_law_21 : decode cL_law 21 = .ok (.dup, 1) := by decide +kernel
theorem dL_law_22 : decode cL_law 22 = .ok (.aload_n 0, 1) := by decide +kernel
theorem dL_law_23 : decode cL_law 23 = .ok (.iconst 0, 1) := by decide +kernel
theorem dL_law_24 : decode cL_law 24 = .ok (.invokestatic 9, 3) := by decide +kernel
theorem dL_law_27 : decode cL_law 27 = .ok (.aload_n 0, 1) := by decide +kernel
theorem dL_law_28 : decode cL_law 28 = .ok (.iconst 1, 1) := by decide +kernel
theorem dL_law_29 : decode cL_law 29 = .ok (.invokestatic 9, 3) := by decide +kernel
theorem dL_law_32 : decode cL_law 32 = .ok (.invokespecial 20, 3) := by decide +kernel
theorem dL_law_35 : decode cL_law 35 = .ok (.astore_n 2, 1) := by decide +kernel
theorem dL_law_36 : decode cL_law 36 = .ok (.iconst 2, 1) := by decide +kernel
theorem dL_law_37 : decode cL_law 37 = .ok (.istore_n 3, 1) := by decide +kernel
theorem dL_law_38 : decode cL_law 38 = .ok (.iload_n 3, 1) := by decide +kernel
theorem dL_law_39 : decode cL_law 39 = .ok (.aload_n 0, 1) := by decide +kernel
theorem dL_law_40 : decode cL_law 40 = .ok (.arraylength, 1) := by decide +kernel
theorem dL_law_41 : decode cL_law 41 = .ok (.bipush 6, 2) := by decide +kernel
theorem dL_law_43 : decode cL_law 43 = .ok (.isub, 1) := by decide +kernel
theorem dL_law_44 : decode cL_law 44 = .ok (.if_icmp .gt 699, 3) := by decide +kernel
theorem dL_law_47 : decode cL_law 47 = .ok (.aload_n 0, 1) := by decide +kernel
theorem dL_law_48 : decode cL_law 48 = .ok (.iload_n 3, 1) := by decide +kernel
theorem dL_law_49 : decode cL_law 49 = .ok (.iaload, 1) := by decide +kernel
theorem dL_law_50 : decode cL_law 50 = .ok (.bipush 31, 2) := by decide +kernel
theorem dL_law_52 : decode cL_law 52 = .ok (.iand, 1) := by decide +kernel
theorem dL_law_53 : decode cL_law 53 = .ok (.tableswitch 684 0 18 #[91, 124, 167, 230, 251, 314, 337, 350, 373, 396, 419, 452, 505, 518, 551, 584, 595, 638, 661], 91) := by decide +kernel
theorem dL_law_144 : decode cL_law 144 = .ok (.aload_n 1, 1) := by decide +kernel
theorem dL_law_145 : decode cL_law 145 = .ok (.aload_n 0, 1) := by decide +kernel
theorem dL_law_146 : decode cL_law 146 = .ok (.iload_n 3, 1) := by decide +kernel
theorem dL_law_147 : decode cL_law 147 = .ok (.iconst 1, 1) := by decide +kernel
theorem dL_law_148 : decode cL_law 148 = .ok (.iadd, 1) := by decide +kernel
theorem dL_law_149 : decode cL_law 149 = .ok (.iaload, 1) := by decide +kernel
theorem dL_law_150 : decode cL_law 150 = .ok (.aload_n 0, 1) := by decide +kernel
theorem dL_law_151 : decode cL_law 151 = .ok (.iload_n 3, 1) := by decide +kernel
theorem dL_law_152 : decode cL_law 152 = .ok (.iconst 2, 1) := by decide +kernel
theorem dL_law_153 : decode cL_law 153 = .ok (.iadd, 1) := by decide +kernel
theorem dL_law_154 : decode cL_law 154 = .ok (.iaload, 1) := by decide +kernel
theorem dL_law_155 : decode cL_law 155 = .ok (.invokevirtual 21, 3) := by decide +kernel
theorem dL_law_158 : decode cL_law 158 = .ok (.aload_n 2, 1) := by decide +kernel
theorem dL_law_159 : decode cL_law 159 = .ok (.aload_n 0, 1) := by decide +kernel
theorem dL_law_160 : decode cL_law 160 = .ok (.iload_n 3, 1) := by decide +kernel
theorem dL_law_161 : decode cL_law 161 = .ok (.iconst 1, 1) := by decide +kernel
theorem dL_law_162 : decode cL_law 162 = .ok (.iadd, 1) := by decide +kernel
theorem dL_law_163 : decode cL_law 163 = .ok (.iaload, 1) := by decide +kernel
theorem dL_law_164 : decode cL_law 164 = .ok (.aload_n 0, 1) := by decide +kernel
theorem dL_law_165 : decode cL_law 165 = .ok (.iload_n 3, 1) := by decide +kernel
theorem dL_law_166 : decode cL_law 166 = .ok (.iconst 2, 1) := by decide +kernel
theorem dL_law_167 : decode cL_law 167 = .ok (.iadd, 1) := by decide +kernel
theorem dL_law_168 : decode cL_law 168 = .ok (.iaload, 1) := by decide +kernel
theorem dL_law_169 : decode cL_law 169 = .ok (.invokevirtual 25, 3) := by decide +kernel
theorem dL_law_172 : decode cL_law 172 = .ok (.if_icmp .eq 565, 3) := by decide +kernel
theorem dL_law_175 : decode cL_law 175 = .ok (.iconst 0, 1) := by decide +kernel
theorem dL_law_176 : decode cL_law 176 = .ok (.ireturn, 1) := by decide +kernel
theorem dL_law_177 : decode cL_law 177 = .ok (.aload_n 1, 1) := by decide +kernel
theorem dL_law_178 : decode cL_law 178 = .ok (.aload_n 0, 1) := by decide +kernel
theorem dL_law_179 : decode cL_law 179 = .ok (.iload_n 3, 1) := by decide +kernel
theorem dL_law_180 : decode cL_law 180 = .ok (.iconst 1, 1) := by decide +kernel
theorem dL_law_181 : decode cL_law 181 = .ok (.iadd, 1) := by decide +kernel
theorem dL_law_182 : decode cL_law 182 = .ok (.iaload, 1) := by decide +kernel
theorem dL_law_183 : decode cL_law 183 = .ok (.aload_n 0, 1) := by decide +kernel
theorem dL_law_184 : decode cL_law 184 = .ok (.iload_n 3, 1) := by decide +kernel
theorem dL_law_185 : decode cL_law 185 = .ok (.iconst 2, 1) := by decide +kernel
theorem dL_law_186 : decode cL_law 186 = .ok (.iadd, 1) := by decide +kernel
theorem dL_law_187 : decode cL_law 187 = .ok (.iaload, 1) := by decide +kernel
theorem dL_law_188 : decode cL_law 188 = .ok (.aload_n 0, 1) := by decide +kernel
theorem dL_law_189 : decode cL_law 189 = .ok (.iload_n 3, 1) := by decide +kernel
theorem dL_law_190 : decode cL_law 190 = .ok (.iconst 3, 1) := by decide +kernel
theorem dL_law_191 : decode cL_law 191 = .ok (.iadd, 1) := by decide +kernel
theorem dL_law_192 : decode cL_law 192 = .ok (.iaload, 1) := by decide +kernel
theorem dL_law_193 : decode cL_law 193 = .ok (.invokevirtual 26, 3) := by decide +kernel
theorem dL_law_196 : decode cL_law 196 = .ok (.aload_n 2, 1) := by decide +kernel
theorem dL_law_197 : decode cL_law 197 = .ok (.aload_n 0, 1) := by decide +kernel
theorem dL_law_198 : decode cL_law 198 = .ok (.iload_n 3, 1) := by decide +kernel
theorem dL_law_199 : decode cL_law 199 = .ok (.iconst 1, 1) := by decide +kernel
theorem dL_law_200 : decode cL_law 200 = .ok (.iadd, 1) := by decide +kernel
theorem dL_law_201 : decode cL_law 201 = .ok (.iaload, 1) := by decide +kernel
theorem dL_law_202 : decode cL_law 202 = .ok (.aload_n 0, 1) := by decide +kernel
theorem dL_law_203 : decode cL_law 203 = .ok (.iload_n 3, 1) := by decide +kernel
theorem dL_law_204 : decode cL_law 204 = .ok (.iconst 2, 1) := by decide +kernel
theorem dL_law_205 : decode cL_law 205 = .ok (.iadd, 1) := by decide +kernel
theorem dL_law_206 : decode cL_law 206 = .ok (.iaload, 1) := by decide +kernel
theorem dL_law_207 : decode cL_law 207 = .ok (.aload_n 0, 1) := by decide +kernel
theorem dL_law_208 : decode cL_law 208 = .ok (.iload_n 3, 1) := by decide +kernel
theorem dL_law_209 : decode cL_law 209 = .ok (.iconst 3, 1) := by decide +kernel
theorem dL_law_210 : decode cL_law 210 = .ok (.iadd, 1) := by decide +kernel
theorem dL_law_211 : decode cL_law 211 = .ok (.iaload, 1) := by decide +kernel
theorem dL_law_212 : decode cL_law 212 = .ok (.invokevirtual 30, 3) := by decide +kernel
theorem dL_law_215 : decode cL_law 215 = .ok (.if_icmp .eq 522, 3) := by decide +kernel
theorem dL_law_218 : decode cL_law 218 = .ok (.iconst 0, 1) := by decide +kernel
theorem dL_law_219 : decode cL_law 219 = .ok (.ireturn, 1) := by decide +kernel
theorem dL_law_220 : decode cL_law 220 = .ok (.aload_n 1, 1) := by decide +kernel
theorem dL_law_221 : decode cL_law 221 = .ok (.aload_n 0, 1) := by decide +kernel
theorem dL_law_222 : decode cL_law 222 = .ok (.iload_n 3, 1) := by decide +kernel
theorem dL_law_223 : decode cL_law 223 = .ok (.iconst 1, 1) := by decide +kernel
theorem dL_law_224 : decode cL_law 224 = .ok (.iadd, 1) := by decide +kernel
theorem dL_law_225 : decode cL_law 225 = .ok (.iaload, 1) := by decide +kernel
theorem dL_law_226 : decode cL_law 226 = .ok (.aload_n 0, 1) := by decide +kernel
theorem dL_law_227 : decode cL_law 227 = .ok (.iload_n 3, 1) := by decide +kernel
theorem dL_law_228 : decode cL_law 228 = .ok (.iconst 2, 1) := by decide +kernel
theorem dL_law_229 : decode cL_law 229 = .ok (.iadd, 1) := by decide +kernel
theorem dL_law_230 : decode cL_law 230 = .ok (.iaload, 1) := by decide +kernel
theorem dL_law_231 : decode cL_law 231 = .ok (.aload_n 0, 1) := by decide +kernel
theorem dL_law_232 : decode cL_law 232 = .ok (.iload_n 3, 1) := by decide +kernel
theorem dL_law_233 : decode cL_law 233 = .ok (.iconst 3, 1) := by decide +kernel
theorem dL_law_234 : decode cL_law 234 = .ok (.iadd, 1) := by decide +kernel
theorem dL_law_235 : decode cL_law 235 = .ok (.iaload, 1) := by decide +kernel
theorem dL_law_236 : decode cL_law 236 = .ok (.aload_n 0, 1) := by decide +kernel
theorem dL_law_237 : decode cL_law 237 = .ok (.iload_n 3, 1) := by decide +kernel
theorem dL_law_238 : decode cL_law 238 = .ok (.iconst 4, 1) := by decide +kernel
theorem dL_law_239 : decode cL_law 239 = .ok (.iadd, 1) := by decide +kernel
theorem dL_law_240 : decode cL_law 240 = .ok (.iaload, 1) := by decide +kernel
theorem dL_law_241 : decode cL_law 241 = .ok (.aload_n 0, 1) := by decide +kernel
theorem dL_law_242 : decode cL_law 242 = .ok (.iload_n 3, 1) := by decide +kernel
theorem dL_law_243 : decode cL_law 243 = .ok (.iconst 5, 1) := by decide +kernel
theorem dL_law_244 : decode cL_law 244 = .ok (.iadd, 1) := by decide +kernel
theorem dL_law_245 : decode cL_law 245 = .ok (.iaload, 1) := by decide +kernel
theorem dL_law_246 : decode cL_law 246 = .ok (.invokevirtual 31, 3) := by decide +kernel
theorem dL_law_249 : decode cL_law 249 = .ok (.aload_n 2, 1) := by decide +kernel
theorem dL_law_250 : decode cL_law 250 = .ok (.aload_n 0, 1) := by decide +kernel
theorem dL_law_251 : decode cL_law 251 = .ok (.iload_n 3, 1) := by decide +kernel
theorem dL_law_252 : decode cL_law 252 = .ok (.iconst 1, 1) := by decide +kernel
theorem dL_law_253 : decode cL_law 253 = .ok (.iadd, 1) := by decide +kernel
theorem dL_law_254 : decode cL_law 254 = .ok (.iaload, 1) := by decide +kernel
theorem dL_law_255 : decode cL_law 255 = .ok (.aload_n 0, 1) := by decide +kernel
theorem dL_law_256 : decode cL_law 256 = .ok (.iload_n 3, 1) := by decide +kernel
theorem dL_law_257 : decode cL_law 257 = .ok (.iconst 2, 1) := by decide +kernel
theorem dL_law_258 : decode cL_law 258 = .ok (.iadd, 1) := by decide +kernel
theorem dL_law_259 : decode cL_law 259 = .ok (.iaload, 1) := by decide +kernel
theorem dL_law_260 : decode cL_law 260 = .ok (.aload_n 0, 1) := by decide +kernel
theorem dL_law_261 : decode cL_law 261 = .ok (.iload_n 3, 1) := by decide +kernel
theorem dL_law_262 : decode cL_law 262 = .ok (.iconst 3, 1) := by decide +kernel
theorem dL_law_263 : decode cL_law 263 = .ok (.iadd, 1) := by decide +kernel
theorem dL_law_264 : decode cL_law 264 = .ok (.iaload, 1) := by decide +kernel
theorem dL_law_265 : decode cL_law 265 = .ok (.aload_n 0, 1) := by decide +kernel
theorem dL_law_266 : decode cL_law 266 = .ok (.iload_n 3, 1) := by decide +kernel
theorem dL_law_267 : decode cL_law 267 = .ok (.iconst 4, 1) := by decide +kernel
theorem dL_law_268 : decode cL_law 268 = .ok (.iadd, 1) := by decide +kernel
theorem dL_law_269 : decode cL_law 269 = .ok (.iaload, 1) := by decide +kernel
theorem dL_law_270 : decode cL_law 270 = .ok (.aload_n 0, 1) := by decide +kernel
theorem dL_law_271 : decode cL_law 271 = .ok (.iload_n 3, 1) := by decide +kernel
theorem dL_law_272 : decode cL_law 272 = .ok (.iconst 5, 1) := by decide +kernel
theorem dL_law_273 : decode cL_law 273 = .ok (.iadd, 1) := by decide +kernel
theorem dL_law_274 : decode cL_law 274 = .ok (.iaload, 1) := by decide +kernel
theorem dL_law_275 : decode cL_law 275 = .ok (.invokevirtual 35, 3) := by decide +kernel
theorem dL_law_278 : decode cL_law 278 = .ok (.if_icmp .eq 459, 3) := by decide +kernel
theorem dL_law_281 : decode cL_law 281 = .ok (.iconst 0, 1) := by decide +kernel
theorem dL_law_282 : decode cL_law 282 = .ok (.ireturn, 1) := by decide +kernel
theorem dL_law_283 : decode cL_law 283 = .ok (.aload_n 1, 1) := by decide +kernel
theorem dL_law_284 : decode cL_law 284 = .ok (.aload_n 0, 1) := by decide +kernel
theorem dL_law_285 : decode cL_law 285 = .ok (.iload_n 3, 1) := by decide +kernel
theorem dL_law_286 : decode cL_law 286 = .ok (.iconst 1, 1) := by decide +kernel
theorem dL_law_287 : decode cL_law 287 = .ok (.iadd, 1) := by decide +kernel
theorem dL_law_288 : decode cL_law 288 = .ok (.iaload, 1) := by decide +kernel
theorem dL_law_289 : decode cL_law 289 = .ok (.invokevirtual 36, 3) := by decide +kernel
theorem dL_law_292 : decode cL_law 292 = .ok (.aload_n 2, 1) := by decide +kernel
theorem dL_law_293 : decode cL_law 293 = .ok (.aload_n 0, 1) := by decide +kernel
theorem dL_law_294 : decode cL_law 294 = .ok (.iload_n 3, 1) := by decide +kernel
theorem dL_law_295 : decode cL_law 295 = .ok (.iconst 1, 1) := by decide +kernel
theorem dL_law_296 : decode cL_law 296 = .ok (.iadd, 1) := by decide +kernel
theorem dL_law_297 : decode cL_law 297 = .ok (.iaload, 1) := by decide +kernel
theorem dL_law_298 : decode cL_law 298 = .ok (.invokevirtual 40, 3) := by decide +kernel
theorem dL_law_301 : decode cL_law 301 = .ok (.goto 436, 3) := by decide +kernel
theorem dL_law_304 : decode cL_law 304 = .ok (.aload_n 1, 1) := by decide +kernel
theorem dL_law_305 : decode cL_law 305 = .ok (.aload_n 0, 1) := by decide +kernel
theorem dL_law_306 : decode cL_law 306 = .ok (.iload_n 3, 1) := by decide +kernel
theorem dL_law_307 : decode cL_law 307 = .ok (.iconst 1, 1) := by decide +kernel
theorem dL_law_308 : decode cL_law 308 = .ok (.iadd, 1) := by decide +kernel
theorem dL_law_309 : decode cL_law 309 = .ok (.iaload, 1) := by decide +kernel
theorem dL_law_310 : decode cL_law 310 = .ok (.aload_n 0, 1) := by decide +kernel
theorem dL_law_311 : decode cL_law 311 = .ok (.iload_n 3, 1) := by decide +kernel
theorem dL_law_312 : decode cL_law 312 = .ok (.iconst 2, 1) := by decide +kernel
theorem dL_law_313 : decode cL_law 313 = .ok (.iadd, 1) := by decide +kernel
theorem dL_law_314 : decode cL_law 314 = .ok (.iaload, 1) := by decide +kernel
theorem dL_law_315 : decode cL_law 315 = .ok (.aload_n 0, 1) := by decide +kernel
theorem dL_law_316 : decode cL_law 316 = .ok (.iload_n 3, 1) := by decide +kernel
theorem dL_law_317 : decode cL_law 317 = .ok (.iconst 3, 1) := by decide +kernel
theorem dL_law_318 : decode cL_law 318 = .ok (.iadd, 1) := by decide +kernel
theorem dL_law_319 : decode cL_law 319 = .ok (.iaload, 1) := by decide +kernel
theorem dL_law_320 : decode cL_law 320 = .ok (.aload_n 0, 1) := by decide +kernel
theorem dL_law_321 : decode cL_law 321 = .ok (.iload_n 3, 1) := by decide +kernel
theorem dL_law_322 : decode cL_law 322 = .ok (.iconst 4, 1) := by decide +kernel
theorem dL_law_323 : decode cL_law 323 = .ok (.iadd, 1) := by decide +kernel
theorem dL_law_324 : decode cL_law 324 = .ok (.iaload, 1) := by decide +kernel
theorem dL_law_325 : decode cL_law 325 = .ok (.aload_n 0, 1) := by decide +kernel
theorem dL_law_326 : decode cL_law 326 = .ok (.iload_n 3, 1) := by decide +kernel
theorem dL_law_327 : decode cL_law 327 = .ok (.iconst 5, 1) := by decide +kernel
theorem dL_law_328 : decode cL_law 328 = .ok (.iadd, 1) := by decide +kernel
theorem dL_law_329 : decode cL_law 329 = .ok (.iaload, 1) := by decide +kernel
theorem dL_law_330 : decode cL_law 330 = .ok (.invokevirtual 41, 3) := by decide +kernel
theorem dL_law_333 : decode cL_law 333 = .ok (.aload_n 2, 1) := by decide +kernel
theorem dL_law_334 : decode cL_law 334 = .ok (.aload_n 0, 1) := by decide +kernel
theorem dL_law_335 : decode cL_law 335 = .ok (.iload_n 3, 1) := by decide +kernel
theorem dL_law_336 : decode cL_law 336 = .ok (.iconst 1, 1) := by decide +kernel
theorem dL_law_337 : decode cL_law 337 = .ok (.iadd, 1) := by decide +kernel
theorem dL_law_338 : decode cL_law 338 = .ok (.iaload, 1) := by decide +kernel
theorem dL_law_339 : decode cL_law 339 = .ok (.aload_n 0, 1) := by decide +kernel
theorem dL_law_340 : decode cL_law 340 = .ok (.iload_n 3, 1) := by decide +kernel
theorem dL_law_341 : decode cL_law 341 = .ok (.iconst 2, 1) := by decide +kernel
theorem dL_law_342 : decode cL_law 342 = .ok (.iadd, 1) := by decide +kernel
theorem dL_law_343 : decode cL_law 343 = .ok (.iaload, 1) := by decide +kernel
theorem dL_law_344 : decode cL_law 344 = .ok (.aload_n 0, 1) := by decide +kernel
theorem dL_law_345 : decode cL_law 345 = .ok (.iload_n 3, 1) := by decide +kernel
theorem dL_law_346 : decode cL_law 346 = .ok (.iconst 3, 1) := by decide +kernel
theorem dL_law_347 : decode cL_law 347 = .ok (.iadd, 1) := by decide +kernel
theorem dL_law_348 : decode cL_law 348 = .ok (.iaload, 1) := by decide +kernel
theorem dL_law_349 : decode cL_law 349 = .ok (.aload_n 0, 1) := by decide +kernel
theorem dL_law_350 : decode cL_law 350 = .ok (.iload_n 3, 1) := by decide +kernel
theorem dL_law_351 : decode cL_law 351 = .ok (.iconst 4, 1) := by decide +kernel
theorem dL_law_352 : decode cL_law 352 = .ok (.iadd, 1) := by decide +kernel
theorem dL_law_353 : decode cL_law 353 = .ok (.iaload, 1) := by decide +kernel
theorem dL_law_354 : decode cL_law 354 = .ok (.aload_n 0, 1) := by decide +kernel
theorem dL_law_355 : decode cL_law 355 = .ok (.iload_n 3, 1) := by decide +kernel
theorem dL_law_356 : decode cL_law 356 = .ok (.iconst 5, 1) := by decide +kernel
theorem dL_law_357 : decode cL_law 357 = .ok (.iadd, 1) := by decide +kernel
theorem dL_law_358 : decode cL_law 358 = .ok (.iaload, 1) := by decide +kernel
theorem dL_law_359 : decode cL_law 359 = .ok (.invokevirtual 45, 3) := by decide +kernel
theorem dL_law_362 : decode cL_law 362 = .ok (.if_icmp .eq 375, 3) := by decide +kernel
theorem dL_law_365 : decode cL_law 365 = .ok (.iconst 0, 1) := by decide +kernel
theorem dL_law_366 : decode cL_law 366 = .ok (.ireturn, 1) := by decide +kernel
theorem dL_law_367 : decode cL_law 367 = .ok (.aload_n 1, 1) := by decide +kernel
theorem dL_law_368 : decode cL_law 368 = .ok (.aload_n 0, 1) := by decide +kernel
theorem dL_law_369 : decode cL_law 369 = .ok (.iload_n 3, 1) := by decide +kernel
theorem dL_law_370 : decode cL_law 370 = .ok (.iconst 1, 1) := by decide +kernel
theorem dL_law_371 : decode cL_law 371 = .ok (.iadd, 1) := by decide +kernel
theorem dL_law_372 : decode cL_law 372 = .ok (.iaload, 1) := by decide +kernel
theorem dL_law_373 : decode cL_law 373 = .ok (.invokevirtual 46, 3) := by decide +kernel
theorem dL_law_376 : decode cL_law 376 = .ok (.aload_n 2, 1) := by decide +kernel
theorem dL_law_377 : decode cL_law 377 = .ok (.aload_n 0, 1) := by decide +kernel
theorem dL_law_378 : decode cL_law 378 = .ok (.iload_n 3, 1) := by decide +kernel
theorem dL_law_379 : decode cL_law 379 = .ok (.iconst 1, 1) := by decide +kernel
theorem dL_law_380 : decode cL_law 380 = .ok (.iadd, 1) := by decide +kernel
theorem dL_law_381 : decode cL_law 381 = .ok (.iaload, 1) := by decide +kernel
theorem dL_law_382 : decode cL_law 382 = .ok (.invokevirtual 50, 3) := by decide +kernel
theorem dL_law_385 : decode cL_law 385 = .ok (.if_icmp .eq 352, 3) := by decide +kernel
theorem dL_law_388 : decode cL_law 388 = .ok (.iconst 0, 1) := by decide +kernel
theorem dL_law_389 : decode cL_law 389 = .ok (.ireturn, 1) := by decide +kernel
theorem dL_law_390 : decode cL_law 390 = .ok (.aload_n 1, 1) := by decide +kernel
theorem dL_law_391 : decode cL_law 391 = .ok (.invokevirtual 51, 3) := by decide +kernel
theorem dL_law_394 : decode cL_law 394 = .ok (.aload_n 2, 1) := by decide +kernel
theorem dL_law_395 : decode cL_law 395 = .ok (.invokevirtual 55, 3) := by decide +kernel
theorem dL_law_398 : decode cL_law 398 = .ok (.if_icmp .eq 339, 3) := by decide +kernel
theorem dL_law_401 : decode cL_law 401 = .ok (.iconst 0, 1) := by decide +kernel
theorem dL_law_402 : decode cL_law 402 = .ok (.ireturn, 1) := by decide +kernel
theorem dL_law_403 : decode cL_law 403 = .ok (.aload_n 1, 1) := by decide +kernel
theorem dL_law_404 : decode cL_law 404 = .ok (.aload_n 0, 1) := by decide +kernel
theorem dL_law_405 : decode cL_law 405 = .ok (.iload_n 3, 1) := by decide +kernel
theorem dL_law_406 : decode cL_law 406 = .ok (.iconst 1, 1) := by decide +kernel
theorem dL_law_407 : decode cL_law 407 = .ok (.iadd, 1) := by decide +kernel
theorem dL_law_408 : decode cL_law 408 = .ok (.iaload, 1) := by decide +kernel
theorem dL_law_409 : decode cL_law 409 = .ok (.invokevirtual 56, 3) := by decide +kernel
theorem dL_law_412 : decode cL_law 412 = .ok (.aload_n 2, 1) := by decide +kernel
theorem dL_law_413 : decode cL_law 413 = .ok (.aload_n 0, 1) := by decide +kernel
theorem dL_law_414 : decode cL_law 414 = .ok (.iload_n 3, 1) := by decide +kernel
theorem dL_law_415 : decode cL_law 415 = .ok (.iconst 1, 1) := by decide +kernel
theorem dL_law_416 : decode cL_law 416 = .ok (.iadd, 1) := by decide +kernel
theorem dL_law_417 : decode cL_law 417 = .ok (.iaload, 1) := by decide +kernel
theorem dL_law_418 : decode cL_law 418 = .ok (.invokevirtual 59, 3) := by decide +kernel
theorem dL_law_421 : decode cL_law 421 = .ok (.if_icmp .eq 316, 3) := by decide +kernel
theorem dL_law_424 : decode cL_law 424 = .ok (.iconst 0, 1) := by decide +kernel
theorem dL_law_425 : decode cL_law 425 = .ok (.ireturn, 1) := by decide +kernel
theorem dL_law_426 : decode cL_law 426 = .ok (.aload_n 1, 1) := by decide +kernel
theorem dL_law_427 : decode cL_law 427 = .ok (.aload_n 0, 1) := by decide +kernel
theorem dL_law_428 : decode cL_law 428 = .ok (.iload_n 3, 1) := by decide +kernel
theorem dL_law_429 : decode cL_law 429 = .ok (.iconst 1, 1) := by decide +kernel
theorem dL_law_430 : decode cL_law 430 = .ok (.iadd, 1) := by decide +kernel
theorem dL_law_431 : decode cL_law 431 = .ok (.iaload, 1) := by decide +kernel
theorem dL_law_432 : decode cL_law 432 = .ok (.invokevirtual 60, 3) := by decide +kernel
theorem dL_law_435 : decode cL_law 435 = .ok (.aload_n 2, 1) := by decide +kernel
theorem dL_law_436 : decode cL_law 436 = .ok (.aload_n 0, 1) := by decide +kernel
theorem dL_law_437 : decode cL_law 437 = .ok (.iload_n 3, 1) := by decide +kernel
theorem dL_law_438 : decode cL_law 438 = .ok (.iconst 1, 1) := by decide +kernel
theorem dL_law_439 : decode cL_law 439 = .ok (.iadd, 1) := by decide +kernel
theorem dL_law_440 : decode cL_law 440 = .ok (.iaload, 1) := by decide +kernel
theorem dL_law_441 : decode cL_law 441 = .ok (.invokevirtual 63, 3) := by decide +kernel
theorem dL_law_444 : decode cL_law 444 = .ok (.if_icmp .eq 293, 3) := by decide +kernel
theorem dL_law_447 : decode cL_law 447 = .ok (.iconst 0, 1) := by decide +kernel
theorem dL_law_448 : decode cL_law 448 = .ok (.ireturn, 1) := by decide +kernel
theorem dL_law_449 : decode cL_law 449 = .ok (.aload_n 1, 1) := by decide +kernel
theorem dL_law_450 : decode cL_law 450 = .ok (.aload_n 0, 1) := by decide +kernel
theorem dL_law_451 : decode cL_law 451 = .ok (.iload_n 3, 1) := by decide +kernel
theorem dL_law_452 : decode cL_law 452 = .ok (.iconst 1, 1) := by decide +kernel
theorem dL_law_453 : decode cL_law 453 = .ok (.iadd, 1) := by decide +kernel
theorem dL_law_454 : decode cL_law 454 = .ok (.iaload, 1) := by decide +kernel
theorem dL_law_455 : decode cL_law 455 = .ok (.invokevirtual 64, 3) := by decide +kernel
theorem dL_law_458 : decode cL_law 458 = .ok (.aload_n 2, 1) := by decide +kernel
theorem dL_law_459 : decode cL_law 459 = .ok (.aload_n 0, 1) := by decide +kernel
theorem dL_law_460 : decode cL_law 460 = .ok (.iload_n 3, 1) := by decide +kernel
theorem dL_law_461 : decode cL_law 461 = .ok (.iconst 1, 1) := by decide +kernel
theorem dL_law_462 : decode cL_law 462 = .ok (.iadd, 1) := by decide +kernel
theorem dL_law_463 : decode cL_law 463 = .ok (.iaload, 1) := by decide +kernel
theorem dL_law_464 : decode cL_law 464 = .ok (.invokevirtual 67, 3) := by decide +kernel
theorem dL_law_467 : decode cL_law 467 = .ok (.if_icmp .eq 270, 3) := by decide +kernel
theorem dL_law_470 : decode cL_law 470 = .ok (.iconst 0, 1) := by decide +kernel
theorem dL_law_471 : decode cL_law 471 = .ok (.ireturn, 1) := by decide +kernel
theorem dL_law_472 : decode cL_law 472 = .ok (.aload_n 1, 1) := by decide +kernel
theorem dL_law_473 : decode cL_law 473 = .ok (.aload_n 0, 1) := by decide +kernel
theorem dL_law_474 : decode cL_law 474 = .ok (.iload_n 3, 1) := by decide +kernel
theorem dL_law_475 : decode cL_law 475 = .ok (.iconst 1, 1) := by decide +kernel
theorem dL_law_476 : decode cL_law 476 = .ok (.iadd, 1) := by decide +kernel
theorem dL_law_477 : decode cL_law 477 = .ok (.iaload, 1) := by decide +kernel
theorem dL_law_478 : decode cL_law 478 = .ok (.aload_n 0, 1) := by decide +kernel
theorem dL_law_479 : decode cL_law 479 = .ok (.iload_n 3, 1) := by decide +kernel
theorem dL_law_480 : decode cL_law 480 = .ok (.iconst 2, 1) := by decide +kernel
theorem dL_law_481 : decode cL_law 481 = .ok (.iadd, 1) := by decide +kernel
theorem dL_law_482 : decode cL_law 482 = .ok (.iaload, 1) := by decide +kernel
theorem dL_law_483 : decode cL_law 483 = .ok (.invokevirtual 68, 3) := by decide +kernel
theorem dL_law_486 : decode cL_law 486 = .ok (.aload_n 2, 1) := by decide +kernel
theorem dL_law_487 : decode cL_law 487 = .ok (.aload_n 0, 1) := by decide +kernel
theorem dL_law_488 : decode cL_law 488 = .ok (.iload_n 3, 1) := by decide +kernel
theorem dL_law_489 : decode cL_law 489 = .ok (.iconst 1, 1) := by decide +kernel
theorem dL_law_490 : decode cL_law 490 = .ok (.iadd, 1) := by decide +kernel
theorem dL_law_491 : decode cL_law 491 = .ok (.iaload, 1) := by decide +kernel
theorem dL_law_492 : decode cL_law 492 = .ok (.aload_n 0, 1) := by decide +kernel
theorem dL_law_493 : decode cL_law 493 = .ok (.iload_n 3, 1) := by decide +kernel
theorem dL_law_494 : decode cL_law 494 = .ok (.iconst 2, 1) := by decide +kernel
theorem dL_law_495 : decode cL_law 495 = .ok (.iadd, 1) := by decide +kernel
theorem dL_law_496 : decode cL_law 496 = .ok (.iaload, 1) := by decide +kernel
theorem dL_law_497 : decode cL_law 497 = .ok (.invokevirtual 71, 3) := by decide +kernel
theorem dL_law_500 : decode cL_law 500 = .ok (.if_icmp .eq 237, 3) := by decide +kernel
theorem dL_law_503 : decode cL_law 503 = .ok (.iconst 0, 1) := by decide +kernel
theorem dL_law_504 : decode cL_law 504 = .ok (.ireturn, 1) := by decide +kernel
theorem dL_law_505 : decode cL_law 505 = .ok (.aload_n 1, 1) := by decide +kernel
theorem dL_law_506 : decode cL_law 506 = .ok (.aload_n 0, 1) := by decide +kernel
theorem dL_law_507 : decode cL_law 507 = .ok (.iload_n 3, 1) := by decide +kernel
theorem dL_law_508 : decode cL_law 508 = .ok (.iconst 1, 1) := by decide +kernel
theorem dL_law_509 : decode cL_law 509 = .ok (.iadd, 1) := by decide +kernel
theorem dL_law_510 : decode cL_law 510 = .ok (.iaload, 1) := by decide +kernel
theorem dL_law_511 : decode cL_law 511 = .ok (.aload_n 0, 1) := by decide +kernel
theorem dL_law_512 : decode cL_law 512 = .ok (.iload_n 3, 1) := by decide +kernel
theorem dL_law_513 : decode cL_law 513 = .ok (.iconst 2, 1) := by decide +kernel
theorem dL_law_514 : decode cL_law 514 = .ok (.iadd, 1) := by decide +kernel
theorem dL_law_515 : decode cL_law 515 = .ok (.iaload, 1) := by decide +kernel
theorem dL_law_516 : decode cL_law 516 = .ok (.aload_n 0, 1) := by decide +kernel
theorem dL_law_517 : decode cL_law 517 = .ok (.iload_n 3, 1) := by decide +kernel
theorem dL_law_518 : decode cL_law 518 = .ok (.iconst 3, 1) := by decide +kernel
theorem dL_law_519 : decode cL_law 519 = .ok (.iadd, 1) := by decide +kernel
theorem dL_law_520 : decode cL_law 520 = .ok (.iaload, 1) := by decide +kernel
theorem dL_law_521 : decode cL_law 521 = .ok (.aload_n 0, 1) := by decide +kernel
theorem dL_law_522 : decode cL_law 522 = .ok (.iload_n 3, 1) := by decide +kernel
theorem dL_law_523 : decode cL_law 523 = .ok (.iconst 4, 1) := by decide +kernel
theorem dL_law_524 : decode cL_law 524 = .ok (.iadd, 1) := by decide +kernel
theorem dL_law_525 : decode cL_law 525 = .ok (.iaload, 1) := by decide +kernel
theorem dL_law_526 : decode cL_law 526 = .ok (.invokevirtual 72, 3) := by decide +kernel
theorem dL_law_529 : decode cL_law 529 = .ok (.aload_n 2, 1) := by decide +kernel
theorem dL_law_530 : decode cL_law 530 = .ok (.aload_n 0, 1) := by decide +kernel
theorem dL_law_531 : decode cL_law 531 = .ok (.iload_n 3, 1) := by decide +kernel
theorem dL_law_532 : decode cL_law 532 = .ok (.iconst 1, 1) := by decide +kernel
theorem dL_law_533 : decode cL_law 533 = .ok (.iadd, 1) := by decide +kernel
theorem dL_law_534 : decode cL_law 534 = .ok (.iaload, 1) := by decide +kernel
theorem dL_law_535 : decode cL_law 535 = .ok (.aload_n 0, 1) := by decide +kernel
theorem dL_law_536 : decode cL_law 536 = .ok (.iload_n 3, 1) := by decide +kernel
theorem dL_law_537 : decode cL_law 537 = .ok (.iconst 2, 1) := by decide +kernel
theorem dL_law_538 : decode cL_law 538 = .ok (.iadd, 1) := by decide +kernel
theorem dL_law_539 : decode cL_law 539 = .ok (.iaload, 1) := by decide +kernel
theorem dL_law_540 : decode cL_law 540 = .ok (.aload_n 0, 1) := by decide +kernel
theorem dL_law_541 : decode cL_law 541 = .ok (.iload_n 3, 1) := by decide +kernel
theorem dL_law_542 : decode cL_law 542 = .ok (.iconst 3, 1) := by decide +kernel
theorem dL_law_543 : decode cL_law 543 = .ok (.iadd, 1) := by decide +kernel
theorem dL_law_544 : decode cL_law 544 = .ok (.iaload, 1) := by decide +kernel
theorem dL_law_545 : decode cL_law 545 = .ok (.aload_n 0, 1) := by decide +kernel
theorem dL_law_546 : decode cL_law 546 = .ok (.iload_n 3, 1) := by decide +kernel
theorem dL_law_547 : decode cL_law 547 = .ok (.iconst 4, 1) := by decide +kernel
theorem dL_law_548 : decode cL_law 548 = .ok (.iadd, 1) := by decide +kernel
theorem dL_law_549 : decode cL_law 549 = .ok (.iaload, 1) := by decide +kernel
theorem dL_law_550 : decode cL_law 550 = .ok (.invokevirtual 76, 3) := by decide +kernel
theorem dL_law_553 : decode cL_law 553 = .ok (.if_icmp .eq 184, 3) := by decide +kernel
theorem dL_law_556 : decode cL_law 556 = .ok (.iconst 0, 1) := by decide +kernel
theorem dL_law_557 : decode cL_law 557 = .ok (.ireturn, 1) := by decide +kernel
theorem dL_law_558 : decode cL_law 558 = .ok (.aload_n 1, 1) := by decide +kernel
theorem dL_law_559 : decode cL_law 559 = .ok (.invokevirtual 77, 3) := by decide +kernel
theorem dL_law_562 : decode cL_law 562 = .ok (.aload_n 2, 1) := by decide +kernel
theorem dL_law_563 : decode cL_law 563 = .ok (.invokevirtual 80, 3) := by decide +kernel
theorem dL_law_566 : decode cL_law 566 = .ok (.if_icmp .eq 171, 3) := by decide +kernel
theorem dL_law_569 : decode cL_law 569 = .ok (.iconst 0, 1) := by decide +kernel
theorem dL_law_570 : decode cL_law 570 = .ok (.ireturn, 1) := by decide +kernel
theorem dL_law_571 : decode cL_law 571 = .ok (.aload_n 1, 1) := by decide +kernel
theorem dL_law_572 : decode cL_law 572 = .ok (.aload_n 0, 1) := by decide +kernel
theorem dL_law_573 : decode cL_law 573 = .ok (.iload_n 3, 1) := by decide +kernel
theorem dL_law_574 : decode cL_law 574 = .ok (.iconst 1, 1) := by decide +kernel
theorem dL_law_575 : decode cL_law 575 = .ok (.iadd, 1) := by decide +kernel
theorem dL_law_576 : decode cL_law 576 = .ok (.iaload, 1) := by decide +kernel
theorem dL_law_577 : decode cL_law 577 = .ok (.aload_n 0, 1) := by decide +kernel
theorem dL_law_578 : decode cL_law 578 = .ok (.iload_n 3, 1) := by decide +kernel
theorem dL_law_579 : decode cL_law 579 = .ok (.iconst 2, 1) := by decide +kernel
theorem dL_law_580 : decode cL_law 580 = .ok (.iadd, 1) := by decide +kernel
theorem dL_law_581 : decode cL_law 581 = .ok (.iaload, 1) := by decide +kernel
theorem dL_law_582 : decode cL_law 582 = .ok (.invokevirtual 81, 3) := by decide +kernel
theorem dL_law_585 : decode cL_law 585 = .ok (.aload_n 2, 1) := by decide +kernel
theorem dL_law_586 : decode cL_law 586 = .ok (.aload_n 0, 1) := by decide +kernel
theorem dL_law_587 : decode cL_law 587 = .ok (.iload_n 3, 1) := by decide +kernel
theorem dL_law_588 : decode cL_law 588 = .ok (.iconst 1, 1) := by decide +kernel
theorem dL_law_589 : decode cL_law 589 = .ok (.iadd, 1) := by decide +kernel
theorem dL_law_590 : decode cL_law 590 = .ok (.iaload, 1) := by decide +kernel
theorem dL_law_591 : decode cL_law 591 = .ok (.aload_n 0, 1) := by decide +kernel
theorem dL_law_592 : decode cL_law 592 = .ok (.iload_n 3, 1) := by decide +kernel
theorem dL_law_593 : decode cL_law 593 = .ok (.iconst 2, 1) := by decide +kernel
theorem dL_law_594 : decode cL_law 594 = .ok (.iadd, 1) := by decide +kernel
theorem dL_law_595 : decode cL_law 595 = .ok (.iaload, 1) := by decide +kernel
theorem dL_law_596 : decode cL_law 596 = .ok (.invokevirtual 84, 3) := by decide +kernel
theorem dL_law_599 : decode cL_law 599 = .ok (.if_icmp .eq 138, 3) := by decide +kernel
theorem dL_law_602 : decode cL_law 602 = .ok (.iconst 0, 1) := by decide +kernel
theorem dL_law_603 : decode cL_law 603 = .ok (.ireturn, 1) := by decide +kernel
theorem dL_law_604 : decode cL_law 604 = .ok (.aload_n 1, 1) := by decide +kernel
theorem dL_law_605 : decode cL_law 605 = .ok (.aload_n 0, 1) := by decide +kernel
theorem dL_law_606 : decode cL_law 606 = .ok (.iload_n 3, 1) := by decide +kernel
theorem dL_law_607 : decode cL_law 607 = .ok (.iconst 1, 1) := by decide +kernel
theorem dL_law_608 : decode cL_law 608 = .ok (.iadd, 1) := by decide +kernel
theorem dL_law_609 : decode cL_law 609 = .ok (.iaload, 1) := by decide +kernel
theorem dL_law_610 : decode cL_law 610 = .ok (.aload_n 0, 1) := by decide +kernel
theorem dL_law_611 : decode cL_law 611 = .ok (.iload_n 3, 1) := by decide +kernel
theorem dL_law_612 : decode cL_law 612 = .ok (.iconst 2, 1) := by decide +kernel
theorem dL_law_613 : decode cL_law 613 = .ok (.iadd, 1) := by decide +kernel
theorem dL_law_614 : decode cL_law 614 = .ok (.iaload, 1) := by decide +kernel
theorem dL_law_615 : decode cL_law 615 = .ok (.invokevirtual 85, 3) := by decide +kernel
theorem dL_law_618 : decode cL_law 618 = .ok (.aload_n 2, 1) := by decide +kernel
theorem dL_law_619 : decode cL_law 619 = .ok (.aload_n 0, 1) := by decide +kernel
theorem dL_law_620 : decode cL_law 620 = .ok (.iload_n 3, 1) := by decide +kernel
theorem dL_law_621 : decode cL_law 621 = .ok (.iconst 1, 1) := by decide +kernel
theorem dL_law_622 : decode cL_law 622 = .ok (.iadd, 1) := by decide +kernel
theorem dL_law_623 : decode cL_law 623 = .ok (.iaload, 1) := by decide +kernel
theorem dL_law_624 : decode cL_law 624 = .ok (.aload_n 0, 1) := by decide +kernel
theorem dL_law_625 : decode cL_law 625 = .ok (.iload_n 3, 1) := by decide +kernel
theorem dL_law_626 : decode cL_law 626 = .ok (.iconst 2, 1) := by decide +kernel
theorem dL_law_627 : decode cL_law 627 = .ok (.iadd, 1) := by decide +kernel
theorem dL_law_628 : decode cL_law 628 = .ok (.iaload, 1) := by decide +kernel
theorem dL_law_629 : decode cL_law 629 = .ok (.invokevirtual 88, 3) := by decide +kernel
theorem dL_law_632 : decode cL_law 632 = .ok (.if_icmp .eq 105, 3) := by decide +kernel
theorem dL_law_635 : decode cL_law 635 = .ok (.iconst 0, 1) := by decide +kernel
theorem dL_law_636 : decode cL_law 636 = .ok (.ireturn, 1) := by decide +kernel
theorem dL_law_637 : decode cL_law 637 = .ok (.aload_n 1, 1) := by decide +kernel
theorem dL_law_638 : decode cL_law 638 = .ok (.invokevirtual 89, 3) := by decide +kernel
theorem dL_law_641 : decode cL_law 641 = .ok (.aload_n 2, 1) := by decide +kernel
theorem dL_law_642 : decode cL_law 642 = .ok (.invokevirtual 92, 3) := by decide +kernel
theorem dL_law_645 : decode cL_law 645 = .ok (.goto 92, 3) := by decide +kernel
theorem dL_law_648 : decode cL_law 648 = .ok (.aload_n 1, 1) := by decide +kernel
theorem dL_law_649 : decode cL_law 649 = .ok (.aload_n 0, 1) := by decide +kernel
theorem dL_law_650 : decode cL_law 650 = .ok (.iload_n 3, 1) := by decide +kernel
theorem dL_law_651 : decode cL_law 651 = .ok (.iconst 1, 1) := by decide +kernel
theorem dL_law_652 : decode cL_law 652 = .ok (.iadd, 1) := by decide +kernel
theorem dL_law_653 : decode cL_law 653 = .ok (.iaload, 1) := by decide +kernel
theorem dL_law_654 : decode cL_law 654 = .ok (.aload_n 0, 1) := by decide +kernel
theorem dL_law_655 : decode cL_law 655 = .ok (.iload_n 3, 1) := by decide +kernel
theorem dL_law_656 : decode cL_law 656 = .ok (.iconst 2, 1) := by decide +kernel
theorem dL_law_657 : decode cL_law 657 = .ok (.iadd, 1) := by decide +kernel
theorem dL_law_658 : decode cL_law 658 = .ok (.iaload, 1) := by decide +kernel
theorem dL_law_659 : decode cL_law 659 = .ok (.aload_n 0, 1) := by decide +kernel
theorem dL_law_660 : decode cL_law 660 = .ok (.iload_n 3, 1) := by decide +kernel
theorem dL_law_661 : decode cL_law 661 = .ok (.iconst 3, 1) := by decide +kernel
theorem dL_law_662 : decode cL_law 662 = .ok (.iadd, 1) := by decide +kernel
theorem dL_law_663 : decode cL_law 663 = .ok (.iaload, 1) := by decide +kernel
theorem dL_law_664 : decode cL_law 664 = .ok (.invokevirtual 93, 3) := by decide +kernel
theorem dL_law_667 : decode cL_law 667 = .ok (.aload_n 2, 1) := by decide +kernel
theorem dL_law_668 : decode cL_law 668 = .ok (.aload_n 0, 1) := by decide +kernel
theorem dL_law_669 : decode cL_law 669 = .ok (.iload_n 3, 1) := by decide +kernel
theorem dL_law_670 : decode cL_law 670 = .ok (.iconst 1, 1) := by decide +kernel
theorem dL_law_671 : decode cL_law 671 = .ok (.iadd, 1) := by decide +kernel
theorem dL_law_672 : decode cL_law 672 = .ok (.iaload, 1) := by decide +kernel
theorem dL_law_673 : decode cL_law 673 = .ok (.aload_n 0, 1) := by decide +kernel
theorem dL_law_674 : decode cL_law 674 = .ok (.iload_n 3, 1) := by decide +kernel
theorem dL_law_675 : decode cL_law 675 = .ok (.iconst 2, 1) := by decide +kernel
theorem dL_law_676 : decode cL_law 676 = .ok (.iadd, 1) := by decide +kernel
theorem dL_law_677 : decode cL_law 677 = .ok (.iaload, 1) := by decide +kernel
theorem dL_law_678 : decode cL_law 678 = .ok (.aload_n 0, 1) := by decide +kernel
theorem dL_law_679 : decode cL_law 679 = .ok (.iload_n 3, 1) := by decide +kernel
theorem dL_law_680 : decode cL_law 680 = .ok (.iconst 3, 1) := by decide +kernel
theorem dL_law_681 : decode cL_law 681 = .ok (.iadd, 1) := by decide +kernel
theorem dL_law_682 : decode cL_law 682 = .ok (.iaload, 1) := by decide +kernel
theorem dL_law_683 : decode cL_law 683 = .ok (.invokevirtual 97, 3) := by decide +kernel
theorem dL_law_686 : decode cL_law 686 = .ok (.if_icmp .eq 51, 3) := by decide +kernel
theorem dL_law_689 : decode cL_law 689 = .ok (.iconst 0, 1) := by decide +kernel
theorem dL_law_690 : decode cL_law 690 = .ok (.ireturn, 1) := by decide +kernel
theorem dL_law_691 : decode cL_law 691 = .ok (.aload_n 1, 1) := by decide +kernel
theorem dL_law_692 : decode cL_law 692 = .ok (.aload_n 0, 1) := by decide +kernel
theorem dL_law_693 : decode cL_law 693 = .ok (.iload_n 3, 1) := by decide +kernel
theorem dL_law_694 : decode cL_law 694 = .ok (.iconst 1, 1) := by decide +kernel
theorem dL_law_695 : decode cL_law 695 = .ok (.iadd, 1) := by decide +kernel
theorem dL_law_696 : decode cL_law 696 = .ok (.iaload, 1) := by decide +kernel
theorem dL_law_697 : decode cL_law 697 = .ok (.invokevirtual 98, 3) := by decide +kernel
theorem dL_law_700 : decode cL_law 700 = .ok (.aload_n 2, 1) := by decide +kernel
theorem dL_law_701 : decode cL_law 701 = .ok (.aload_n 0, 1) := by decide +kernel
theorem dL_law_702 : decode cL_law 702 = .ok (.iload_n 3, 1) := by decide +kernel
theorem dL_law_703 : decode cL_law 703 = .ok (.iconst 1, 1) := by decide +kernel
theorem dL_law_704 : decode cL_law 704 = .ok (.iadd, 1) := by decide +kernel
theorem dL_law_705 : decode cL_law 705 = .ok (.iaload, 1) := by decide +kernel
theorem dL_law_706 : decode cL_law 706 = .ok (.invokevirtual 101, 3) := by decide +kernel
theorem dL_law_709 : decode cL_law 709 = .ok (.if_icmp .eq 28, 3) := by decide +kernel
theorem dL_law_712 : decode cL_law 712 = .ok (.iconst 0, 1) := by decide +kernel
theorem dL_law_713 : decode cL_law 713 = .ok (.ireturn, 1) := by decide +kernel
theorem dL_law_714 : decode cL_law 714 = .ok (.aload_n 1, 1) := by decide +kernel
theorem dL_law_715 : decode cL_law 715 = .ok (.aload_n 0, 1) := by decide +kernel
theorem dL_law_716 : decode cL_law 716 = .ok (.iload_n 3, 1) := by decide +kernel
theorem dL_law_717 : decode cL_law 717 = .ok (.iconst 1, 1) := by decide +kernel
theorem dL_law_718 : decode cL_law 718 = .ok (.iadd, 1) := by decide +kernel
theorem dL_law_719 : decode cL_law 719 = .ok (.iaload, 1) := by decide +kernel
theorem dL_law_720 : decode cL_law 720 = .ok (.invokevirtual 102, 3) := by decide +kernel
theorem dL_law_723 : decode cL_law 723 = .ok (.aload_n 2, 1) := by decide +kernel
theorem dL_law_724 : decode cL_law 724 = .ok (.aload_n 0, 1) := by decide +kernel
theorem dL_law_725 : decode cL_law 725 = .ok (.iload_n 3, 1) := by decide +kernel
theorem dL_law_726 : decode cL_law 726 = .ok (.iconst 1, 1) := by decide +kernel
theorem dL_law_727 : decode cL_law 727 = .ok (.iadd, 1) := by decide +kernel
theorem dL_law_728 : decode cL_law 728 = .ok (.iaload, 1) := by decide +kernel
theorem dL_law_729 : decode cL_law 729 = .ok (.invokevirtual 105, 3) := by decide +kernel
theorem dL_law_732 : decode cL_law 732 = .ok (.if_icmp .eq 5, 3) := by decide +kernel
theorem dL_law_735 : decode cL_law 735 = .ok (.iconst 0, 1) := by decide +kernel
theorem dL_law_736 : decode cL_law 736 = .ok (.ireturn, 1) := by decide +kernel
theorem dL_law_737 : decode cL_law 737 = .ok (.iinc 3 6, 3) := by decide +kernel
theorem dL_law_740 : decode cL_law 740 = .ok (.goto (-702), 3) := by decide +kernel
theorem dL_law_743 : decode cL_law 743 = .ok (.iconst 1, 1) := by decide +kernel
theorem dL_law_744 : decode cL_law 744 = .ok (.ireturn, 1) := by decide +kernel
end
section
def gT : List Cond := lw_tbl.filter goodWord
theorem gT_of {w : Cond} (i : Nat) (h : lw_tbl[i]? = some w) (hg : goodWord w = true) : w ∈ gT := List.mem_filter.mpr ⟨List.mem_of_getElem? h, hg⟩
theorem gT_tbl {w : Cond} (h : w ∈ gT) : w ∈ lw_tbl := (List.mem_filter.mp h).1
theorem gT_good {w : Cond} (h : w ∈ gT) : (w.onTables && w.keeps) = true ∨ ∃ ty, w = .arrayClass ty := good_of_word (List.mem_filter.mp h).2
theorem gT_in {Ts ws : List Cond} (hT : ∀ w ∈ gT, w ∈ Ts) (h : ∀ w ∈ ws, w ∈ gT) : GoodIn Ts ws := fun w hw => ⟨hT w (h w hw), gT_good (h w hw)⟩
theorem ks_X1_doubtAbove : Cond.selects RX1 yX1_doubtAbove yX1_doubtAbove ∈ gT := gT_of 0 (by decide +kernel) rfl
theorem ks_X1_settle : Cond.selects RX1 yX1_settle yX1_settle ∈ gT := gT_of 1 (by decide +kernel) rfl
theorem ks_X1_lowestBeside : Cond.selects RX1 yX1_lowestBeside yX1_lowestBeside ∈ gT := gT_of 2 (by decide +kernel) rfl
theorem ks_X4_afterBlanks : Cond.selects RX4 yX4_afterBlanks yX4_afterBlanks ∈ gT := gT_of 3 (by decide +kernel) rfl
theorem ks_X4_byteAt : Cond.selects RX4 yX4_byteAt yX4_byteAt ∈ gT := gT_of 4 (by decide +kernel) rfl
theorem ks_X4_tokenEnd : Cond.selects RX4 yX4_tokenEnd yX4_tokenEnd ∈ gT := gT_of 5 (by decide +kernel) rfl
theorem ks_X4_faultOf : Cond.selects RX4 yX4_faultOf yX4_faultOf ∈ gT := gT_of 6 (by decide +kernel) rfl
theorem ks_X4_windOf : Cond.selects RX4 yX4_windOf yX4_windOf ∈ gT := gT_of 7 (by decide +kernel) rfl
theorem ks_X4_isWord : Cond.selects RX4 yX4_isWord yX4_isWord ∈ gT := gT_of 8 (by decide +kernel) rfl
theorem ks_X4_numberOf : Cond.selects RX4 yX4_numberOf yX4_numberOf ∈ gT := gT_of 9 (by decide +kernel) rfl
theorem ks_X4_tell : Cond.selects RX4 yX4_tell yX4_tell ∈ gT := gT_of 10 (by decide +kernel) rfl
theorem ks_X1_bringSupply : Cond.selects RX1 yX1_bringSupply yX1_bringSupply ∈ gT := gT_of 11 (by decide +kernel) rfl
theorem ks_X1_draw : Cond.selects RX1 yX1_draw yX1_draw ∈ gT := gT_of 12 (by decide +kernel) rfl
theorem ks_X1_raise : Cond.selects RX1 yX1_raise yX1_raise ∈ gT := gT_of 13 (by decide +kernel) rfl
theorem ks_X1_blow : Cond.selects RX1 yX1_blow yX1_blow ∈ gT := gT_of 14 (by decide +kernel) rfl
theorem ks_X1_isLifted : Cond.selects RX1 yX1_isLifted yX1_isLifted ∈ gT := gT_of 15 (by decide +kernel) rfl
theorem ks_X1_isInShadow : Cond.selects RX1 yX1_isInShadow yX1_isInShadow ∈ gT := gT_of 16 (by decide +kernel) rfl
theorem ks_X1_landing : Cond.selects RX1 yX1_landing yX1_landing ∈ gT := gT_of 17 (by decide +kernel) rfl
theorem ks_X1_afterHop : Cond.selects RX1 yX1_afterHop yX1_afterHop ∈ gT := gT_of 18 (by decide +kernel) rfl
theorem ks_X1_isLaid : Cond.selects RX1 yX1_isLaid yX1_isLaid ∈ gT := gT_of 19 (by decide +kernel) rfl
theorem ks_X1_lose : Cond.selects RX1 yX1_lose yX1_lose ∈ gT := gT_of 20 (by decide +kernel) rfl
theorem ks_X1_reachHouses : Cond.selects RX1 yX1_reachHouses yX1_reachHouses ∈ gT := gT_of 21 (by decide +kernel) rfl
theorem ks_X1_passSeason : Cond.selects RX1 yX1_passSeason yX1_passSeason ∈ gT := gT_of 22 (by decide +kernel) rfl
theorem ks_X7_chooseWorks : Cond.selects RX7 yX7_chooseWorks yX7_chooseWorks ∈ gT := gT_of 23 (by decide +kernel) rfl
theorem ks_X8_keeps : Cond.selects RX8 yX8_keeps yX8_keeps ∈ gT := gT_of 24 (by decide +kernel) rfl
theorem ks_X8_isCell : Cond.selects RX8 yX8_isCell yX8_isCell ∈ gT := gT_of 25 (by decide +kernel) rfl
theorem ks_X8_settledAt : Cond.selects RX8 yX8_settledAt yX8_settledAt ∈ gT := gT_of 26 (by decide +kernel) rfl
theorem ks_X8_touches : Cond.selects RX8 yX8_touches yX8_touches ∈ gT := gT_of 27 (by decide +kernel) rfl
theorem ks_X8_near : Cond.selects RX8 yX8_near yX8_near ∈ gT := gT_of 28 (by decide +kernel) rfl
theorem ks_X8_settles : Cond.selects RX8 yX8_settles yX8_settles ∈ gT := gT_of 29 (by decide +kernel) rfl
theorem ks_X8_isSteep : Cond.selects RX8 yX8_isSteep yX8_isSteep ∈ gT := gT_of 30 (by decide +kernel) rfl
theorem ks_X8_settledAll : Cond.selects RX8 yX8_settledAll yX8_settledAll ∈ gT := gT_of 31 (by decide +kernel) rfl
theorem ks_X8_put : Cond.selects RX8 yX8_put yX8_put ∈ gT := gT_of 32 (by decide +kernel) rfl
theorem ks_X8_next : Cond.selects RX8 yX8_next yX8_next ∈ gT := gT_of 33 (by decide +kernel) rfl
theorem ks_X8_errs : Cond.selects RX8 yX8_errs yX8_errs ∈ gT := gT_of 34 (by decide +kernel) rfl
theorem ks_X8_goes : Cond.selects RX8 yX8_goes yX8_goes ∈ gT := gT_of 35 (by decide +kernel) rfl
theorem ks_X8_windNow : Cond.selects RX8 yX8_windNow yX8_windNow ∈ gT := gT_of 36 (by decide +kernel) rfl
theorem ks_X8_draw : Cond.selects RX8 yX8_draw yX8_draw ∈ gT := gT_of 37 (by decide +kernel) rfl
theorem ks_X8_lifts : Cond.selects RX8 yX8_lifts yX8_lifts ∈ gT := gT_of 38 (by decide +kernel) rfl
theorem ks_X8_isShadow : Cond.selects RX8 yX8_isShadow yX8_isShadow ∈ gT := gT_of 39 (by decide +kernel) rfl
theorem ks_X8_ahead : Cond.selects RX8 yX8_ahead yX8_ahead ∈ gT := gT_of 40 (by decide +kernel) rfl
theorem ks_X8_windGoesOn : Cond.selects RX8 yX8_windGoesOn yX8_windGoesOn ∈ gT := gT_of 41 (by decide +kernel) rfl
theorem ks_X8_season : Cond.selects RX8 yX8_season yX8_season ∈ gT := gT_of 42 (by decide +kernel) rfl
theorem ks_X8_seeks : Cond.selects RX8 yX8_seeks yX8_seeks ∈ gT := gT_of 43 (by decide +kernel) rfl
theorem ks_X8_does : Cond.selects RX8 yX8_does yX8_does ∈ gT := gT_of 44 (by decide +kernel) rfl
theorem ks_X8_comesBack : Cond.selects RX8 yX8_comesBack yX8_comesBack ∈ gT := gT_of 45 (by decide +kernel) rfl
theorem ks_X8_areSeen : Cond.selects RX8 yX8_areSeen yX8_areSeen ∈ gT := gT_of 46 (by decide +kernel) rfl
theorem ki_L : Cond.initialized RL ∈ gT := gT_of 47 (by decide +kernel) rfl
theorem ki_X7 : Cond.initialized RX7 ∈ gT := gT_of 48 (by decide +kernel) rfl
theorem ki_X3 : Cond.initialized RX3 ∈ gT := gT_of 49 (by decide +kernel) rfl
theorem ki_J9 : Cond.initialized RJ9 ∈ gT := gT_of 50 (by decide +kernel) rfl
theorem ki_X1 : Cond.initialized RX1 ∈ gT := gT_of 51 (by decide +kernel) rfl
theorem ki_X0 : Cond.initialized RX0 ∈ gT := gT_of 52 (by decide +kernel) rfl
theorem ki_X5 : Cond.initialized RX5 ∈ gT := gT_of 53 (by decide +kernel) rfl
theorem ki_J10 : Cond.initialized RJ10 ∈ gT := gT_of 54 (by decide +kernel) rfl
theorem ki_X4 : Cond.initialized RX4 ∈ gT := gT_of 55 (by decide +kernel) rfl
theorem ki_X6 : Cond.initialized RX6 ∈ gT := gT_of 56 (by decide +kernel) rfl
theorem ki_X2 : Cond.initialized RX2 ∈ gT := gT_of 57 (by decide +kernel) rfl
theorem ki_X8 : Cond.initialized RX8 ∈ gT := gT_of 58 (by decide +kernel) rfl
theorem ki_J13 : Cond.initialized RJ13 ∈ gT := gT_of 59 (by decide +kernel) rfl
theorem ki_J0 : Cond.initialized RJ0 ∈ gT := gT_of 60 (by decide +kernel) rfl
theorem ki_J1 : Cond.initialized RJ1 ∈ gT := gT_of 61 (by decide +kernel) rfl
theorem ki_J3 : Cond.initialized RJ3 ∈ gT := gT_of 62 (by decide +kernel) rfl
theorem ki_J2 : Cond.initialized RJ2 ∈ gT := gT_of 63 (by decide +kernel) rfl
theorem kl_L_7 : Cond.classLink RL 7 RX7 ∈ gT := gT_of 64 (by decide +kernel) rfl
theorem kb_X7 : Cond.instantiable RX7 8 ∈ gT := gT_of 65 (by decide +kernel) rfl
theorem km_L_15 : Cond.methodLink RL 15 yX7_init ∈ gT := gT_of 66 (by decide +kernel) rfl
theorem kn_X7_init : Cond.instanceMethod yX7_init ∈ gT := gT_of 67 (by decide +kernel) rfl
theorem kc_X7_init : Cond.code yX7_init cX7_init 3 none ∈ gT := gT_of 68 (by decide +kernel) rfl
theorem km_X7_1 : Cond.methodLink RX7 1 objectInit ∈ gT := gT_of 69 (by decide +kernel) rfl
theorem kn_Obj : Cond.instanceMethod objectInit ∈ gT := gT_of 70 (by decide +kernel) rfl
theorem kc_Obj : Cond.code objectInit ⟨#[0xb1]⟩ 1 none ∈ gT := gT_of 71 (by decide +kernel) rfl
theorem kl_X7_7 : Cond.classLink RX7 7 RX3 ∈ gT := gT_of 72 (by decide +kernel) rfl
theorem kb_X3 : Cond.instantiable RX3 4 ∈ gT := gT_of 73 (by decide +kernel) rfl
theorem km_X7_9 : Cond.methodLink RX7 9 yX7_nearest ∈ gT := gT_of 74 (by decide +kernel) rfl
theorem kt_X7_nearest : Cond.static yX7_nearest ∈ gT := gT_of 75 (by decide +kernel) rfl
theorem kc_X7_nearest : Cond.code yX7_nearest cX7_nearest 3 (some .int) ∈ gT := gT_of 76 (by decide +kernel) rfl
theorem km_X7_190 : Cond.methodLink RX7 190 Lib.Math.min.name ∈ gT := gT_of 77 (by decide +kernel) rfl
theorem kt_Mmin : Cond.static Lib.Math.min.name ∈ gT := gT_of 78 (by decide +kernel) rfl
theorem kc_Mmin : Cond.code Lib.Math.min.name Lib.Math.min.code 2 (some .int) ∈ gT := gT_of 79 (by decide +kernel) rfl
theorem km_X7_195 : Cond.methodLink RX7 195 Lib.Math.max.name ∈ gT := gT_of 80 (by decide +kernel) rfl
theorem kt_Mmax : Cond.static Lib.Math.max.name ∈ gT := gT_of 81 (by decide +kernel) rfl
theorem kc_Mmax : Cond.code Lib.Math.max.name Lib.Math.max.code 2 (some .int) ∈ gT := gT_of 82 (by decide +kernel) rfl
theorem km_X7_15 : Cond.methodLink RX7 15 yX3_init ∈ gT := gT_of 83 (by decide +kernel) rfl
theorem kn_X3_init : Cond.instanceMethod yX3_init ∈ gT := gT_of 84 (by decide +kernel) rfl
theorem kc_X3_init : Cond.code yX3_init cX3_init 8 none ∈ gT := gT_of 85 (by decide +kernel) rfl
theorem km_X3_3 : Cond.methodLink RX3 3 objectInit ∈ gT := gT_of 86 (by decide +kernel) rfl
theorem kf_X3_9 : Cond.fieldLink RX3 9 "DuneBench$Shape" "wide" "I" ∈ gT := gT_of 87 (by decide +kernel) rfl
theorem kf_X1_107 : Cond.fieldLink RX1 107 "DuneBench$Shape" "wide" "I" ∈ gT := gT_of 88 (by decide +kernel) rfl
theorem kf_X7_158 : Cond.fieldLink RX7 158 "DuneBench$Shape" "wide" "I" ∈ gT := gT_of 89 (by decide +kernel) rfl
theorem kf_X3_15 : Cond.fieldLink RX3 15 "DuneBench$Shape" "high" "I" ∈ gT := gT_of 90 (by decide +kernel) rfl
theorem kf_X1_104 : Cond.fieldLink RX1 104 "DuneBench$Shape" "high" "I" ∈ gT := gT_of 91 (by decide +kernel) rfl
theorem kf_X7_161 : Cond.fieldLink RX7 161 "DuneBench$Shape" "high" "I" ∈ gT := gT_of 92 (by decide +kernel) rfl
theorem kf_X3_18 : Cond.fieldLink RX3 18 "DuneBench$Shape" "cells" "I" ∈ gT := gT_of 93 (by decide +kernel) rfl
theorem kf_X1_40 : Cond.fieldLink RX1 40 "DuneBench$Shape" "cells" "I" ∈ gT := gT_of 94 (by decide +kernel) rfl
theorem kf_X3_21 : Cond.fieldLink RX3 21 "DuneBench$Shape" "neighbours" "[I" ∈ gT := gT_of 95 (by decide +kernel) rfl
theorem ka_int : Cond.arrayClass .int ∈ gT := gT_of 105 (by decide +kernel) rfl
theorem kl_X7_22 : Cond.classLink RX7 22 RX1 ∈ gT := gT_of 106 (by decide +kernel) rfl
theorem kb_X1 : Cond.instantiable RX1 16 ∈ gT := gT_of 107 (by decide +kernel) rfl
theorem km_X7_24 : Cond.methodLink RX7 24 yX1_init ∈ gT := gT_of 108 (by decide +kernel) rfl
theorem kn_X1_init : Cond.instanceMethod yX1_init ∈ gT := gT_of 109 (by decide +kernel) rfl
theorem kc_X1_init : Cond.code yX1_init cX1_init 3 none ∈ gT := gT_of 110 (by decide +kernel) rfl
theorem km_X1_3 : Cond.methodLink RX1 3 objectInit ∈ gT := gT_of 111 (by decide +kernel) rfl
theorem kl_X1_9 : Cond.classLink RX1 9 RX0 ∈ gT := gT_of 112 (by decide +kernel) rfl
theorem kb_X0 : Cond.instantiable RX0 1 ∈ gT := gT_of 113 (by decide +kernel) rfl
theorem kn_X0_init : Cond.instanceMethod yX0_init ∈ gT := gT_of 115 (by decide +kernel) rfl
theorem kc_X0_init : Cond.code yX0_init cX0_init 1 none ∈ gT := gT_of 116 (by decide +kernel) rfl
theorem km_X0_3 : Cond.methodLink RX0 3 objectInit ∈ gT := gT_of 117 (by decide +kernel) rfl
theorem kf_X0_9 : Cond.fieldLink RX0 9 "DuneBench$Doubts" "bits" "[J" ∈ gT := gT_of 118 (by decide +kernel) rfl
theorem ka_long : Cond.arrayClass .long ∈ gT := gT_of 122 (by decide +kernel) rfl
theorem kl_X1_25 : Cond.classLink RX1 25 RX5 ∈ gT := gT_of 125 (by decide +kernel) rfl
theorem kb_X5 : Cond.instantiable RX5 5 ∈ gT := gT_of 126 (by decide +kernel) rfl
theorem kn_X5_init : Cond.instanceMethod yX5_init ∈ gT := gT_of 128 (by decide +kernel) rfl
theorem kc_X5_init : Cond.code yX5_init cX5_init 1 none ∈ gT := gT_of 129 (by decide +kernel) rfl
theorem km_X5_3 : Cond.methodLink RX5 3 objectInit ∈ gT := gT_of 130 (by decide +kernel) rfl
theorem kf_X5_9 : Cond.fieldLink RX5 9 "DuneBench$Winds" "wind" "[I" ∈ gT := gT_of 131 (by decide +kernel) rfl
theorem kf_X5_15 : Cond.fieldLink RX5 15 "DuneBench$Winds" "lasting" "[I" ∈ gT := gT_of 132 (by decide +kernel) rfl
theorem kf_X5_18 : Cond.fieldLink RX5 18 "DuneBench$Winds" "count" "I" ∈ gT := gT_of 133 (by decide +kernel) rfl
theorem kf_X7_114 : Cond.fieldLink RX7 114 "DuneBench$Winds" "count" "I" ∈ gT := gT_of 134 (by decide +kernel) rfl
theorem kf_X5_22 : Cond.fieldLink RX5 22 "DuneBench$Winds" "clause" "I" ∈ gT := gT_of 135 (by decide +kernel) rfl
theorem kf_X5_25 : Cond.fieldLink RX5 25 "DuneBench$Winds" "daysOfClause" "I" ∈ gT := gT_of 136 (by decide +kernel) rfl
theorem kt_X7_copyRow : Cond.static yX7_copyRow ∈ gT := gT_of 149 (by decide +kernel) rfl
theorem kc_X7_copyRow : Cond.code yX7_copyRow cX7_copyRow 2 none ∈ gT := gT_of 150 (by decide +kernel) rfl
theorem km_X7_198 : Cond.methodLink RX7 198 arraycopyName ∈ gT := gT_of 151 (by decide +kernel) rfl
theorem kt_acp : Cond.static arraycopyName ∈ gT := gT_of 152 (by decide +kernel) rfl
theorem kv_acp : Cond.native arraycopyName ∈ gT := gT_of 153 (by decide +kernel) rfl
theorem kf_X1_36 : Cond.fieldLink RX1 36 "DuneBench$Dunes" "shape" "LDuneBench$Shape;" ∈ gT := gT_of 154 (by decide +kernel) rfl
theorem kf_X1_45 : Cond.fieldLink RX1 45 "DuneBench$Dunes" "heap" "[I" ∈ gT := gT_of 155 (by decide +kernel) rfl
theorem kf_X1_48 : Cond.fieldLink RX1 48 "DuneBench$Dunes" "heapAtSeason" "[I" ∈ gT := gT_of 156 (by decide +kernel) rfl
theorem kf_X1_51 : Cond.fieldLink RX1 51 "DuneBench$Dunes" "grass" "[I" ∈ gT := gT_of 157 (by decide +kernel) rfl
theorem kf_X1_54 : Cond.fieldLink RX1 54 "DuneBench$Dunes" "fence" "[I" ∈ gT := gT_of 158 (by decide +kernel) rfl
theorem kf_X1_57 : Cond.fieldLink RX1 57 "DuneBench$Dunes" "walkers" "[I" ∈ gT := gT_of 159 (by decide +kernel) rfl
theorem kf_X1_60 : Cond.fieldLink RX1 60 "DuneBench$Dunes" "limit" "[I" ∈ gT := gT_of 160 (by decide +kernel) rfl
theorem kf_X1_63 : Cond.fieldLink RX1 63 "DuneBench$Dunes" "reached" "[I" ∈ gT := gT_of 161 (by decide +kernel) rfl
theorem kf_X1_12 : Cond.fieldLink RX1 12 "DuneBench$Dunes" "doubts" "LDuneBench$Doubts;" ∈ gT := gT_of 162 (by decide +kernel) rfl
theorem kf_X1_22 : Cond.fieldLink RX1 22 "DuneBench$Dunes" "rules" "[I" ∈ gT := gT_of 163 (by decide +kernel) rfl
theorem kf_X7_81 : Cond.fieldLink RX7 81 "DuneBench$Dunes" "rules" "[I" ∈ gT := gT_of 164 (by decide +kernel) rfl
theorem kf_X1_28 : Cond.fieldLink RX1 28 "DuneBench$Dunes" "sky" "LDuneBench$Winds;" ∈ gT := gT_of 165 (by decide +kernel) rfl
theorem kf_X7_101 : Cond.fieldLink RX7 101 "DuneBench$Dunes" "sky" "LDuneBench$Winds;" ∈ gT := gT_of 166 (by decide +kernel) rfl
theorem kf_X1_32 : Cond.fieldLink RX1 32 "DuneBench$Dunes" "lots" "I" ∈ gT := gT_of 167 (by decide +kernel) rfl
theorem kf_X7_87 : Cond.fieldLink RX7 87 "DuneBench$Dunes" "lots" "I" ∈ gT := gT_of 168 (by decide +kernel) rfl
theorem kf_X1_74 : Cond.fieldLink RX1 74 "DuneBench$Dunes" "day" "I" ∈ gT := gT_of 169 (by decide +kernel) rfl
theorem kf_X7_129 : Cond.fieldLink RX7 129 "DuneBench$Dunes" "day" "I" ∈ gT := gT_of 170 (by decide +kernel) rfl
theorem kf_X1_77 : Cond.fieldLink RX1 77 "DuneBench$Dunes" "lostToSea" "I" ∈ gT := gT_of 171 (by decide +kernel) rfl
theorem kf_X7_168 : Cond.fieldLink RX7 168 "DuneBench$Dunes" "lostToSea" "I" ∈ gT := gT_of 172 (by decide +kernel) rfl
theorem kf_X1_80 : Cond.fieldLink RX1 80 "DuneBench$Dunes" "lostInland" "I" ∈ gT := gT_of 173 (by decide +kernel) rfl
theorem kf_X7_171 : Cond.fieldLink RX7 171 "DuneBench$Dunes" "lostInland" "I" ∈ gT := gT_of 174 (by decide +kernel) rfl
theorem kf_X1_83 : Cond.fieldLink RX1 83 "DuneBench$Dunes" "supplied" "I" ∈ gT := gT_of 175 (by decide +kernel) rfl
theorem kf_X7_174 : Cond.fieldLink RX7 174 "DuneBench$Dunes" "supplied" "I" ∈ gT := gT_of 176 (by decide +kernel) rfl
theorem kl_X7_37 : Cond.classLink RX7 37 RX4 ∈ gT := gT_of 210 (by decide +kernel) rfl
theorem kb_X4 : Cond.instantiable RX4 5 ∈ gT := gT_of 211 (by decide +kernel) rfl
theorem kn_X4_init : Cond.instanceMethod yX4_init ∈ gT := gT_of 213 (by decide +kernel) rfl
theorem kc_X4_init : Cond.code yX4_init cX4_init 1 none ∈ gT := gT_of 214 (by decide +kernel) rfl
theorem km_X4_3 : Cond.methodLink RX4 3 objectInit ∈ gT := gT_of 215 (by decide +kernel) rfl
theorem kl_X4_22 : Cond.classLink RX4 22 RX5 ∈ gT := gT_of 216 (by decide +kernel) rfl
theorem kf_X4_9 : Cond.fieldLink RX4 9 "DuneBench$WindTape" "bytes" "[B" ∈ gT := gT_of 218 (by decide +kernel) rfl
theorem kf_X4_29 : Cond.fieldLink RX4 29 "DuneBench$WindTape" "length" "I" ∈ gT := gT_of 219 (by decide +kernel) rfl
theorem kf_X7_90 : Cond.fieldLink RX7 90 "DuneBench$WindTape" "length" "I" ∈ gT := gT_of 220 (by decide +kernel) rfl
theorem kf_X4_15 : Cond.fieldLink RX4 15 "DuneBench$WindTape" "faultKind" "I" ∈ gT := gT_of 221 (by decide +kernel) rfl
theorem kf_X7_117 : Cond.fieldLink RX7 117 "DuneBench$WindTape" "faultKind" "I" ∈ gT := gT_of 222 (by decide +kernel) rfl
theorem kf_X4_19 : Cond.fieldLink RX4 19 "DuneBench$WindTape" "faultPlace" "I" ∈ gT := gT_of 223 (by decide +kernel) rfl
theorem kf_X7_120 : Cond.fieldLink RX7 120 "DuneBench$WindTape" "faultPlace" "I" ∈ gT := gT_of 224 (by decide +kernel) rfl
theorem kf_X4_25 : Cond.fieldLink RX4 25 "DuneBench$WindTape" "draft" "LDuneBench$Winds;" ∈ gT := gT_of 225 (by decide +kernel) rfl
theorem kf_X7_105 : Cond.fieldLink RX7 105 "DuneBench$WindTape" "draft" "LDuneBench$Winds;" ∈ gT := gT_of 226 (by decide +kernel) rfl
theorem ka_byte : Cond.arrayClass .byte ∈ gT := gT_of 238 (by decide +kernel) rfl
theorem kl_X7_44 : Cond.classLink RX7 44 RX6 ∈ gT := gT_of 239 (by decide +kernel) rfl
theorem kb_X6 : Cond.instantiable RX6 5 ∈ gT := gT_of 240 (by decide +kernel) rfl
theorem kn_X6_init : Cond.instanceMethod yX6_init ∈ gT := gT_of 242 (by decide +kernel) rfl
theorem kc_X6_init : Cond.code yX6_init cX6_init 1 none ∈ gT := gT_of 243 (by decide +kernel) rfl
theorem km_X6_3 : Cond.methodLink RX6 3 objectInit ∈ gT := gT_of 244 (by decide +kernel) rfl
theorem kf_X6_9 : Cond.fieldLink RX6 9 "DuneBench$Works" "kinds" "[I" ∈ gT := gT_of 245 (by decide +kernel) rfl
theorem kf_X6_15 : Cond.fieldLink RX6 15 "DuneBench$Works" "cells" "[I" ∈ gT := gT_of 246 (by decide +kernel) rfl
theorem kf_X6_18 : Cond.fieldLink RX6 18 "DuneBench$Works" "amounts" "[I" ∈ gT := gT_of 247 (by decide +kernel) rfl
theorem kf_X6_21 : Cond.fieldLink RX6 21 "DuneBench$Works" "costs" "[I" ∈ gT := gT_of 248 (by decide +kernel) rfl
theorem kf_X6_24 : Cond.fieldLink RX6 24 "DuneBench$Works" "count" "I" ∈ gT := gT_of 249 (by decide +kernel) rfl
theorem kf_X7_144 : Cond.fieldLink RX7 144 "DuneBench$Works" "count" "I" ∈ gT := gT_of 250 (by decide +kernel) rfl
theorem kl_X7_51 : Cond.classLink RX7 51 RX2 ∈ gT := gT_of 262 (by decide +kernel) rfl
theorem kb_X2 : Cond.instantiable RX2 4 ∈ gT := gT_of 263 (by decide +kernel) rfl
theorem kn_X2_init : Cond.instanceMethod yX2_init ∈ gT := gT_of 265 (by decide +kernel) rfl
theorem kc_X2_init : Cond.code yX2_init cX2_init 1 none ∈ gT := gT_of 266 (by decide +kernel) rfl
theorem km_X2_3 : Cond.methodLink RX2 3 objectInit ∈ gT := gT_of 267 (by decide +kernel) rfl
theorem kf_X2_9 : Cond.fieldLink RX2 9 "DuneBench$Flights" "cells" "[I" ∈ gT := gT_of 268 (by decide +kernel) rfl
theorem kf_X2_15 : Cond.fieldLink RX2 15 "DuneBench$Flights" "seen" "[I" ∈ gT := gT_of 269 (by decide +kernel) rfl
theorem kf_X2_18 : Cond.fieldLink RX2 18 "DuneBench$Flights" "miss" "[I" ∈ gT := gT_of 270 (by decide +kernel) rfl
theorem kf_X2_21 : Cond.fieldLink RX2 21 "DuneBench$Flights" "count" "I" ∈ gT := gT_of 271 (by decide +kernel) rfl
theorem kf_X7_151 : Cond.fieldLink RX7 151 "DuneBench$Flights" "count" "I" ∈ gT := gT_of 272 (by decide +kernel) rfl
theorem kf_X7_18 : Cond.fieldLink RX7 18 "DuneBench" "shape" "LDuneBench$Shape;" ∈ gT := gT_of 282 (by decide +kernel) rfl
theorem kf_X7_27 : Cond.fieldLink RX7 27 "DuneBench" "now" "LDuneBench$Dunes;" ∈ gT := gT_of 283 (by decide +kernel) rfl
theorem kf_X7_31 : Cond.fieldLink RX7 31 "DuneBench" "marked" "LDuneBench$Dunes;" ∈ gT := gT_of 284 (by decide +kernel) rfl
theorem kf_X7_34 : Cond.fieldLink RX7 34 "DuneBench" "trial" "LDuneBench$Dunes;" ∈ gT := gT_of 285 (by decide +kernel) rfl
theorem kf_X7_40 : Cond.fieldLink RX7 40 "DuneBench" "tape" "LDuneBench$WindTape;" ∈ gT := gT_of 286 (by decide +kernel) rfl
theorem kf_X7_47 : Cond.fieldLink RX7 47 "DuneBench" "works" "LDuneBench$Works;" ∈ gT := gT_of 287 (by decide +kernel) rfl
theorem kf_X7_54 : Cond.fieldLink RX7 54 "DuneBench" "flights" "LDuneBench$Flights;" ∈ gT := gT_of 288 (by decide +kernel) rfl
theorem kf_X7_58 : Cond.fieldLink RX7 58 "DuneBench" "fewestGrains" "I" ∈ gT := gT_of 289 (by decide +kernel) rfl
theorem km_L_21 : Cond.methodLink RL 21 yX7_heap ∈ gT := gT_of 307 (by decide +kernel) rfl
theorem kn_X7_heap : Cond.instanceMethod yX7_heap ∈ gT := gT_of 308 (by decide +kernel) rfl
theorem ks_X7_heap : Cond.selects RX7 yX7_heap yX7_heap ∈ gT := gT_of 309 (by decide +kernel) rfl
theorem kc_X7_heap : Cond.code yX7_heap cX7_heap 3 (some .boolean) ∈ gT := gT_of 310 (by decide +kernel) rfl
theorem km_X7_62 : Cond.methodLink RX7 62 yX3_has ∈ gT := gT_of 311 (by decide +kernel) rfl
theorem kn_X3_has : Cond.instanceMethod yX3_has ∈ gT := gT_of 312 (by decide +kernel) rfl
theorem ks_X3_has : Cond.selects RX3 yX3_has yX3_has ∈ gT := gT_of 313 (by decide +kernel) rfl
theorem kc_X3_has : Cond.code yX3_has cX3_has 2 (some .boolean) ∈ gT := gT_of 314 (by decide +kernel) rfl
theorem km_X7_66 : Cond.methodLink RX7 66 yX7_isWithin ∈ gT := gT_of 315 (by decide +kernel) rfl
theorem kt_X7_isWithin : Cond.static yX7_isWithin ∈ gT := gT_of 316 (by decide +kernel) rfl
theorem kc_X7_isWithin : Cond.code yX7_isWithin cX7_isWithin 3 (some .boolean) ∈ gT := gT_of 317 (by decide +kernel) rfl
theorem km_X7_70 : Cond.methodLink RX7 70 yX1_pile ∈ gT := gT_of 318 (by decide +kernel) rfl
theorem kn_X1_pile : Cond.instanceMethod yX1_pile ∈ gT := gT_of 319 (by decide +kernel) rfl
theorem ks_X1_pile : Cond.selects RX1 yX1_pile yX1_pile ∈ gT := gT_of 320 (by decide +kernel) rfl
theorem kc_X1_pile : Cond.code yX1_pile cX1_pile 3 none ∈ gT := gT_of 321 (by decide +kernel) rfl
theorem km_X1_86 : Cond.methodLink RX1 86 yX3_has ∈ gT := gT_of 322 (by decide +kernel) rfl
theorem km_X1_90 : Cond.methodLink RX1 90 yX1_doubtAbove ∈ gT := gT_of 323 (by decide +kernel) rfl
theorem kn_X1_doubtAbove : Cond.instanceMethod yX1_doubtAbove ∈ gT := gT_of 325 (by decide +kernel) rfl
theorem kc_X1_doubtAbove : Cond.code yX1_doubtAbove cX1_doubtAbove 4 none ∈ gT := gT_of 326 (by decide +kernel) rfl
theorem km_X1_119 : Cond.methodLink RX1 119 yX3_beside ∈ gT := gT_of 327 (by decide +kernel) rfl
theorem kn_X3_beside : Cond.instanceMethod yX3_beside ∈ gT := gT_of 328 (by decide +kernel) rfl
theorem ks_X3_beside : Cond.selects RX3 yX3_beside yX3_beside ∈ gT := gT_of 329 (by decide +kernel) rfl
theorem kc_X3_beside : Cond.code yX3_beside cX3_beside 4 (some .int) ∈ gT := gT_of 330 (by decide +kernel) rfl
theorem km_X1_94 : Cond.methodLink RX1 94 yX0_add ∈ gT := gT_of 331 (by decide +kernel) rfl
theorem kn_X0_add : Cond.instanceMethod yX0_add ∈ gT := gT_of 332 (by decide +kernel) rfl
theorem ks_X0_add : Cond.selects RX0 yX0_add yX0_add ∈ gT := gT_of 333 (by decide +kernel) rfl
theorem kc_X0_add : Cond.code yX0_add cX0_add 3 none ∈ gT := gT_of 334 (by decide +kernel) rfl
theorem km_X1_97 : Cond.methodLink RX1 97 yX1_settle ∈ gT := gT_of 335 (by decide +kernel) rfl
theorem kn_X1_settle : Cond.instanceMethod yX1_settle ∈ gT := gT_of 337 (by decide +kernel) rfl
theorem kc_X1_settle : Cond.code yX1_settle cX1_settle 4 none ∈ gT := gT_of 338 (by decide +kernel) rfl
theorem kk_X1_122 : Cond.constant RX1 122 (2000000000) ∈ gT := gT_of 339 (by decide +kernel) rfl
theorem km_X1_123 : Cond.methodLink RX1 123 yX0_lowest ∈ gT := gT_of 340 (by decide +kernel) rfl
theorem kn_X0_lowest : Cond.instanceMethod yX0_lowest ∈ gT := gT_of 341 (by decide +kernel) rfl
theorem ks_X0_lowest : Cond.selects RX0 yX0_lowest yX0_lowest ∈ gT := gT_of 342 (by decide +kernel) rfl
theorem kc_X0_lowest : Cond.code yX0_lowest cX0_lowest 4 (some .int) ∈ gT := gT_of 343 (by decide +kernel) rfl
theorem km_X0_17 : Cond.methodLink RX0 17 yJ13_bitCount_95d88 ∈ gT := gT_of 344 (by decide +kernel) rfl
theorem kt_J13_bitCount_95d88 : Cond.static yJ13_bitCount_95d88 ∈ gT := gT_of 345 (by decide +kernel) rfl
theorem kc_J13_bitCount_95d88 : Cond.code yJ13_bitCount_95d88 cJ13_bitCount_95d88 2 (some .int) ∈ gT := gT_of 346 (by decide +kernel) rfl
theorem kk_J13_314 : Cond.constantLong RJ13 314 (6148914691236517205) ∈ gT := gT_of 347 (by decide +kernel) rfl
theorem kk_J13_316 : Cond.constantLong RJ13 316 (3689348814741910323) ∈ gT := gT_of 348 (by decide +kernel) rfl
theorem kk_J13_318 : Cond.constantLong RJ13 318 (1085102592571150095) ∈ gT := gT_of 349 (by decide +kernel) rfl
theorem km_X1_127 : Cond.methodLink RX1 127 yX1_lowestBeside ∈ gT := gT_of 350 (by decide +kernel) rfl
theorem kn_X1_lowestBeside : Cond.instanceMethod yX1_lowestBeside ∈ gT := gT_of 352 (by decide +kernel) rfl
theorem kc_X1_lowestBeside : Cond.code yX1_lowestBeside cX1_lowestBeside 5 (some .int) ∈ gT := gT_of 353 (by decide +kernel) rfl
theorem km_X1_131 : Cond.methodLink RX1 131 yX0_remove ∈ gT := gT_of 354 (by decide +kernel) rfl
theorem kn_X0_remove : Cond.instanceMethod yX0_remove ∈ gT := gT_of 355 (by decide +kernel) rfl
theorem ks_X0_remove : Cond.selects RX0 yX0_remove yX0_remove ∈ gT := gT_of 356 (by decide +kernel) rfl
theorem kc_X0_remove : Cond.code yX0_remove cX0_remove 3 none ∈ gT := gT_of 357 (by decide +kernel) rfl
theorem kk_X0_15 : Cond.constantLong RX0 15 (-1) ∈ gT := gT_of 358 (by decide +kernel) rfl
theorem km_L_26 : Cond.methodLink RL 26 yX7_lay ∈ gT := gT_of 359 (by decide +kernel) rfl
theorem kn_X7_lay : Cond.instanceMethod yX7_lay ∈ gT := gT_of 360 (by decide +kernel) rfl
theorem ks_X7_lay : Cond.selects RX7 yX7_lay yX7_lay ∈ gT := gT_of 361 (by decide +kernel) rfl
theorem kc_X7_lay : Cond.code yX7_lay cX7_lay 4 (some .boolean) ∈ gT := gT_of 362 (by decide +kernel) rfl
theorem kf_X7_73 : Cond.fieldLink RX7 73 "DuneBench" "MOST_LAID" "[I" ∈ gT := gT_of 363 (by decide +kernel) rfl
theorem km_X7_77 : Cond.methodLink RX7 77 yX1_put ∈ gT := gT_of 365 (by decide +kernel) rfl
theorem kn_X1_put : Cond.instanceMethod yX1_put ∈ gT := gT_of 366 (by decide +kernel) rfl
theorem ks_X1_put : Cond.selects RX1 yX1_put yX1_put ∈ gT := gT_of 367 (by decide +kernel) rfl
theorem kc_X1_put : Cond.code yX1_put cX1_put 4 none ∈ gT := gT_of 368 (by decide +kernel) rfl
theorem km_L_31 : Cond.methodLink RL 31 yX7_rules ∈ gT := gT_of 369 (by decide +kernel) rfl
theorem kn_X7_rules : Cond.instanceMethod yX7_rules ∈ gT := gT_of 370 (by decide +kernel) rfl
theorem ks_X7_rules : Cond.selects RX7 yX7_rules yX7_rules ∈ gT := gT_of 371 (by decide +kernel) rfl
theorem kc_X7_rules : Cond.code yX7_rules cX7_rules 6 (some .boolean) ∈ gT := gT_of 372 (by decide +kernel) rfl
theorem km_X7_84 : Cond.methodLink RX7 84 yX1_settleAll ∈ gT := gT_of 373 (by decide +kernel) rfl
theorem kn_X1_settleAll : Cond.instanceMethod yX1_settleAll ∈ gT := gT_of 374 (by decide +kernel) rfl
theorem ks_X1_settleAll : Cond.selects RX1 yX1_settleAll yX1_settleAll ∈ gT := gT_of 375 (by decide +kernel) rfl
theorem kc_X1_settleAll : Cond.code yX1_settleAll cX1_settleAll 2 none ∈ gT := gT_of 376 (by decide +kernel) rfl
theorem km_L_36 : Cond.methodLink RL 36 yX7_seed ∈ gT := gT_of 377 (by decide +kernel) rfl
theorem kn_X7_seed : Cond.instanceMethod yX7_seed ∈ gT := gT_of 378 (by decide +kernel) rfl
theorem ks_X7_seed : Cond.selects RX7 yX7_seed yX7_seed ∈ gT := gT_of 379 (by decide +kernel) rfl
theorem kc_X7_seed : Cond.code yX7_seed cX7_seed 2 none ∈ gT := gT_of 380 (by decide +kernel) rfl
theorem km_L_41 : Cond.methodLink RL 41 yX7_feed ∈ gT := gT_of 381 (by decide +kernel) rfl
theorem kn_X7_feed : Cond.instanceMethod yX7_feed ∈ gT := gT_of 382 (by decide +kernel) rfl
theorem ks_X7_feed : Cond.selects RX7 yX7_feed yX7_feed ∈ gT := gT_of 383 (by decide +kernel) rfl
theorem kc_X7_feed : Cond.code yX7_feed cX7_feed 6 (some .int) ∈ gT := gT_of 384 (by decide +kernel) rfl
theorem km_X7_93 : Cond.methodLink RX7 93 yX4_append ∈ gT := gT_of 385 (by decide +kernel) rfl
theorem kn_X4_append : Cond.instanceMethod yX4_append ∈ gT := gT_of 386 (by decide +kernel) rfl
theorem ks_X4_append : Cond.selects RX4 yX4_append yX4_append ∈ gT := gT_of 387 (by decide +kernel) rfl
theorem kc_X4_append : Cond.code yX4_append cX4_append 3 none ∈ gT := gT_of 388 (by decide +kernel) rfl
theorem km_L_46 : Cond.methodLink RL 46 yX7_end ∈ gT := gT_of 389 (by decide +kernel) rfl
theorem kn_X7_end : Cond.instanceMethod yX7_end ∈ gT := gT_of 390 (by decide +kernel) rfl
theorem ks_X7_end : Cond.selects RX7 yX7_end yX7_end ∈ gT := gT_of 391 (by decide +kernel) rfl
theorem kc_X7_end : Cond.code yX7_end cX7_end 2 (some .int) ∈ gT := gT_of 392 (by decide +kernel) rfl
theorem km_L_51 : Cond.methodLink RL 51 yX7_winds ∈ gT := gT_of 393 (by decide +kernel) rfl
theorem kn_X7_winds : Cond.instanceMethod yX7_winds ∈ gT := gT_of 394 (by decide +kernel) rfl
theorem ks_X7_winds : Cond.selects RX7 yX7_winds yX7_winds ∈ gT := gT_of 395 (by decide +kernel) rfl
theorem kc_X7_winds : Cond.code yX7_winds cX7_winds 2 (some .int) ∈ gT := gT_of 396 (by decide +kernel) rfl
theorem km_X7_97 : Cond.methodLink RX7 97 yX4_read ∈ gT := gT_of 397 (by decide +kernel) rfl
theorem kn_X4_read : Cond.instanceMethod yX4_read ∈ gT := gT_of 398 (by decide +kernel) rfl
theorem ks_X4_read : Cond.selects RX4 yX4_read yX4_read ∈ gT := gT_of 399 (by decide +kernel) rfl
theorem kc_X4_read : Cond.code yX4_read cX4_read 7 (some .boolean) ∈ gT := gT_of 400 (by decide +kernel) rfl
theorem km_X4_32 : Cond.methodLink RX4 32 yX5_clear ∈ gT := gT_of 401 (by decide +kernel) rfl
theorem kn_X5_clear : Cond.instanceMethod yX5_clear ∈ gT := gT_of 402 (by decide +kernel) rfl
theorem ks_X5_clear : Cond.selects RX5 yX5_clear yX5_clear ∈ gT := gT_of 403 (by decide +kernel) rfl
theorem kc_X5_clear : Cond.code yX5_clear cX5_clear 1 none ∈ gT := gT_of 404 (by decide +kernel) rfl
theorem km_X4_35 : Cond.methodLink RX4 35 yX4_afterBlanks ∈ gT := gT_of 405 (by decide +kernel) rfl
theorem kn_X4_afterBlanks : Cond.instanceMethod yX4_afterBlanks ∈ gT := gT_of 407 (by decide +kernel) rfl
theorem kc_X4_afterBlanks : Cond.code yX4_afterBlanks cX4_afterBlanks 3 (some .int) ∈ gT := gT_of 408 (by decide +kernel) rfl
theorem km_X4_65 : Cond.methodLink RX4 65 yX4_byteAt ∈ gT := gT_of 409 (by decide +kernel) rfl
theorem kn_X4_byteAt : Cond.instanceMethod yX4_byteAt ∈ gT := gT_of 411 (by decide +kernel) rfl
theorem kc_X4_byteAt : Cond.code yX4_byteAt cX4_byteAt 2 (some .int) ∈ gT := gT_of 412 (by decide +kernel) rfl
theorem km_X4_39 : Cond.methodLink RX4 39 yX4_tokenEnd ∈ gT := gT_of 413 (by decide +kernel) rfl
theorem kn_X4_tokenEnd : Cond.instanceMethod yX4_tokenEnd ∈ gT := gT_of 415 (by decide +kernel) rfl
theorem kc_X4_tokenEnd : Cond.code yX4_tokenEnd cX4_tokenEnd 3 (some .int) ∈ gT := gT_of 416 (by decide +kernel) rfl
theorem km_X4_76 : Cond.methodLink RX4 76 yX4_isLetter ∈ gT := gT_of 417 (by decide +kernel) rfl
theorem kt_X4_isLetter : Cond.static yX4_isLetter ∈ gT := gT_of 418 (by decide +kernel) rfl
theorem kc_X4_isLetter : Cond.code yX4_isLetter cX4_isLetter 1 (some .boolean) ∈ gT := gT_of 419 (by decide +kernel) rfl
theorem km_X4_68 : Cond.methodLink RX4 68 yX4_isDigit ∈ gT := gT_of 421 (by decide +kernel) rfl
theorem kt_X4_isDigit : Cond.static yX4_isDigit ∈ gT := gT_of 422 (by decide +kernel) rfl
theorem kc_X4_isDigit : Cond.code yX4_isDigit cX4_isDigit 1 (some .boolean) ∈ gT := gT_of 423 (by decide +kernel) rfl
theorem km_X4_42 : Cond.methodLink RX4 42 yX4_faultOf ∈ gT := gT_of 424 (by decide +kernel) rfl
theorem kn_X4_faultOf : Cond.instanceMethod yX4_faultOf ∈ gT := gT_of 426 (by decide +kernel) rfl
theorem kc_X4_faultOf : Cond.code yX4_faultOf cX4_faultOf 4 (some .int) ∈ gT := gT_of 427 (by decide +kernel) rfl
theorem km_X4_50 : Cond.methodLink RX4 50 yX4_windOf ∈ gT := gT_of 428 (by decide +kernel) rfl
theorem kn_X4_windOf : Cond.instanceMethod yX4_windOf ∈ gT := gT_of 430 (by decide +kernel) rfl
theorem kc_X4_windOf : Cond.code yX4_windOf cX4_windOf 4 (some .int) ∈ gT := gT_of 431 (by decide +kernel) rfl
theorem km_X4_79 : Cond.methodLink RX4 79 yX4_nameOf ∈ gT := gT_of 432 (by decide +kernel) rfl
theorem kt_X4_nameOf : Cond.static yX4_nameOf ∈ gT := gT_of 433 (by decide +kernel) rfl
theorem kc_X4_nameOf : Cond.code yX4_nameOf cX4_nameOf 1 ((Option.some (FieldType.object "java/lang/String"))) ∈ gT := gT_of 434 (by decide +kernel) rfl
theorem km_X4_83 : Cond.methodLink RX4 83 yX4_isWord ∈ gT := gT_of 440 (by decide +kernel) rfl
theorem kn_X4_isWord : Cond.instanceMethod yX4_isWord ∈ gT := gT_of 442 (by decide +kernel) rfl
theorem kc_X4_isWord : Cond.code yX4_isWord cX4_isWord 5 (some .boolean) ∈ gT := gT_of 443 (by decide +kernel) rfl
theorem km_X4_87 : Cond.methodLink RX4 87 yJ0_length_8abf5 ∈ gT := gT_of 444 (by decide +kernel) rfl
theorem kn_J0_length_8abf5 : Cond.instanceMethod yJ0_length_8abf5 ∈ gT := gT_of 445 (by decide +kernel) rfl
theorem ks_J0_length_8abf5 : Cond.selects RJ0 yJ0_length_8abf5 yJ0_length_8abf5 ∈ gT := gT_of 446 (by decide +kernel) rfl
theorem kc_J0_length_8abf5 : Cond.code yJ0_length_8abf5 cJ0_length_8abf5 1 (some .int) ∈ gT := gT_of 447 (by decide +kernel) rfl
theorem km_J0_335 : Cond.methodLink RJ0 335 yJ0_coder_7d493 ∈ gT := gT_of 448 (by decide +kernel) rfl
theorem kn_J0_coder_7d493 : Cond.instanceMethod yJ0_coder_7d493 ∈ gT := gT_of 449 (by decide +kernel) rfl
theorem ks_J0_coder_7d493 : Cond.selects RJ0 yJ0_coder_7d493 yJ0_coder_7d493 ∈ gT := gT_of 450 (by decide +kernel) rfl
theorem kc_J0_coder_7d493 : Cond.code yJ0_coder_7d493 cJ0_coder_7d493 1 (some .byte) ∈ gT := gT_of 451 (by decide +kernel) rfl
theorem kf_J0_38 : Cond.fieldLink RJ0 38 "java/lang/String" "COMPACT_STRINGS" "Z" ∈ gT := gT_of 452 (by decide +kernel) rfl
theorem km_X4_92 : Cond.methodLink RX4 92 yJ0_charAt_5068e ∈ gT := gT_of 454 (by decide +kernel) rfl
theorem kn_J0_charAt_5068e : Cond.instanceMethod yJ0_charAt_5068e ∈ gT := gT_of 455 (by decide +kernel) rfl
theorem ks_J0_charAt_5068e : Cond.selects RJ0 yJ0_charAt_5068e yJ0_charAt_5068e ∈ gT := gT_of 456 (by decide +kernel) rfl
theorem kc_J0_charAt_5068e : Cond.code yJ0_charAt_5068e cJ0_charAt_5068e 2 (some .char) ∈ gT := gT_of 457 (by decide +kernel) rfl
theorem km_J0_492 : Cond.methodLink RJ0 492 yJ0_isLatin1_aae02 ∈ gT := gT_of 458 (by decide +kernel) rfl
theorem kn_J0_isLatin1_aae02 : Cond.instanceMethod yJ0_isLatin1_aae02 ∈ gT := gT_of 459 (by decide +kernel) rfl
theorem ks_J0_isLatin1_aae02 : Cond.selects RJ0 yJ0_isLatin1_aae02 yJ0_isLatin1_aae02 ∈ gT := gT_of 460 (by decide +kernel) rfl
theorem kc_J0_isLatin1_aae02 : Cond.code yJ0_isLatin1_aae02 cJ0_isLatin1_aae02 1 (some .boolean) ∈ gT := gT_of 461 (by decide +kernel) rfl
theorem km_J0_495 : Cond.methodLink RJ0 495 yJ1_charAt_3b067 ∈ gT := gT_of 462 (by decide +kernel) rfl
theorem kt_J1_charAt_3b067 : Cond.static yJ1_charAt_3b067 ∈ gT := gT_of 463 (by decide +kernel) rfl
theorem kc_J1_charAt_3b067 : Cond.code yJ1_charAt_3b067 cJ1_charAt_3b067 2 (some .char) ∈ gT := gT_of 464 (by decide +kernel) rfl
theorem km_J1_9 : Cond.methodLink RJ1 9 yJ0_checkIndex_df160 ∈ gT := gT_of 465 (by decide +kernel) rfl
theorem kt_J0_checkIndex_df160 : Cond.static yJ0_checkIndex_df160 ∈ gT := gT_of 466 (by decide +kernel) rfl
theorem kc_J0_checkIndex_df160 : Cond.code yJ0_checkIndex_df160 cJ0_checkIndex_df160 2 none ∈ gT := gT_of 467 (by decide +kernel) rfl
theorem kf_J0_1053 : Cond.fieldLink RJ0 1053 "jdk/internal/util/Preconditions" "SIOOBE_FORMATTER" "Ljava/util/function/BiFunction;" ∈ gT := gT_of 468 (by decide +kernel) rfl
theorem km_J0_1059 : Cond.methodLink RJ0 1059 yJ3_checkIndex_8e157 ∈ gT := gT_of 470 (by decide +kernel) rfl
theorem kt_J3_checkIndex_8e157 : Cond.static yJ3_checkIndex_8e157 ∈ gT := gT_of 471 (by decide +kernel) rfl
theorem kc_J3_checkIndex_8e157 : Cond.code yJ3_checkIndex_8e157 cJ3_checkIndex_8e157 3 (some .int) ∈ gT := gT_of 472 (by decide +kernel) rfl
theorem km_J0_498 : Cond.methodLink RJ0 498 yJ2_charAt_3b067 ∈ gT := gT_of 473 (by decide +kernel) rfl
theorem kt_J2_charAt_3b067 : Cond.static yJ2_charAt_3b067 ∈ gT := gT_of 474 (by decide +kernel) rfl
theorem kc_J2_charAt_3b067 : Cond.code yJ2_charAt_3b067 cJ2_charAt_3b067 2 (some .char) ∈ gT := gT_of 475 (by decide +kernel) rfl
theorem km_J2_67 : Cond.methodLink RJ2 67 yJ2_checkIndex_2214a ∈ gT := gT_of 476 (by decide +kernel) rfl
theorem kt_J2_checkIndex_2214a : Cond.static yJ2_checkIndex_2214a ∈ gT := gT_of 477 (by decide +kernel) rfl
theorem kc_J2_checkIndex_2214a : Cond.code yJ2_checkIndex_2214a cJ2_checkIndex_2214a 2 none ∈ gT := gT_of 478 (by decide +kernel) rfl
theorem km_J2_48 : Cond.methodLink RJ2 48 yJ2_length_9d52b ∈ gT := gT_of 479 (by decide +kernel) rfl
theorem kt_J2_length_9d52b : Cond.static yJ2_length_9d52b ∈ gT := gT_of 480 (by decide +kernel) rfl
theorem kc_J2_length_9d52b : Cond.code yJ2_length_9d52b cJ2_length_9d52b 1 (some .int) ∈ gT := gT_of 481 (by decide +kernel) rfl
theorem km_J2_414 : Cond.methodLink RJ2 414 yJ0_checkIndex_df160 ∈ gT := gT_of 482 (by decide +kernel) rfl
theorem km_J2_71 : Cond.methodLink RJ2 71 yJ2_getChar_3b067 ∈ gT := gT_of 483 (by decide +kernel) rfl
theorem kt_J2_getChar_3b067 : Cond.static yJ2_getChar_3b067 ∈ gT := gT_of 484 (by decide +kernel) rfl
theorem kc_J2_getChar_3b067 : Cond.code yJ2_getChar_3b067 cJ2_getChar_3b067 2 (some .char) ∈ gT := gT_of 485 (by decide +kernel) rfl
theorem kf_J2_44 : Cond.fieldLink RJ2 44 "java/lang/StringUTF16" "$assertionsDisabled" "Z" ∈ gT := gT_of 486 (by decide +kernel) rfl
theorem kf_J2_59 : Cond.fieldLink RJ2 59 "java/lang/StringUTF16" "HI_BYTE_SHIFT" "I" ∈ gT := gT_of 488 (by decide +kernel) rfl
theorem kf_J2_63 : Cond.fieldLink RJ2 63 "java/lang/StringUTF16" "LO_BYTE_SHIFT" "I" ∈ gT := gT_of 490 (by decide +kernel) rfl
theorem km_X4_61 : Cond.methodLink RX4 61 yX5_isFull ∈ gT := gT_of 492 (by decide +kernel) rfl
theorem kn_X5_isFull : Cond.instanceMethod yX5_isFull ∈ gT := gT_of 493 (by decide +kernel) rfl
theorem ks_X5_isFull : Cond.selects RX5 yX5_isFull yX5_isFull ∈ gT := gT_of 494 (by decide +kernel) rfl
theorem kc_X5_isFull : Cond.code yX5_isFull cX5_isFull 1 (some .boolean) ∈ gT := gT_of 495 (by decide +kernel) rfl
theorem km_X4_54 : Cond.methodLink RX4 54 yX4_numberOf ∈ gT := gT_of 496 (by decide +kernel) rfl
theorem kn_X4_numberOf : Cond.instanceMethod yX4_numberOf ∈ gT := gT_of 498 (by decide +kernel) rfl
theorem kc_X4_numberOf : Cond.code yX4_numberOf cX4_numberOf 5 (some .int) ∈ gT := gT_of 499 (by decide +kernel) rfl
theorem km_X4_96 : Cond.methodLink RX4 96 Lib.Math.min.name ∈ gT := gT_of 500 (by decide +kernel) rfl
theorem km_X4_46 : Cond.methodLink RX4 46 yX4_tell ∈ gT := gT_of 501 (by decide +kernel) rfl
theorem kn_X4_tell : Cond.instanceMethod yX4_tell ∈ gT := gT_of 503 (by decide +kernel) rfl
theorem kc_X4_tell : Cond.code yX4_tell cX4_tell 3 (some .boolean) ∈ gT := gT_of 504 (by decide +kernel) rfl
theorem km_X4_57 : Cond.methodLink RX4 57 yX5_add ∈ gT := gT_of 505 (by decide +kernel) rfl
theorem kn_X5_add : Cond.instanceMethod yX5_add ∈ gT := gT_of 506 (by decide +kernel) rfl
theorem ks_X5_add : Cond.selects RX5 yX5_add yX5_add ∈ gT := gT_of 507 (by decide +kernel) rfl
theorem kc_X5_add : Cond.code yX5_add cX5_add 3 none ∈ gT := gT_of 508 (by decide +kernel) rfl
theorem km_X5_28 : Cond.methodLink RX5 28 yX5_isFull ∈ gT := gT_of 509 (by decide +kernel) rfl
theorem km_X7_108 : Cond.methodLink RX7 108 yX5_copyFrom ∈ gT := gT_of 510 (by decide +kernel) rfl
theorem kn_X5_copyFrom : Cond.instanceMethod yX5_copyFrom ∈ gT := gT_of 511 (by decide +kernel) rfl
theorem ks_X5_copyFrom : Cond.selects RX5 yX5_copyFrom yX5_copyFrom ∈ gT := gT_of 512 (by decide +kernel) rfl
theorem kc_X5_copyFrom : Cond.code yX5_copyFrom cX5_copyFrom 2 none ∈ gT := gT_of 513 (by decide +kernel) rfl
theorem km_L_56 : Cond.methodLink RL 56 yX7_fault ∈ gT := gT_of 515 (by decide +kernel) rfl
theorem kn_X7_fault : Cond.instanceMethod yX7_fault ∈ gT := gT_of 516 (by decide +kernel) rfl
theorem ks_X7_fault : Cond.selects RX7 yX7_fault yX7_fault ∈ gT := gT_of 517 (by decide +kernel) rfl
theorem kc_X7_fault : Cond.code yX7_fault cX7_fault 2 (some .int) ∈ gT := gT_of 518 (by decide +kernel) rfl
theorem km_L_60 : Cond.methodLink RL 60 yX7_days ∈ gT := gT_of 519 (by decide +kernel) rfl
theorem kn_X7_days : Cond.instanceMethod yX7_days ∈ gT := gT_of 520 (by decide +kernel) rfl
theorem ks_X7_days : Cond.selects RX7 yX7_days yX7_days ∈ gT := gT_of 521 (by decide +kernel) rfl
theorem kc_X7_days : Cond.code yX7_days cX7_days 2 (some .int) ∈ gT := gT_of 522 (by decide +kernel) rfl
theorem km_X7_123 : Cond.methodLink RX7 123 yX1_canPass ∈ gT := gT_of 523 (by decide +kernel) rfl
theorem kn_X1_canPass : Cond.instanceMethod yX1_canPass ∈ gT := gT_of 524 (by decide +kernel) rfl
theorem ks_X1_canPass : Cond.selects RX1 yX1_canPass yX1_canPass ∈ gT := gT_of 525 (by decide +kernel) rfl
theorem kc_X1_canPass : Cond.code yX1_canPass cX1_canPass 2 (some .boolean) ∈ gT := gT_of 526 (by decide +kernel) rfl
theorem km_X7_126 : Cond.methodLink RX7 126 yX1_pass ∈ gT := gT_of 528 (by decide +kernel) rfl
theorem kn_X1_pass : Cond.instanceMethod yX1_pass ∈ gT := gT_of 529 (by decide +kernel) rfl
theorem ks_X1_pass : Cond.selects RX1 yX1_pass yX1_pass ∈ gT := gT_of 530 (by decide +kernel) rfl
theorem kc_X1_pass : Cond.code yX1_pass cX1_pass 4 none ∈ gT := gT_of 531 (by decide +kernel) rfl
theorem km_X1_139 : Cond.methodLink RX1 139 yX5_next ∈ gT := gT_of 532 (by decide +kernel) rfl
theorem kn_X5_next : Cond.instanceMethod yX5_next ∈ gT := gT_of 533 (by decide +kernel) rfl
theorem ks_X5_next : Cond.selects RX5 yX5_next yX5_next ∈ gT := gT_of 534 (by decide +kernel) rfl
theorem kc_X5_next : Cond.code yX5_next cX5_next 1 (some .int) ∈ gT := gT_of 535 (by decide +kernel) rfl
theorem km_X1_142 : Cond.methodLink RX1 142 yX1_bringSupply ∈ gT := gT_of 536 (by decide +kernel) rfl
theorem kn_X1_bringSupply : Cond.instanceMethod yX1_bringSupply ∈ gT := gT_of 538 (by decide +kernel) rfl
theorem kc_X1_bringSupply : Cond.code yX1_bringSupply cX1_bringSupply 2 none ∈ gT := gT_of 539 (by decide +kernel) rfl
theorem km_X1_157 : Cond.methodLink RX1 157 yX1_draw ∈ gT := gT_of 540 (by decide +kernel) rfl
theorem kn_X1_draw : Cond.instanceMethod yX1_draw ∈ gT := gT_of 542 (by decide +kernel) rfl
theorem kc_X1_draw : Cond.code yX1_draw cX1_draw 2 (some .int) ∈ gT := gT_of 543 (by decide +kernel) rfl
theorem kk_X1_134 : Cond.constant RX1 134 (1103515245) ∈ gT := gT_of 544 (by decide +kernel) rfl
theorem km_X1_160 : Cond.methodLink RX1 160 yX1_raise ∈ gT := gT_of 545 (by decide +kernel) rfl
theorem kn_X1_raise : Cond.instanceMethod yX1_raise ∈ gT := gT_of 547 (by decide +kernel) rfl
theorem kc_X1_raise : Cond.code yX1_raise cX1_raise 2 none ∈ gT := gT_of 548 (by decide +kernel) rfl
theorem km_X1_145 : Cond.methodLink RX1 145 yX1_blow ∈ gT := gT_of 549 (by decide +kernel) rfl
theorem kn_X1_blow : Cond.instanceMethod yX1_blow ∈ gT := gT_of 551 (by decide +kernel) rfl
theorem kc_X1_blow : Cond.code yX1_blow cX1_blow 5 none ∈ gT := gT_of 552 (by decide +kernel) rfl
theorem km_X1_163 : Cond.methodLink RX1 163 yX1_isLifted ∈ gT := gT_of 553 (by decide +kernel) rfl
theorem kn_X1_isLifted : Cond.instanceMethod yX1_isLifted ∈ gT := gT_of 555 (by decide +kernel) rfl
theorem kc_X1_isLifted : Cond.code yX1_isLifted cX1_isLifted 3 (some .boolean) ∈ gT := gT_of 556 (by decide +kernel) rfl
theorem km_X1_100 : Cond.methodLink RX1 100 yX1_isInShadow ∈ gT := gT_of 557 (by decide +kernel) rfl
theorem kn_X1_isInShadow : Cond.instanceMethod yX1_isInShadow ∈ gT := gT_of 559 (by decide +kernel) rfl
theorem kc_X1_isInShadow : Cond.code yX1_isInShadow cX1_isInShadow 6 (some .boolean) ∈ gT := gT_of 560 (by decide +kernel) rfl
theorem km_X1_166 : Cond.methodLink RX1 166 yX1_lower ∈ gT := gT_of 561 (by decide +kernel) rfl
theorem kn_X1_lower : Cond.instanceMethod yX1_lower ∈ gT := gT_of 562 (by decide +kernel) rfl
theorem ks_X1_lower : Cond.selects RX1 yX1_lower yX1_lower ∈ gT := gT_of 563 (by decide +kernel) rfl
theorem kc_X1_lower : Cond.code yX1_lower cX1_lower 3 none ∈ gT := gT_of 564 (by decide +kernel) rfl
theorem km_X1_110 : Cond.methodLink RX1 110 Lib.Math.min.name ∈ gT := gT_of 565 (by decide +kernel) rfl
theorem km_X1_170 : Cond.methodLink RX1 170 yX1_landing ∈ gT := gT_of 566 (by decide +kernel) rfl
theorem kn_X1_landing : Cond.instanceMethod yX1_landing ∈ gT := gT_of 568 (by decide +kernel) rfl
theorem kc_X1_landing : Cond.code yX1_landing cX1_landing 5 (some .int) ∈ gT := gT_of 569 (by decide +kernel) rfl
theorem km_X1_176 : Cond.methodLink RX1 176 yX1_afterHop ∈ gT := gT_of 570 (by decide +kernel) rfl
theorem kn_X1_afterHop : Cond.instanceMethod yX1_afterHop ∈ gT := gT_of 572 (by decide +kernel) rfl
theorem kc_X1_afterHop : Cond.code yX1_afterHop cX1_afterHop 5 (some .int) ∈ gT := gT_of 573 (by decide +kernel) rfl
theorem km_X1_179 : Cond.methodLink RX1 179 yX1_isLaid ∈ gT := gT_of 574 (by decide +kernel) rfl
theorem kn_X1_isLaid : Cond.instanceMethod yX1_isLaid ∈ gT := gT_of 576 (by decide +kernel) rfl
theorem kc_X1_isLaid : Cond.code yX1_isLaid cX1_isLaid 3 (some .boolean) ∈ gT := gT_of 577 (by decide +kernel) rfl
theorem km_X1_173 : Cond.methodLink RX1 173 yX1_lose ∈ gT := gT_of 578 (by decide +kernel) rfl
theorem kn_X1_lose : Cond.instanceMethod yX1_lose ∈ gT := gT_of 580 (by decide +kernel) rfl
theorem kc_X1_lose : Cond.code yX1_lose cX1_lose 2 none ∈ gT := gT_of 581 (by decide +kernel) rfl
theorem km_X1_148 : Cond.methodLink RX1 148 yX5_passDay ∈ gT := gT_of 582 (by decide +kernel) rfl
theorem kn_X5_passDay : Cond.instanceMethod yX5_passDay ∈ gT := gT_of 583 (by decide +kernel) rfl
theorem ks_X5_passDay : Cond.selects RX5 yX5_passDay yX5_passDay ∈ gT := gT_of 584 (by decide +kernel) rfl
theorem kc_X5_passDay : Cond.code yX5_passDay cX5_passDay 1 none ∈ gT := gT_of 585 (by decide +kernel) rfl
theorem km_X1_151 : Cond.methodLink RX1 151 yX1_reachHouses ∈ gT := gT_of 586 (by decide +kernel) rfl
theorem kn_X1_reachHouses : Cond.instanceMethod yX1_reachHouses ∈ gT := gT_of 588 (by decide +kernel) rfl
theorem kc_X1_reachHouses : Cond.code yX1_reachHouses cX1_reachHouses 2 none ∈ gT := gT_of 589 (by decide +kernel) rfl
theorem km_X1_154 : Cond.methodLink RX1 154 yX1_passSeason ∈ gT := gT_of 590 (by decide +kernel) rfl
theorem kn_X1_passSeason : Cond.instanceMethod yX1_passSeason ∈ gT := gT_of 592 (by decide +kernel) rfl
theorem kc_X1_passSeason : Cond.code yX1_passSeason cX1_passSeason 3 none ∈ gT := gT_of 593 (by decide +kernel) rfl
theorem km_X1_182 : Cond.methodLink RX1 182 yX1_growth ∈ gT := gT_of 594 (by decide +kernel) rfl
theorem kt_X1_growth : Cond.static yX1_growth ∈ gT := gT_of 595 (by decide +kernel) rfl
theorem kc_X1_growth : Cond.code yX1_growth cX1_growth 1 (some .int) ∈ gT := gT_of 596 (by decide +kernel) rfl
theorem km_L_64 : Cond.methodLink RL 64 yX7_storm ∈ gT := gT_of 598 (by decide +kernel) rfl
theorem kn_X7_storm : Cond.instanceMethod yX7_storm ∈ gT := gT_of 599 (by decide +kernel) rfl
theorem ks_X7_storm : Cond.selects RX7 yX7_storm yX7_storm ∈ gT := gT_of 600 (by decide +kernel) rfl
theorem kc_X7_storm : Cond.code yX7_storm cX7_storm 2 (some .int) ∈ gT := gT_of 601 (by decide +kernel) rfl
theorem km_X7_132 : Cond.methodLink RX7 132 yX1_cut ∈ gT := gT_of 602 (by decide +kernel) rfl
theorem kn_X1_cut : Cond.instanceMethod yX1_cut ∈ gT := gT_of 603 (by decide +kernel) rfl
theorem ks_X1_cut : Cond.selects RX1 yX1_cut yX1_cut ∈ gT := gT_of 604 (by decide +kernel) rfl
theorem kc_X1_cut : Cond.code yX1_cut cX1_cut 8 (some .int) ∈ gT := gT_of 605 (by decide +kernel) rfl
theorem km_X1_116 : Cond.methodLink RX1 116 yX1_settleAll ∈ gT := gT_of 606 (by decide +kernel) rfl
theorem km_L_68 : Cond.methodLink RL 68 yX7_cell ∈ gT := gT_of 607 (by decide +kernel) rfl
theorem kn_X7_cell : Cond.instanceMethod yX7_cell ∈ gT := gT_of 608 (by decide +kernel) rfl
theorem ks_X7_cell : Cond.selects RX7 yX7_cell yX7_cell ∈ gT := gT_of 609 (by decide +kernel) rfl
theorem kc_X7_cell : Cond.code yX7_cell cX7_cell 3 (some .int) ∈ gT := gT_of 610 (by decide +kernel) rfl
theorem km_X7_136 : Cond.methodLink RX7 136 yX1_look ∈ gT := gT_of 611 (by decide +kernel) rfl
theorem kn_X1_look : Cond.instanceMethod yX1_look ∈ gT := gT_of 612 (by decide +kernel) rfl
theorem ks_X1_look : Cond.selects RX1 yX1_look yX1_look ∈ gT := gT_of 613 (by decide +kernel) rfl
theorem kc_X1_look : Cond.code yX1_look cX1_look 3 (some .int) ∈ gT := gT_of 614 (by decide +kernel) rfl
theorem km_L_72 : Cond.methodLink RL 72 yX7_work ∈ gT := gT_of 615 (by decide +kernel) rfl
theorem kn_X7_work : Cond.instanceMethod yX7_work ∈ gT := gT_of 616 (by decide +kernel) rfl
theorem ks_X7_work : Cond.selects RX7 yX7_work yX7_work ∈ gT := gT_of 617 (by decide +kernel) rfl
theorem kc_X7_work : Cond.code yX7_work cX7_work 5 (some .int) ∈ gT := gT_of 618 (by decide +kernel) rfl
theorem km_X7_140 : Cond.methodLink RX7 140 yX6_add ∈ gT := gT_of 619 (by decide +kernel) rfl
theorem kn_X6_add : Cond.instanceMethod yX6_add ∈ gT := gT_of 620 (by decide +kernel) rfl
theorem ks_X6_add : Cond.selects RX6 yX6_add yX6_add ∈ gT := gT_of 621 (by decide +kernel) rfl
theorem kc_X6_add : Cond.code yX6_add cX6_add 5 (some .int) ∈ gT := gT_of 622 (by decide +kernel) rfl
theorem km_L_77 : Cond.methodLink RL 77 yX7_drop ∈ gT := gT_of 623 (by decide +kernel) rfl
theorem kn_X7_drop : Cond.instanceMethod yX7_drop ∈ gT := gT_of 624 (by decide +kernel) rfl
theorem ks_X7_drop : Cond.selects RX7 yX7_drop yX7_drop ∈ gT := gT_of 625 (by decide +kernel) rfl
theorem kc_X7_drop : Cond.code yX7_drop cX7_drop 2 (some .int) ∈ gT := gT_of 626 (by decide +kernel) rfl
theorem km_L_81 : Cond.methodLink RL 81 yX7_best ∈ gT := gT_of 627 (by decide +kernel) rfl
theorem kn_X7_best : Cond.instanceMethod yX7_best ∈ gT := gT_of 628 (by decide +kernel) rfl
theorem ks_X7_best : Cond.selects RX7 yX7_best yX7_best ∈ gT := gT_of 629 (by decide +kernel) rfl
theorem kc_X7_best : Cond.code yX7_best cX7_best 3 (some .int) ∈ gT := gT_of 630 (by decide +kernel) rfl
theorem km_X7_145 : Cond.methodLink RX7 145 yX7_chooseWorks ∈ gT := gT_of 631 (by decide +kernel) rfl
theorem kn_X7_chooseWorks : Cond.instanceMethod yX7_chooseWorks ∈ gT := gT_of 633 (by decide +kernel) rfl
theorem kc_X7_chooseWorks : Cond.code yX7_chooseWorks cX7_chooseWorks 8 (some .int) ∈ gT := gT_of 634 (by decide +kernel) rfl
theorem km_X7_180 : Cond.methodLink RX7 180 yX6_costOf ∈ gT := gT_of 635 (by decide +kernel) rfl
theorem kn_X6_costOf : Cond.instanceMethod yX6_costOf ∈ gT := gT_of 636 (by decide +kernel) rfl
theorem ks_X6_costOf : Cond.selects RX6 yX6_costOf yX6_costOf ∈ gT := gT_of 637 (by decide +kernel) rfl
theorem kc_X6_costOf : Cond.code yX6_costOf cX6_costOf 4 (some .int) ∈ gT := gT_of 638 (by decide +kernel) rfl
theorem km_X7_148 : Cond.methodLink RX7 148 yX1_copyFrom ∈ gT := gT_of 639 (by decide +kernel) rfl
theorem kn_X1_copyFrom : Cond.instanceMethod yX1_copyFrom ∈ gT := gT_of 640 (by decide +kernel) rfl
theorem ks_X1_copyFrom : Cond.selects RX1 yX1_copyFrom yX1_copyFrom ∈ gT := gT_of 641 (by decide +kernel) rfl
theorem kc_X1_copyFrom : Cond.code yX1_copyFrom cX1_copyFrom 2 none ∈ gT := gT_of 642 (by decide +kernel) rfl
theorem km_X1_70 : Cond.methodLink RX1 70 yX5_copyFrom ∈ gT := gT_of 643 (by decide +kernel) rfl
theorem km_X7_183 : Cond.methodLink RX7 183 yX6_carryOut ∈ gT := gT_of 644 (by decide +kernel) rfl
theorem kn_X6_carryOut : Cond.instanceMethod yX6_carryOut ∈ gT := gT_of 645 (by decide +kernel) rfl
theorem ks_X6_carryOut : Cond.selects RX6 yX6_carryOut yX6_carryOut ∈ gT := gT_of 646 (by decide +kernel) rfl
theorem kc_X6_carryOut : Cond.code yX6_carryOut cX6_carryOut 4 none ∈ gT := gT_of 647 (by decide +kernel) rfl
theorem km_X6_28 : Cond.methodLink RX6 28 yX1_put ∈ gT := gT_of 648 (by decide +kernel) rfl
theorem km_X6_34 : Cond.methodLink RX6 34 yX1_lower ∈ gT := gT_of 649 (by decide +kernel) rfl
theorem km_X7_187 : Cond.methodLink RX7 187 yX1_grainsOnHouses ∈ gT := gT_of 650 (by decide +kernel) rfl
theorem kn_X1_grainsOnHouses : Cond.instanceMethod yX1_grainsOnHouses ∈ gT := gT_of 651 (by decide +kernel) rfl
theorem ks_X1_grainsOnHouses : Cond.selects RX1 yX1_grainsOnHouses yX1_grainsOnHouses ∈ gT := gT_of 652 (by decide +kernel) rfl
theorem kc_X1_grainsOnHouses : Cond.code yX1_grainsOnHouses cX1_grainsOnHouses 3 (some .int) ∈ gT := gT_of 653 (by decide +kernel) rfl
theorem km_L_85 : Cond.methodLink RL 85 yX7_bestSet ∈ gT := gT_of 654 (by decide +kernel) rfl
theorem kn_X7_bestSet : Cond.instanceMethod yX7_bestSet ∈ gT := gT_of 655 (by decide +kernel) rfl
theorem ks_X7_bestSet : Cond.selects RX7 yX7_bestSet yX7_bestSet ∈ gT := gT_of 656 (by decide +kernel) rfl
theorem kc_X7_bestSet : Cond.code yX7_bestSet cX7_bestSet 3 (some .int) ∈ gT := gT_of 657 (by decide +kernel) rfl
theorem km_L_89 : Cond.methodLink RL 89 yX7_mark ∈ gT := gT_of 658 (by decide +kernel) rfl
theorem kn_X7_mark : Cond.instanceMethod yX7_mark ∈ gT := gT_of 659 (by decide +kernel) rfl
theorem ks_X7_mark : Cond.selects RX7 yX7_mark yX7_mark ∈ gT := gT_of 660 (by decide +kernel) rfl
theorem kc_X7_mark : Cond.code yX7_mark cX7_mark 1 none ∈ gT := gT_of 661 (by decide +kernel) rfl
theorem km_L_93 : Cond.methodLink RL 93 yX7_flight ∈ gT := gT_of 662 (by decide +kernel) rfl
theorem kn_X7_flight : Cond.instanceMethod yX7_flight ∈ gT := gT_of 663 (by decide +kernel) rfl
theorem ks_X7_flight : Cond.selects RX7 yX7_flight yX7_flight ∈ gT := gT_of 664 (by decide +kernel) rfl
theorem kc_X7_flight : Cond.code yX7_flight cX7_flight 4 (some .int) ∈ gT := gT_of 665 (by decide +kernel) rfl
theorem km_X7_152 : Cond.methodLink RX7 152 yX2_add ∈ gT := gT_of 666 (by decide +kernel) rfl
theorem kn_X2_add : Cond.instanceMethod yX2_add ∈ gT := gT_of 667 (by decide +kernel) rfl
theorem ks_X2_add : Cond.selects RX2 yX2_add yX2_add ∈ gT := gT_of 668 (by decide +kernel) rfl
theorem kc_X2_add : Cond.code yX2_add cX2_add 4 (some .int) ∈ gT := gT_of 669 (by decide +kernel) rfl
theorem km_L_98 : Cond.methodLink RL 98 yX7_fits ∈ gT := gT_of 670 (by decide +kernel) rfl
theorem kn_X7_fits : Cond.instanceMethod yX7_fits ∈ gT := gT_of 671 (by decide +kernel) rfl
theorem ks_X7_fits : Cond.selects RX7 yX7_fits yX7_fits ∈ gT := gT_of 672 (by decide +kernel) rfl
theorem kc_X7_fits : Cond.code yX7_fits cX7_fits 4 (some .int) ∈ gT := gT_of 673 (by decide +kernel) rfl
theorem km_X7_154 : Cond.methodLink RX7 154 yX2_agreeWith ∈ gT := gT_of 674 (by decide +kernel) rfl
theorem kn_X2_agreeWith : Cond.instanceMethod yX2_agreeWith ∈ gT := gT_of 675 (by decide +kernel) rfl
theorem ks_X2_agreeWith : Cond.selects RX2 yX2_agreeWith yX2_agreeWith ∈ gT := gT_of 676 (by decide +kernel) rfl
theorem kc_X2_agreeWith : Cond.code yX2_agreeWith cX2_agreeWith 3 (some .boolean) ∈ gT := gT_of 677 (by decide +kernel) rfl
theorem km_X2_25 : Cond.methodLink RX2 25 yX1_look ∈ gT := gT_of 678 (by decide +kernel) rfl
theorem km_X2_31 : Cond.methodLink RX2 31 Lib.Math.abs.name ∈ gT := gT_of 679 (by decide +kernel) rfl
theorem kt_Mabs : Cond.static Lib.Math.abs.name ∈ gT := gT_of 680 (by decide +kernel) rfl
theorem kc_Mabs : Cond.code Lib.Math.abs.name Lib.Math.abs.code 1 (some .int) ∈ gT := gT_of 681 (by decide +kernel) rfl
theorem km_L_102 : Cond.methodLink RL 102 yX7_about ∈ gT := gT_of 682 (by decide +kernel) rfl
theorem kn_X7_about : Cond.instanceMethod yX7_about ∈ gT := gT_of 683 (by decide +kernel) rfl
theorem ks_X7_about : Cond.selects RX7 yX7_about yX7_about ∈ gT := gT_of 684 (by decide +kernel) rfl
theorem kc_X7_about : Cond.code yX7_about cX7_about 2 (some .int) ∈ gT := gT_of 685 (by decide +kernel) rfl
theorem km_X7_164 : Cond.methodLink RX7 164 yX1_grains ∈ gT := gT_of 686 (by decide +kernel) rfl
theorem kn_X1_grains : Cond.instanceMethod yX1_grains ∈ gT := gT_of 687 (by decide +kernel) rfl
theorem ks_X1_grains : Cond.selects RX1 yX1_grains yX1_grains ∈ gT := gT_of 688 (by decide +kernel) rfl
theorem kc_X1_grains : Cond.code yX1_grains cX1_grains 3 (some .int) ∈ gT := gT_of 689 (by decide +kernel) rfl
theorem km_X7_177 : Cond.methodLink RX7 177 yX5_next ∈ gT := gT_of 690 (by decide +kernel) rfl
theorem km_L_9 : Cond.methodLink RL 9 yL_cell ∈ gT := gT_of 691 (by decide +kernel) rfl
theorem kt_L_cell : Cond.static yL_cell ∈ gT := gT_of 692 (by decide +kernel) rfl
theorem kc_L_cell : Cond.code yL_cell cL_cell 2 (some .int) ∈ gT := gT_of 693 (by decide +kernel) rfl
theorem kl_L_18 : Cond.classLink RL 18 RX8 ∈ gT := gT_of 694 (by decide +kernel) rfl
theorem kb_X8 : Cond.instantiable RX8 50 ∈ gT := gT_of 695 (by decide +kernel) rfl
theorem km_L_20 : Cond.methodLink RL 20 yX8_init ∈ gT := gT_of 696 (by decide +kernel) rfl
theorem kn_X8_init : Cond.instanceMethod yX8_init ∈ gT := gT_of 697 (by decide +kernel) rfl
theorem kc_X8_init : Cond.code yX8_init cX8_init 4 none ∈ gT := gT_of 698 (by decide +kernel) rfl
theorem km_X8_1 : Cond.methodLink RX8 1 objectInit ∈ gT := gT_of 699 (by decide +kernel) rfl
theorem km_X8_106 : Cond.methodLink RX8 106 yX8_keeps ∈ gT := gT_of 700 (by decide +kernel) rfl
theorem kn_X8_keeps : Cond.instanceMethod yX8_keeps ∈ gT := gT_of 702 (by decide +kernel) rfl
theorem kc_X8_keeps : Cond.code yX8_keeps cX8_keeps 4 none ∈ gT := gT_of 703 (by decide +kernel) rfl
theorem kf_X8_97 : Cond.fieldLink RX8 97 "DuneBenchModel" "wide" "I" ∈ gT := gT_of 704 (by decide +kernel) rfl
theorem kf_X8_100 : Cond.fieldLink RX8 100 "DuneBenchModel" "high" "I" ∈ gT := gT_of 705 (by decide +kernel) rfl
theorem kf_X8_103 : Cond.fieldLink RX8 103 "DuneBenchModel" "cells" "I" ∈ gT := gT_of 706 (by decide +kernel) rfl
theorem kf_X8_7 : Cond.fieldLink RX8 7 "DuneBenchModel" "heap" "[I" ∈ gT := gT_of 707 (by decide +kernel) rfl
theorem kf_X8_13 : Cond.fieldLink RX8 13 "DuneBenchModel" "last" "[I" ∈ gT := gT_of 708 (by decide +kernel) rfl
theorem kf_X8_16 : Cond.fieldLink RX8 16 "DuneBenchModel" "grass" "[I" ∈ gT := gT_of 709 (by decide +kernel) rfl
theorem kf_X8_19 : Cond.fieldLink RX8 19 "DuneBenchModel" "fence" "[I" ∈ gT := gT_of 710 (by decide +kernel) rfl
theorem kf_X8_22 : Cond.fieldLink RX8 22 "DuneBenchModel" "walkers" "[I" ∈ gT := gT_of 711 (by decide +kernel) rfl
theorem kf_X8_25 : Cond.fieldLink RX8 25 "DuneBenchModel" "limit" "[I" ∈ gT := gT_of 712 (by decide +kernel) rfl
theorem kf_X8_28 : Cond.fieldLink RX8 28 "DuneBenchModel" "reached" "[I" ∈ gT := gT_of 713 (by decide +kernel) rfl
theorem kf_X8_31 : Cond.fieldLink RX8 31 "DuneBenchModel" "rule" "[I" ∈ gT := gT_of 714 (by decide +kernel) rfl
theorem kf_X8_34 : Cond.fieldLink RX8 34 "DuneBenchModel" "seed" "I" ∈ gT := gT_of 715 (by decide +kernel) rfl
theorem kf_X8_115 : Cond.fieldLink RX8 115 "DuneBenchModel" "day" "I" ∈ gT := gT_of 716 (by decide +kernel) rfl
theorem kf_X8_118 : Cond.fieldLink RX8 118 "DuneBenchModel" "lostSea" "I" ∈ gT := gT_of 717 (by decide +kernel) rfl
theorem kf_X8_121 : Cond.fieldLink RX8 121 "DuneBenchModel" "lostInland" "I" ∈ gT := gT_of 718 (by decide +kernel) rfl
theorem kf_X8_124 : Cond.fieldLink RX8 124 "DuneBenchModel" "supplied" "I" ∈ gT := gT_of 719 (by decide +kernel) rfl
theorem kf_X8_133 : Cond.fieldLink RX8 133 "DuneBenchModel" "clauses" "I" ∈ gT := gT_of 720 (by decide +kernel) rfl
theorem kf_X8_38 : Cond.fieldLink RX8 38 "DuneBenchModel" "wind" "[I" ∈ gT := gT_of 721 (by decide +kernel) rfl
theorem kf_X8_41 : Cond.fieldLink RX8 41 "DuneBenchModel" "windDays" "[I" ∈ gT := gT_of 722 (by decide +kernel) rfl
theorem kf_X8_127 : Cond.fieldLink RX8 127 "DuneBenchModel" "windAt" "I" ∈ gT := gT_of 723 (by decide +kernel) rfl
theorem kf_X8_130 : Cond.fieldLink RX8 130 "DuneBenchModel" "windDay" "I" ∈ gT := gT_of 724 (by decide +kernel) rfl
theorem kf_X8_44 : Cond.fieldLink RX8 44 "DuneBenchModel" "tape" "[B" ∈ gT := gT_of 725 (by decide +kernel) rfl
theorem kf_X8_162 : Cond.fieldLink RX8 162 "DuneBenchModel" "taped" "I" ∈ gT := gT_of 726 (by decide +kernel) rfl
theorem kf_X8_178 : Cond.fieldLink RX8 178 "DuneBenchModel" "at" "I" ∈ gT := gT_of 727 (by decide +kernel) rfl
theorem kf_X8_181 : Cond.fieldLink RX8 181 "DuneBenchModel" "token" "I" ∈ gT := gT_of 728 (by decide +kernel) rfl
theorem kf_X8_184 : Cond.fieldLink RX8 184 "DuneBenchModel" "sort" "I" ∈ gT := gT_of 729 (by decide +kernel) rfl
theorem kf_X8_196 : Cond.fieldLink RX8 196 "DuneBenchModel" "told" "I" ∈ gT := gT_of 730 (by decide +kernel) rfl
theorem kf_X8_200 : Cond.fieldLink RX8 200 "DuneBenchModel" "wrong" "I" ∈ gT := gT_of 731 (by decide +kernel) rfl
theorem kf_X8_203 : Cond.fieldLink RX8 203 "DuneBenchModel" "wrongAt" "I" ∈ gT := gT_of 732 (by decide +kernel) rfl
theorem kf_X8_48 : Cond.fieldLink RX8 48 "DuneBenchModel" "fault" "I" ∈ gT := gT_of 733 (by decide +kernel) rfl
theorem kf_X8_51 : Cond.fieldLink RX8 51 "DuneBenchModel" "faultAt" "I" ∈ gT := gT_of 734 (by decide +kernel) rfl
theorem kf_X8_54 : Cond.fieldLink RX8 54 "DuneBenchModel" "newWind" "[I" ∈ gT := gT_of 735 (by decide +kernel) rfl
theorem kf_X8_57 : Cond.fieldLink RX8 57 "DuneBenchModel" "newDays" "[I" ∈ gT := gT_of 736 (by decide +kernel) rfl
theorem kf_X8_243 : Cond.fieldLink RX8 243 "DuneBenchModel" "works" "I" ∈ gT := gT_of 737 (by decide +kernel) rfl
theorem kf_X8_60 : Cond.fieldLink RX8 60 "DuneBenchModel" "workKind" "[I" ∈ gT := gT_of 738 (by decide +kernel) rfl
theorem kf_X8_63 : Cond.fieldLink RX8 63 "DuneBenchModel" "workCell" "[I" ∈ gT := gT_of 739 (by decide +kernel) rfl
theorem kf_X8_66 : Cond.fieldLink RX8 66 "DuneBenchModel" "workBy" "[I" ∈ gT := gT_of 740 (by decide +kernel) rfl
theorem kf_X8_69 : Cond.fieldLink RX8 69 "DuneBenchModel" "workCost" "[I" ∈ gT := gT_of 741 (by decide +kernel) rfl
theorem kf_X8_261 : Cond.fieldLink RX8 261 "DuneBenchModel" "flights" "I" ∈ gT := gT_of 742 (by decide +kernel) rfl
theorem kf_X8_72 : Cond.fieldLink RX8 72 "DuneBenchModel" "flightCell" "[I" ∈ gT := gT_of 743 (by decide +kernel) rfl
theorem kf_X8_75 : Cond.fieldLink RX8 75 "DuneBenchModel" "flightSeen" "[I" ∈ gT := gT_of 744 (by decide +kernel) rfl
theorem kf_X8_78 : Cond.fieldLink RX8 78 "DuneBenchModel" "flightMiss" "[I" ∈ gT := gT_of 745 (by decide +kernel) rfl
theorem kf_X8_81 : Cond.fieldLink RX8 81 "DuneBenchModel" "keptRows" "[I" ∈ gT := gT_of 746 (by decide +kernel) rfl
theorem kf_X8_84 : Cond.fieldLink RX8 84 "DuneBenchModel" "keptRule" "[I" ∈ gT := gT_of 747 (by decide +kernel) rfl
theorem kf_X8_87 : Cond.fieldLink RX8 87 "DuneBenchModel" "keptNumbers" "[I" ∈ gT := gT_of 748 (by decide +kernel) rfl
theorem kf_X8_90 : Cond.fieldLink RX8 90 "DuneBenchModel" "keptWind" "[I" ∈ gT := gT_of 749 (by decide +kernel) rfl
theorem kf_X8_93 : Cond.fieldLink RX8 93 "DuneBenchModel" "maybe" "[Z" ∈ gT := gT_of 750 (by decide +kernel) rfl
theorem kf_X8_140 : Cond.fieldLink RX8 140 "DuneBenchModel" "maybeFrom" "I" ∈ gT := gT_of 751 (by decide +kernel) rfl
theorem kf_X8_246 : Cond.fieldLink RX8 246 "DuneBenchModel" "bestGrains" "I" ∈ gT := gT_of 752 (by decide +kernel) rfl
theorem kf_X8_252 : Cond.fieldLink RX8 252 "DuneBenchModel" "bestWorks" "I" ∈ gT := gT_of 753 (by decide +kernel) rfl
theorem ka_boolean : Cond.arrayClass .boolean ∈ gT := gT_of 855 (by decide +kernel) rfl
theorem km_L_25 : Cond.methodLink RL 25 yX8_heap ∈ gT := gT_of 856 (by decide +kernel) rfl
theorem kn_X8_heap : Cond.instanceMethod yX8_heap ∈ gT := gT_of 857 (by decide +kernel) rfl
theorem ks_X8_heap : Cond.selects RX8 yX8_heap yX8_heap ∈ gT := gT_of 858 (by decide +kernel) rfl
theorem kc_X8_heap : Cond.code yX8_heap cX8_heap 3 (some .boolean) ∈ gT := gT_of 859 (by decide +kernel) rfl
theorem km_X8_153 : Cond.methodLink RX8 153 yX8_isCell ∈ gT := gT_of 860 (by decide +kernel) rfl
theorem kn_X8_isCell : Cond.instanceMethod yX8_isCell ∈ gT := gT_of 862 (by decide +kernel) rfl
theorem kc_X8_isCell : Cond.code yX8_isCell cX8_isCell 2 (some .boolean) ∈ gT := gT_of 863 (by decide +kernel) rfl
theorem km_X8_110 : Cond.methodLink RX8 110 yX8_in ∈ gT := gT_of 864 (by decide +kernel) rfl
theorem kt_X8_in : Cond.static yX8_in ∈ gT := gT_of 865 (by decide +kernel) rfl
theorem kc_X8_in : Cond.code yX8_in cX8_in 3 (some .boolean) ∈ gT := gT_of 866 (by decide +kernel) rfl
theorem km_X8_156 : Cond.methodLink RX8 156 yX8_settledAt ∈ gT := gT_of 867 (by decide +kernel) rfl
theorem kn_X8_settledAt : Cond.instanceMethod yX8_settledAt ∈ gT := gT_of 869 (by decide +kernel) rfl
theorem kc_X8_settledAt : Cond.code yX8_settledAt cX8_settledAt 2 none ∈ gT := gT_of 870 (by decide +kernel) rfl
theorem km_X8_147 : Cond.methodLink RX8 147 yX8_touches ∈ gT := gT_of 871 (by decide +kernel) rfl
theorem kn_X8_touches : Cond.instanceMethod yX8_touches ∈ gT := gT_of 873 (by decide +kernel) rfl
theorem kc_X8_touches : Cond.code yX8_touches cX8_touches 4 none ∈ gT := gT_of 874 (by decide +kernel) rfl
theorem km_X8_136 : Cond.methodLink RX8 136 yX8_near ∈ gT := gT_of 875 (by decide +kernel) rfl
theorem kn_X8_near : Cond.instanceMethod yX8_near ∈ gT := gT_of 877 (by decide +kernel) rfl
theorem kc_X8_near : Cond.code yX8_near cX8_near 5 (some .int) ∈ gT := gT_of 878 (by decide +kernel) rfl
theorem km_X8_150 : Cond.methodLink RX8 150 yX8_settles ∈ gT := gT_of 879 (by decide +kernel) rfl
theorem kn_X8_settles : Cond.instanceMethod yX8_settles ∈ gT := gT_of 881 (by decide +kernel) rfl
theorem kc_X8_settles : Cond.code yX8_settles cX8_settles 5 none ∈ gT := gT_of 882 (by decide +kernel) rfl
theorem km_X8_143 : Cond.methodLink RX8 143 yX8_isSteep ∈ gT := gT_of 883 (by decide +kernel) rfl
theorem kn_X8_isSteep : Cond.instanceMethod yX8_isSteep ∈ gT := gT_of 885 (by decide +kernel) rfl
theorem kc_X8_isSteep : Cond.code yX8_isSteep cX8_isSteep 5 (some .boolean) ∈ gT := gT_of 886 (by decide +kernel) rfl
theorem km_L_30 : Cond.methodLink RL 30 yX8_lay ∈ gT := gT_of 887 (by decide +kernel) rfl
theorem kn_X8_lay : Cond.instanceMethod yX8_lay ∈ gT := gT_of 888 (by decide +kernel) rfl
theorem ks_X8_lay : Cond.selects RX8 yX8_lay yX8_lay ∈ gT := gT_of 889 (by decide +kernel) rfl
theorem kc_X8_lay : Cond.code yX8_lay cX8_lay 4 (some .boolean) ∈ gT := gT_of 890 (by decide +kernel) rfl
theorem km_L_35 : Cond.methodLink RL 35 yX8_rules ∈ gT := gT_of 891 (by decide +kernel) rfl
theorem kn_X8_rules : Cond.instanceMethod yX8_rules ∈ gT := gT_of 892 (by decide +kernel) rfl
theorem ks_X8_rules : Cond.selects RX8 yX8_rules yX8_rules ∈ gT := gT_of 893 (by decide +kernel) rfl
theorem kc_X8_rules : Cond.code yX8_rules cX8_rules 6 (some .boolean) ∈ gT := gT_of 894 (by decide +kernel) rfl
theorem km_X8_159 : Cond.methodLink RX8 159 yX8_settledAll ∈ gT := gT_of 895 (by decide +kernel) rfl
theorem kn_X8_settledAll : Cond.instanceMethod yX8_settledAll ∈ gT := gT_of 897 (by decide +kernel) rfl
theorem kc_X8_settledAll : Cond.code yX8_settledAll cX8_settledAll 2 none ∈ gT := gT_of 898 (by decide +kernel) rfl
theorem km_L_40 : Cond.methodLink RL 40 yX8_seed ∈ gT := gT_of 899 (by decide +kernel) rfl
theorem kn_X8_seed : Cond.instanceMethod yX8_seed ∈ gT := gT_of 900 (by decide +kernel) rfl
theorem ks_X8_seed : Cond.selects RX8 yX8_seed yX8_seed ∈ gT := gT_of 901 (by decide +kernel) rfl
theorem kc_X8_seed : Cond.code yX8_seed cX8_seed 2 none ∈ gT := gT_of 902 (by decide +kernel) rfl
theorem km_L_45 : Cond.methodLink RL 45 yX8_feed ∈ gT := gT_of 903 (by decide +kernel) rfl
theorem kn_X8_feed : Cond.instanceMethod yX8_feed ∈ gT := gT_of 904 (by decide +kernel) rfl
theorem ks_X8_feed : Cond.selects RX8 yX8_feed yX8_feed ∈ gT := gT_of 905 (by decide +kernel) rfl
theorem kc_X8_feed : Cond.code yX8_feed cX8_feed 6 (some .int) ∈ gT := gT_of 906 (by decide +kernel) rfl
theorem km_X8_165 : Cond.methodLink RX8 165 yX8_put ∈ gT := gT_of 907 (by decide +kernel) rfl
theorem kn_X8_put : Cond.instanceMethod yX8_put ∈ gT := gT_of 909 (by decide +kernel) rfl
theorem kc_X8_put : Cond.code yX8_put cX8_put 2 none ∈ gT := gT_of 910 (by decide +kernel) rfl
theorem km_L_50 : Cond.methodLink RL 50 yX8_end ∈ gT := gT_of 911 (by decide +kernel) rfl
theorem kn_X8_end : Cond.instanceMethod yX8_end ∈ gT := gT_of 912 (by decide +kernel) rfl
theorem ks_X8_end : Cond.selects RX8 yX8_end yX8_end ∈ gT := gT_of 913 (by decide +kernel) rfl
theorem kc_X8_end : Cond.code yX8_end cX8_end 2 (some .int) ∈ gT := gT_of 914 (by decide +kernel) rfl
theorem km_L_55 : Cond.methodLink RL 55 yX8_winds ∈ gT := gT_of 915 (by decide +kernel) rfl
theorem kn_X8_winds : Cond.instanceMethod yX8_winds ∈ gT := gT_of 916 (by decide +kernel) rfl
theorem ks_X8_winds : Cond.selects RX8 yX8_winds yX8_winds ∈ gT := gT_of 917 (by decide +kernel) rfl
theorem kc_X8_winds : Cond.code yX8_winds cX8_winds 4 (some .int) ∈ gT := gT_of 918 (by decide +kernel) rfl
theorem km_X8_206 : Cond.methodLink RX8 206 yX8_next ∈ gT := gT_of 919 (by decide +kernel) rfl
theorem kn_X8_next : Cond.instanceMethod yX8_next ∈ gT := gT_of 921 (by decide +kernel) rfl
theorem kc_X8_next : Cond.code yX8_next cX8_next 6 none ∈ gT := gT_of 922 (by decide +kernel) rfl
theorem km_X8_187 : Cond.methodLink RX8 187 yX8_isLetter ∈ gT := gT_of 923 (by decide +kernel) rfl
theorem kt_X8_isLetter : Cond.static yX8_isLetter ∈ gT := gT_of 924 (by decide +kernel) rfl
theorem kc_X8_isLetter : Cond.code yX8_isLetter cX8_isLetter 1 (some .boolean) ∈ gT := gT_of 925 (by decide +kernel) rfl
theorem kk_X8_190 : Cond.constantLong RX8 190 (64) ∈ gT := gT_of 926 (by decide +kernel) rfl
theorem km_X8_192 : Cond.methodLink RX8 192 yX8_wordOf ∈ gT := gT_of 927 (by decide +kernel) rfl
theorem kt_X8_wordOf : Cond.static yX8_wordOf ∈ gT := gT_of 928 (by decide +kernel) rfl
theorem kc_X8_wordOf : Cond.code yX8_wordOf cX8_wordOf 2 (some .int) ∈ gT := gT_of 929 (by decide +kernel) rfl
theorem kk_X8_168 : Cond.constantLong RX8 168 (44806839204) ∈ gT := gT_of 930 (by decide +kernel) rfl
theorem kk_X8_170 : Cond.constantLong RX8 170 (3544989965476) ∈ gT := gT_of 931 (by decide +kernel) rfl
theorem kk_X8_172 : Cond.constantLong RX8 172 (3440) ∈ gT := gT_of 932 (by decide +kernel) rfl
theorem kk_X8_174 : Cond.constantLong RX8 174 (9633262) ∈ gT := gT_of 933 (by decide +kernel) rfl
theorem kk_X8_176 : Cond.constantLong RX8 176 (9313069) ∈ gT := gT_of 934 (by decide +kernel) rfl
theorem kk_X8_199 : Cond.constant RX8 199 (99999) ∈ gT := gT_of 935 (by decide +kernel) rfl
theorem km_X8_209 : Cond.methodLink RX8 209 yX8_errs ∈ gT := gT_of 936 (by decide +kernel) rfl
theorem kn_X8_errs : Cond.instanceMethod yX8_errs ∈ gT := gT_of 938 (by decide +kernel) rfl
theorem kc_X8_errs : Cond.code yX8_errs cX8_errs 2 none ∈ gT := gT_of 939 (by decide +kernel) rfl
theorem km_L_59 : Cond.methodLink RL 59 yX8_fault ∈ gT := gT_of 940 (by decide +kernel) rfl
theorem kn_X8_fault : Cond.instanceMethod yX8_fault ∈ gT := gT_of 941 (by decide +kernel) rfl
theorem ks_X8_fault : Cond.selects RX8 yX8_fault yX8_fault ∈ gT := gT_of 942 (by decide +kernel) rfl
theorem kc_X8_fault : Cond.code yX8_fault cX8_fault 2 (some .int) ∈ gT := gT_of 943 (by decide +kernel) rfl
theorem km_L_63 : Cond.methodLink RL 63 yX8_days ∈ gT := gT_of 944 (by decide +kernel) rfl
theorem kn_X8_days : Cond.instanceMethod yX8_days ∈ gT := gT_of 945 (by decide +kernel) rfl
theorem ks_X8_days : Cond.selects RX8 yX8_days yX8_days ∈ gT := gT_of 946 (by decide +kernel) rfl
theorem kc_X8_days : Cond.code yX8_days cX8_days 3 (some .int) ∈ gT := gT_of 947 (by decide +kernel) rfl
theorem km_X8_240 : Cond.methodLink RX8 240 yX8_goes ∈ gT := gT_of 948 (by decide +kernel) rfl
theorem kn_X8_goes : Cond.instanceMethod yX8_goes ∈ gT := gT_of 950 (by decide +kernel) rfl
theorem kc_X8_goes : Cond.code yX8_goes cX8_goes 4 none ∈ gT := gT_of 951 (by decide +kernel) rfl
theorem km_X8_227 : Cond.methodLink RX8 227 yX8_windNow ∈ gT := gT_of 952 (by decide +kernel) rfl
theorem kn_X8_windNow : Cond.instanceMethod yX8_windNow ∈ gT := gT_of 954 (by decide +kernel) rfl
theorem kc_X8_windNow : Cond.code yX8_windNow cX8_windNow 1 (some .int) ∈ gT := gT_of 955 (by decide +kernel) rfl
theorem km_X8_216 : Cond.methodLink RX8 216 yX8_draw ∈ gT := gT_of 956 (by decide +kernel) rfl
theorem kn_X8_draw : Cond.instanceMethod yX8_draw ∈ gT := gT_of 958 (by decide +kernel) rfl
theorem kc_X8_draw : Cond.code yX8_draw cX8_draw 2 (some .int) ∈ gT := gT_of 959 (by decide +kernel) rfl
theorem kk_X8_114 : Cond.constant RX8 114 (1103515245) ∈ gT := gT_of 960 (by decide +kernel) rfl
theorem km_X8_231 : Cond.methodLink RX8 231 yX8_lifts ∈ gT := gT_of 961 (by decide +kernel) rfl
theorem kn_X8_lifts : Cond.instanceMethod yX8_lifts ∈ gT := gT_of 963 (by decide +kernel) rfl
theorem kc_X8_lifts : Cond.code yX8_lifts cX8_lifts 5 none ∈ gT := gT_of 964 (by decide +kernel) rfl
theorem km_X8_220 : Cond.methodLink RX8 220 yX8_isShadow ∈ gT := gT_of 965 (by decide +kernel) rfl
theorem kn_X8_isShadow : Cond.instanceMethod yX8_isShadow ∈ gT := gT_of 967 (by decide +kernel) rfl
theorem kc_X8_isShadow : Cond.code yX8_isShadow cX8_isShadow 6 (some .boolean) ∈ gT := gT_of 968 (by decide +kernel) rfl
theorem km_X8_212 : Cond.methodLink RX8 212 yX8_ahead ∈ gT := gT_of 969 (by decide +kernel) rfl
theorem kn_X8_ahead : Cond.instanceMethod yX8_ahead ∈ gT := gT_of 971 (by decide +kernel) rfl
theorem kc_X8_ahead : Cond.code yX8_ahead cX8_ahead 7 (some .int) ∈ gT := gT_of 972 (by decide +kernel) rfl
theorem km_X8_234 : Cond.methodLink RX8 234 yX8_windGoesOn ∈ gT := gT_of 973 (by decide +kernel) rfl
theorem kn_X8_windGoesOn : Cond.instanceMethod yX8_windGoesOn ∈ gT := gT_of 975 (by decide +kernel) rfl
theorem kc_X8_windGoesOn : Cond.code yX8_windGoesOn cX8_windGoesOn 1 none ∈ gT := gT_of 976 (by decide +kernel) rfl
theorem km_X8_237 : Cond.methodLink RX8 237 yX8_season ∈ gT := gT_of 977 (by decide +kernel) rfl
theorem kn_X8_season : Cond.instanceMethod yX8_season ∈ gT := gT_of 979 (by decide +kernel) rfl
theorem kc_X8_season : Cond.code yX8_season cX8_season 3 none ∈ gT := gT_of 980 (by decide +kernel) rfl
theorem km_X8_224 : Cond.methodLink RX8 224 yX8_grown ∈ gT := gT_of 981 (by decide +kernel) rfl
theorem kt_X8_grown : Cond.static yX8_grown ∈ gT := gT_of 982 (by decide +kernel) rfl
theorem kc_X8_grown : Cond.code yX8_grown cX8_grown 1 (some .int) ∈ gT := gT_of 983 (by decide +kernel) rfl
theorem km_L_67 : Cond.methodLink RL 67 yX8_storm ∈ gT := gT_of 984 (by decide +kernel) rfl
theorem kn_X8_storm : Cond.instanceMethod yX8_storm ∈ gT := gT_of 985 (by decide +kernel) rfl
theorem ks_X8_storm : Cond.selects RX8 yX8_storm yX8_storm ∈ gT := gT_of 986 (by decide +kernel) rfl
theorem kc_X8_storm : Cond.code yX8_storm cX8_storm 8 (some .int) ∈ gT := gT_of 987 (by decide +kernel) rfl
theorem km_L_71 : Cond.methodLink RL 71 yX8_cell ∈ gT := gT_of 988 (by decide +kernel) rfl
theorem kn_X8_cell : Cond.instanceMethod yX8_cell ∈ gT := gT_of 989 (by decide +kernel) rfl
theorem ks_X8_cell : Cond.selects RX8 yX8_cell yX8_cell ∈ gT := gT_of 990 (by decide +kernel) rfl
theorem kc_X8_cell : Cond.code yX8_cell cX8_cell 3 (some .int) ∈ gT := gT_of 991 (by decide +kernel) rfl
theorem km_L_76 : Cond.methodLink RL 76 yX8_work ∈ gT := gT_of 992 (by decide +kernel) rfl
theorem kn_X8_work : Cond.instanceMethod yX8_work ∈ gT := gT_of 993 (by decide +kernel) rfl
theorem ks_X8_work : Cond.selects RX8 yX8_work yX8_work ∈ gT := gT_of 994 (by decide +kernel) rfl
theorem kc_X8_work : Cond.code yX8_work cX8_work 5 (some .int) ∈ gT := gT_of 995 (by decide +kernel) rfl
theorem km_L_80 : Cond.methodLink RL 80 yX8_drop ∈ gT := gT_of 996 (by decide +kernel) rfl
theorem kn_X8_drop : Cond.instanceMethod yX8_drop ∈ gT := gT_of 997 (by decide +kernel) rfl
theorem ks_X8_drop : Cond.selects RX8 yX8_drop yX8_drop ∈ gT := gT_of 998 (by decide +kernel) rfl
theorem kc_X8_drop : Cond.code yX8_drop cX8_drop 2 (some .int) ∈ gT := gT_of 999 (by decide +kernel) rfl
theorem km_L_84 : Cond.methodLink RL 84 yX8_best ∈ gT := gT_of 1000 (by decide +kernel) rfl
theorem kn_X8_best : Cond.instanceMethod yX8_best ∈ gT := gT_of 1001 (by decide +kernel) rfl
theorem ks_X8_best : Cond.selects RX8 yX8_best yX8_best ∈ gT := gT_of 1002 (by decide +kernel) rfl
theorem kc_X8_best : Cond.code yX8_best cX8_best 3 (some .int) ∈ gT := gT_of 1003 (by decide +kernel) rfl
theorem km_X8_258 : Cond.methodLink RX8 258 yX8_seeks ∈ gT := gT_of 1004 (by decide +kernel) rfl
theorem kn_X8_seeks : Cond.instanceMethod yX8_seeks ∈ gT := gT_of 1006 (by decide +kernel) rfl
theorem kc_X8_seeks : Cond.code yX8_seeks cX8_seeks 8 (some .boolean) ∈ gT := gT_of 1007 (by decide +kernel) rfl
theorem km_X8_249 : Cond.methodLink RX8 249 yX8_does ∈ gT := gT_of 1008 (by decide +kernel) rfl
theorem kn_X8_does : Cond.instanceMethod yX8_does ∈ gT := gT_of 1010 (by decide +kernel) rfl
theorem kc_X8_does : Cond.code yX8_does cX8_does 3 none ∈ gT := gT_of 1011 (by decide +kernel) rfl
theorem km_X8_255 : Cond.methodLink RX8 255 yX8_comesBack ∈ gT := gT_of 1012 (by decide +kernel) rfl
theorem kn_X8_comesBack : Cond.instanceMethod yX8_comesBack ∈ gT := gT_of 1014 (by decide +kernel) rfl
theorem kc_X8_comesBack : Cond.code yX8_comesBack cX8_comesBack 4 none ∈ gT := gT_of 1015 (by decide +kernel) rfl
theorem km_L_88 : Cond.methodLink RL 88 yX8_bestSet ∈ gT := gT_of 1016 (by decide +kernel) rfl
theorem kn_X8_bestSet : Cond.instanceMethod yX8_bestSet ∈ gT := gT_of 1017 (by decide +kernel) rfl
theorem ks_X8_bestSet : Cond.selects RX8 yX8_bestSet yX8_bestSet ∈ gT := gT_of 1018 (by decide +kernel) rfl
theorem kc_X8_bestSet : Cond.code yX8_bestSet cX8_bestSet 3 (some .int) ∈ gT := gT_of 1019 (by decide +kernel) rfl
theorem km_L_92 : Cond.methodLink RL 92 yX8_mark ∈ gT := gT_of 1020 (by decide +kernel) rfl
theorem kn_X8_mark : Cond.instanceMethod yX8_mark ∈ gT := gT_of 1021 (by decide +kernel) rfl
theorem ks_X8_mark : Cond.selects RX8 yX8_mark yX8_mark ∈ gT := gT_of 1022 (by decide +kernel) rfl
theorem kc_X8_mark : Cond.code yX8_mark cX8_mark 1 none ∈ gT := gT_of 1023 (by decide +kernel) rfl
theorem km_L_97 : Cond.methodLink RL 97 yX8_flight ∈ gT := gT_of 1024 (by decide +kernel) rfl
theorem kn_X8_flight : Cond.instanceMethod yX8_flight ∈ gT := gT_of 1025 (by decide +kernel) rfl
theorem ks_X8_flight : Cond.selects RX8 yX8_flight yX8_flight ∈ gT := gT_of 1026 (by decide +kernel) rfl
theorem kc_X8_flight : Cond.code yX8_flight cX8_flight 4 (some .int) ∈ gT := gT_of 1027 (by decide +kernel) rfl
theorem km_L_101 : Cond.methodLink RL 101 yX8_fits ∈ gT := gT_of 1028 (by decide +kernel) rfl
theorem kn_X8_fits : Cond.instanceMethod yX8_fits ∈ gT := gT_of 1029 (by decide +kernel) rfl
theorem ks_X8_fits : Cond.selects RX8 yX8_fits yX8_fits ∈ gT := gT_of 1030 (by decide +kernel) rfl
theorem kc_X8_fits : Cond.code yX8_fits cX8_fits 5 (some .int) ∈ gT := gT_of 1031 (by decide +kernel) rfl
theorem km_X8_264 : Cond.methodLink RX8 264 yX8_areSeen ∈ gT := gT_of 1032 (by decide +kernel) rfl
theorem kn_X8_areSeen : Cond.instanceMethod yX8_areSeen ∈ gT := gT_of 1034 (by decide +kernel) rfl
theorem kc_X8_areSeen : Cond.code yX8_areSeen cX8_areSeen 3 (some .boolean) ∈ gT := gT_of 1035 (by decide +kernel) rfl
theorem km_L_105 : Cond.methodLink RL 105 yX8_about ∈ gT := gT_of 1036 (by decide +kernel) rfl
theorem kn_X8_about : Cond.instanceMethod yX8_about ∈ gT := gT_of 1037 (by decide +kernel) rfl
theorem ks_X8_about : Cond.selects RX8 yX8_about yX8_about ∈ gT := gT_of 1038 (by decide +kernel) rfl
theorem kc_X8_about : Cond.code yX8_about cX8_about 4 (some .int) ∈ gT := gT_of 1039 (by decide +kernel) rfl
theorem kf_J0_9 : Cond.fieldLink RJ0 9 "java/lang/String" "value" "[B" ∈ gT := gT_of 1040 (by decide +kernel) rfl
theorem kf_J0_15 : Cond.fieldLink RJ0 15 "java/lang/String" "coder" "B" ∈ gT := gT_of 1041 (by decide +kernel) rfl
theorem inX0 : ∀ w ∈ wsX00, w ∈ gT := by decide +kernel
theorem inX1 : ∀ w ∈ wsX10, w ∈ gT := by decide +kernel
theorem inX2 : ∀ w ∈ wsX20, w ∈ gT := by decide +kernel
theorem inX3 : ∀ w ∈ wsX30, w ∈ gT := by decide +kernel
theorem inX4 : ∀ w ∈ wsX40, w ∈ gT := by decide +kernel
theorem inX5 : ∀ w ∈ wsX50, w ∈ gT := by decide +kernel
theorem inX6 : ∀ w ∈ wsX60, w ∈ gT := by decide +kernel
theorem inX7 : ∀ w ∈ wsX70, w ∈ gT := by decide +kernel
theorem inX8 : ∀ w ∈ wsX80, w ∈ gT := by decide +kernel
end
section
/-! ===== numbers: ints as jI z, longs as lI z, z an Int ===== -/
def jI (z : Int) : Int32 := Int32.ofInt z
def lI (z : Int) : Int64 := Int64.ofInt z
def rg (z : Int) : Prop := -2147483648 ≤ z ∧ z < 2147483648
theorem j_toInt {z : Int} (h : rg z) : (jI z).toInt = z := by
  obtain ⟨h1, h2⟩ := h
  have e : z.bmod (2 ^ 32) = z := Int.bmod_eq_of_le (by omega) (by omega)
  unfold jI
  rw [Int32.toInt_ofInt]
  exact e
theorem j_of (x : Int32) : jI x.toInt = x := Int32.ofInt_toInt x
theorem j_rg (x : Int32) : rg x.toInt := ⟨by have := Int32.le_toInt x; omega, by have := Int32.toInt_lt x; omega⟩
theorem j_ex (x : Int32) : ∃ z, rg z ∧ x = jI z := ⟨x.toInt, j_rg x, (j_of x).symm⟩
theorem j_bmod (z : Int) : (jI z).toInt = z.bmod (2 ^ 32) := by unfold jI; rw [Int32.toInt_ofInt]
theorem j_add (a b : Int) : jI a + jI b = jI (a + b) := by
  apply Int32.toInt_inj.1
  rw [Int32.toInt_add, j_bmod, j_bmod, j_bmod]
  simp
theorem j_sub (a b : Int) : jI a - jI b = jI (a - b) := by
  apply Int32.toInt_inj.1
  rw [Int32.toInt_sub, j_bmod, j_bmod, j_bmod]
  simp
theorem j_mul (a b : Int) : jI a * jI b = jI (a * b) := by
  apply Int32.toInt_inj.1
  rw [Int32.toInt_mul, j_bmod, j_bmod, j_bmod]
  simp
theorem j_neg (a : Int) : -jI a = jI (-a) := by
  apply Int32.toInt_inj.1
  rw [Int32.toInt_neg, j_bmod, j_bmod]
  simp
theorem j_lt {a b : Int} (ha : rg a) (hb : rg b) : jI a < jI b ↔ a < b := by
  rw [Int32.lt_iff_toInt_lt, j_toInt ha, j_toInt hb]
theorem j_le {a b : Int} (ha : rg a) (hb : rg b) : jI a ≤ jI b ↔ a ≤ b := by
  rw [Int32.le_iff_toInt_le, j_toInt ha, j_toInt hb]
theorem j_eq {a b : Int} (ha : rg a) (hb : rg b) : jI a = jI b ↔ a = b := by
  rw [← Int32.toInt_inj, j_toInt ha, j_toInt hb]
theorem j_0 : jI 0 = 0 := rfl
theorem rg_0 : rg 0 := by unfold rg; omega
theorem j_nat (n : Nat) : nI n = jI (n : Int) := by
  unfold nI jI
  rfl
theorem j_clamp {z : Int} (h0 : 0 ≤ z) (h : z < 2147483648) : (jI z).toNatClampNeg = z.toNat := by
  show (jI z).toInt.toNat = z.toNat
  rw [j_toInt ⟨by omega, h⟩]
theorem j_in {z : Int} {n : Nat} (h : 0 ≤ z ∧ z < (n : Int)) (hn : n < 2147483648) : vp_in (jI z) n := by
  rw [vp_in_iff, j_toInt ⟨by omega, by omega⟩]
  exact h
theorem j_div {a b : Int} (ha : 0 ≤ a) (ha2 : a < 2147483648) (hb : 0 < b) (hb2 : b < 2147483648) : jI a / jI b = jI (a / b) := by
  obtain ⟨x, rfl⟩ := Int.eq_ofNat_of_zero_le ha
  obtain ⟨y, rfl⟩ := Int.eq_ofNat_of_zero_le (Int.le_of_lt hb)
  rw [← j_nat, ← j_nat, pk_div (by omega) (by omega) (by omega), j_nat]
  rfl
theorem j_rem {a b : Int} (ha : rg a) (hb : 0 < b) (hb2 : b < 2147483648) : jI a - jI a / jI b * jI b = jI (a.tmod b) := by
  apply Int32.toInt_inj.1
  have hbr : rg b := ⟨by omega, hb2⟩
  rw [rem_toInt, j_toInt ha, j_toInt hbr]
  have h := tmod_bounds (a := a) hb
  rw [j_toInt ⟨by omega, by omega⟩]
theorem j_remN {a b : Int} (ha : 0 ≤ a) (ha2 : a < 2147483648) (hb : 0 < b) (hb2 : b < 2147483648) : jI a - jI a / jI b * jI b = jI (a % b) := by
  rw [j_rem ⟨by omega, ha2⟩ hb hb2, Int.tmod_eq_emod_of_nonneg ha]
theorem l_toInt {z : Int} (h1 : -9223372036854775808 ≤ z) (h2 : z < 9223372036854775808) : (lI z).toInt = z := by
  have e : z.bmod (2 ^ 64) = z := Int.bmod_eq_of_le (by omega) (by omega)
  unfold lI
  rw [Int64.toInt_ofInt]
  exact e
theorem l_of (x : Int64) : lI x.toInt = x := Int64.ofInt_toInt x
theorem l_bmod (z : Int) : (lI z).toInt = z.bmod (2 ^ 64) := by unfold lI; rw [Int64.toInt_ofInt]
theorem l_add (a b : Int) : lI a + lI b = lI (a + b) := by
  apply Int64.toInt_inj.1
  rw [Int64.toInt_add, l_bmod, l_bmod, l_bmod]
  simp
theorem l_sub (a b : Int) : lI a - lI b = lI (a - b) := by
  apply Int64.toInt_inj.1
  rw [Int64.toInt_sub, l_bmod, l_bmod, l_bmod]
  simp
theorem l_mul (a b : Int) : lI a * lI b = lI (a * b) := by
  apply Int64.toInt_inj.1
  rw [Int64.toInt_mul, l_bmod, l_bmod, l_bmod]
  simp
theorem l_nat (n : Nat) : lN n = lI (n : Int) := by
  unfold lN lI
  rfl
theorem l_j {z : Int} (h : rg z) : (jI z).toInt64 = lI z := by
  apply Int64.toInt_inj.1
  rw [Int32.toInt_toInt64, j_toInt h, l_toInt (by have := h.1; omega) (by have := h.2; omega)]
/-! ===== memory: what the places hold ===== -/
abbrev Mem : Type := Nat → Int → Int
def st (V : Mem) (p : Nat) (k v : Int) : Mem := fun q j => if q = p ∧ j = k then v else V q j
def sp (V : Mem) (p : Nat) (f : Int → Int) : Mem := fun q => if q = p then f else V q
def ui (f : Int → Int) (k v : Int) : Int → Int := fun j => if j = k then v else f j
theorem ui_s (f : Int → Int) (k v : Int) : ui f k v k = v := by simp [ui]
theorem ui_n {f : Int → Int} {k v j : Int} (h : j ≠ k) : ui f k v j = f j := by simp [ui, h]
theorem ui_self (f : Int → Int) (k : Int) : ui f k (f k) = f := by funext j; unfold ui; split <;> simp_all
theorem ui_ui (f : Int → Int) (k v w : Int) : ui (ui f k v) k w = ui f k w := by funext j; unfold ui; split <;> simp_all
theorem st_sp (V : Mem) (p : Nat) (k v : Int) : st V p k v = sp V p (ui (V p) k v) := by
  funext q j
  unfold st sp ui
  by_cases h : q = p
  · subst h; simp
  · simp [h]
theorem sp_s (V : Mem) (p : Nat) (f : Int → Int) : sp V p f p = f := by simp [sp]
theorem sp_n {V : Mem} {p q : Nat} {f : Int → Int} (h : q ≠ p) : sp V p f q = V q := by simp [sp, h]
theorem sp_sp (V : Mem) (p : Nat) (f g : Int → Int) : sp (sp V p f) p g = sp V p g := by funext q; unfold sp; split <;> rfl
theorem sp_self (V : Mem) (p : Nat) : sp V p (V p) = V := by funext q; unfold sp; split <;> simp_all
theorem sp_comm (V : Mem) {p q : Nat} (f g : Int → Int) (h : p ≠ q) : sp (sp V p f) q g = sp (sp V q g) p f := by
  funext r; unfold sp
  by_cases h1 : r = q
  · by_cases h2 : r = p
    · exact absurd (h2.symm.trans h1) h
    · simp [h1, Ne.symm h]
  · simp [h1]
theorem st_s (V : Mem) (p : Nat) (k v : Int) : st V p k v p k = v := by simp [st]
theorem st_p {V : Mem} {p q : Nat} {k v : Int} (h : q ≠ p) : st V p k v q = V q := by funext j; simp [st, h]
theorem st_k {V : Mem} {p : Nat} {k j v : Int} (h : j ≠ k) : st V p k v p j = V p j := by simp [st, h]
end
section
/-! ===== a world: places, each an array of numbers or an object whose reference fields never change ===== -/
/-- .inl (kind, length): an array (0 int, 1 byte, 2 boolean, 3 long); .inr (class, fields): an object, a field none: an int, some r: the place r -/
abbrev Pd : Type := (Nat × Nat) ⊕ (Nat × List (Option Nat))
/-- class numbers and slots, array classes, addresses, the table of places, how many, addresses of statics -/
abbrev We : Type := va_G × (Nat → ClassId) × (Nat → Nat) × (Nat → Pd) × Nat × (Nat → Nat)
def wD (X : We) : va_G := X.1
def wC (X : We) : Nat → ClassId := X.2.1
def wa (X : We) : Nat → Nat := X.2.2.1
def wT (X : We) : Nat → Pd := X.2.2.2.1
def wn (X : We) : Nat := X.2.2.2.2.1
def wz (X : We) : Nat → Nat := X.2.2.2.2.2
def wtys (X : We) : List (ClassId × FieldType) := [(wC X 0, .int), (wC X 1, .byte), (wC X 2, .boolean), (wC X 3, .long)]
def wA (X : We) : Nat → Prop := fun q => ∃ p, p < wn X ∧ q = wa X p
def wI (X : We) : Prop := ∀ i j, i < wn X → j < wn X → wa X i = wa X j → i = j
def g_fv (X : We) (V : Mem) (p : Nat) : Nat → List (Option Nat) → List Value
  | _, [] => []
  | k, none :: fs => .int (jI (V p (k : Int))) :: g_fv X V p (k + 1) fs
  | k, some r :: fs => .ref (wa X r) :: g_fv X V p (k + 1) fs
def g_e (X : We) (V : Mem) (p : Nat) : va_E := match wT X p with
  | .inl (k, n) => if k = 3 then .inl (wC X 3, n, .inr (.inl (fun j => lI (V p (j : Int))))) else .inl (wC X k, n, .inl (fun j => jI (V p (j : Int))))
  | .inr (ci, fs) => .inr (ci, g_fv X V p 0 fs)
def gw (X : We) (V : Mem) : va_W := (List.range (wn X)).map (fun p => (wa X p, g_e X V p))
def GW (X : We) (V : Mem) (H : Heap) : Prop := va_P (wD X) vwCl (gw X V) H
theorem gw_get {X : We} {V : Mem} {p : Nat} (h : p < wn X) : (gw X V)[p]? = some (wa X p, g_e X V p) := by
  unfold gw
  rw [List.getElem?_map, List.getElem?_range h]
  rfl
theorem gw_lt {X : We} {V : Mem} {p : Nat} {q : Nat × va_E} (h : (gw X V)[p]? = some q) : p < wn X := by
  have := (List.getElem?_eq_some_iff.mp h).1
  simpa [gw] using this
theorem gw_at {X : We} {V : Mem} {p : Nat} {q : Nat × va_E} (h : (gw X V)[p]? = some q) : q = (wa X p, g_e X V p) := by
  rw [gw_get (gw_lt h)] at h
  exact (Option.some.inj h).symm
theorem gw_D {X : We} (hI : wI X) (V : Mem) : va_D (wA X) (gw X V) := by
  refine ⟨fun i j a b hi hj e => ?_, fun k q hk => ?_⟩
  · rw [gw_at hi, gw_at hj] at e
    exact hI i j (gw_lt hi) (gw_lt hj) e
  · rw [gw_at hk]
    exact ⟨k, gw_lt hk, rfl⟩
theorem g_fv_congr {X : We} {V V' : Mem} {p : Nat} (fs : List (Option Nat)) : ∀ k : Nat, (∀ j : Nat, k ≤ j → fs[j - k]? = some none → V' p (j : Int) = V p (j : Int)) → g_fv X V' p k fs = g_fv X V p k fs := by
  induction fs with
  | nil => intro k _; rfl
  | cons a fs ih =>
    intro k h
    have h2 := ih (k + 1) (fun j hj e => h j (by omega) (by rw [show j - k = (j - (k + 1)) + 1 by omega, List.getElem?_cons_succ]; exact e))
    cases a with
    | none =>
      show Value.int (jI (V' p (k : Int))) :: g_fv X V' p (k + 1) fs = Value.int (jI (V p (k : Int))) :: g_fv X V p (k + 1) fs
      rw [h2, h k (Nat.le_refl k) (by simp)]
    | some r =>
      show Value.ref (wa X r) :: g_fv X V' p (k + 1) fs = Value.ref (wa X r) :: g_fv X V p (k + 1) fs
      rw [h2]
theorem g_fv_get {X : We} {V : Mem} {p : Nat} (fs : List (Option Nat)) : ∀ (k j : Nat) (o : Option Nat), fs[j]? = some o → (g_fv X V p k fs)[j]? = some (match o with | none => Value.int (jI (V p ((k + j : Nat) : Int))) | some r => Value.ref (wa X r)) := by
  induction fs with
  | nil => intro k j o h; simp at h
  | cons a fs ih =>
    intro k j o h
    cases j with
    | zero =>
      simp at h
      subst h
      cases a <;> rfl
    | succ j =>
      rw [List.getElem?_cons_succ] at h
      have := ih (k + 1) j o h
      rw [show k + 1 + j = k + (j + 1) by omega] at this
      cases a
      · show (Value.int _ :: g_fv X V p (k + 1) fs)[j + 1]? = _
        rw [List.getElem?_cons_succ]; exact this
      · show (Value.ref _ :: g_fv X V p (k + 1) fs)[j + 1]? = _
        rw [List.getElem?_cons_succ]; exact this
theorem g_fv_len {X : We} {V : Mem} {p : Nat} (fs : List (Option Nat)) : ∀ k : Nat, (g_fv X V p k fs).length = fs.length := by
  induction fs with
  | nil => intro k; rfl
  | cons a fs ih =>
    intro k
    cases a
    · show (g_fv X V p (k + 1) fs).length + 1 = _
      rw [ih]; rfl
    · show (g_fv X V p (k + 1) fs).length + 1 = _
      rw [ih]; rfl
theorem g_fv_set {X : We} {V : Mem} {p : Nat} (v : Int) (fs : List (Option Nat)) : ∀ (k j : Nat), fs[j]? = some none → (g_fv X V p k fs).set j (.int (jI v)) = g_fv X (st V p ((k + j : Nat) : Int) v) p k fs := by
  induction fs with
  | nil => intro k j h; simp at h
  | cons a fs ih =>
    intro k j h
    cases j with
    | zero =>
      simp at h
      subst h
      show Value.int (jI v) :: g_fv X V p (k + 1) fs = Value.int (jI (st V p ((k : Nat) : Int) v p (k : Int))) :: g_fv X (st V p ((k : Nat) : Int) v) p (k + 1) fs
      rw [st_s, g_fv_congr (V := V) (V' := st V p ((k : Nat) : Int) v) fs (k + 1) (fun i hi _ => st_k (by omega))]
    | succ j =>
      rw [List.getElem?_cons_succ] at h
      have := ih (k + 1) j h
      rw [show k + 1 + j = k + (j + 1) by omega] at this
      cases a
      · show Value.int (jI (V p (k : Int))) :: (g_fv X V p (k + 1) fs).set j _ = Value.int (jI (st V p ((k + (j + 1) : Nat) : Int) v p (k : Int))) :: g_fv X _ p (k + 1) fs
        rw [this, st_k (by omega)]
      · show Value.ref _ :: (g_fv X V p (k + 1) fs).set j _ = Value.ref _ :: g_fv X _ p (k + 1) fs
        rw [this]
theorem g_e_congr {X : We} {V V' : Mem} {p : Nat} (h : V' p = V p) : g_e X V' p = g_e X V p := by
  unfold g_e
  rcases hT : wT X p with ⟨k, n⟩ | ⟨ci, fs⟩
  · simp only [h]
  · simp only
    rw [g_fv_congr (V := V) (V' := V') fs 0 (fun j _ _ => by rw [h])]
theorem gw_set {X : We} {V V' : Mem} {p : Nat} {e : va_E} (hp : p < wn X) (h : ∀ q, q ≠ p → V' q = V q) (he : e = g_e X V' p) : (gw X V).set p (wa X p, e) = gw X V' := by
  apply List.ext_getElem?
  intro k
  by_cases hk : k = p
  · subst hk
    rw [List.getElem?_set_self (by simpa [gw] using hp), gw_get hp, he]
  · rw [List.getElem?_set_ne (Ne.symm hk)]
    by_cases hl : k < wn X
    · rw [gw_get hl, gw_get hl, g_e_congr (h k hk)]
    · have h1 : (gw X V)[k]? = none := List.getElem?_eq_none (by simp [gw]; omega)
      have h2 : (gw X V')[k]? = none := List.getElem?_eq_none (by simp [gw]; omega)
      rw [h1, h2]
theorem g_e_obj {X : We} {V : Mem} {p ci : Nat} {fs : List (Option Nat)} (h : wT X p = .inr (ci, fs)) : g_e X V p = .inr (ci, g_fv X V p 0 fs) := by
  unfold g_e; rw [h]
theorem g_e_arr {X : We} {V : Mem} {p k n : Nat} (h : wT X p = .inl (k, n)) (hk : k ≠ 3) : g_e X V p = .inl (wC X k, n, .inl (fun j => jI (V p (j : Int)))) := by
  unfold g_e; rw [h]; simp [hk]
theorem g_e_long {X : We} {V : Mem} {p n : Nat} (h : wT X p = .inl (3, n)) : g_e X V p = .inl (wC X 3, n, .inr (.inl (fun j => lI (V p (j : Int))))) := by
  unfold g_e; rw [h]; simp
/-- the same cells, other names for what can't be seen -/
theorem arrV_congr {cA : ClassId} {n : Nat} {f g : Nat → Value} (h : ∀ j, j < n → f j = g j) : arrV cA n f = arrV cA n g := by
  unfold arrV
  congr 1
  apply Array.ext
  · simp
  · intro i h1 h2
    simp at h1
    simp [h i h1]
def seeN (d : Pd) (k : Int) : Prop := match d with
  | .inl a => 0 ≤ k ∧ k < (a.2 : Int)
  | .inr o => 0 ≤ k ∧ o.2[k.toNat]? = some none
theorem GW.ext {X : We} {V V' : Mem} {H : Heap} (h : GW X V H) (he : ∀ p k, p < wn X → seeN (wT X p) k → V' p k = V p k) : GW X V' H := by
  intro k q hq
  have hl := gw_lt hq
  have h0 := h k _ (gw_get hl)
  rw [gw_at hq]
  rcases hT : wT X k with ⟨kd, n⟩ | ⟨ci, fs⟩
  · by_cases h3 : kd = 3
    · subst h3
      rw [g_e_long hT] at h0 ⊢
      have e : vp_cell (wC X 3) (n, .inr (.inl (fun j => lI (V' k (j : Int))))) = vp_cell (wC X 3) (n, .inr (.inl (fun j => lI (V k (j : Int))))) := by
        show arrV (wC X 3) n (fun j => .long (lI (V' k (j : Int)))) = arrV (wC X 3) n (fun j => .long (lI (V k (j : Int))))
        exact arrV_congr (fun j hj => by rw [he k (j : Int) hl (by rw [hT]; exact ⟨by omega, by exact_mod_cast hj⟩)])
      show H[wa X k]? = some _
      rw [e]; exact h0
    · rw [g_e_arr hT h3] at h0 ⊢
      have e : vp_cell (wC X kd) (n, .inl (fun j => jI (V' k (j : Int)))) = vp_cell (wC X kd) (n, .inl (fun j => jI (V k (j : Int)))) := by
        show arrV (wC X kd) n (fun j => .int (jI (V' k (j : Int)))) = arrV (wC X kd) n (fun j => .int (jI (V k (j : Int))))
        exact arrV_congr (fun j hj => by rw [he k (j : Int) hl (by rw [hT]; exact ⟨by omega, by exact_mod_cast hj⟩)])
      show H[wa X k]? = some _
      rw [e]; exact h0
  · rw [g_e_obj hT] at h0 ⊢
    rw [g_fv_congr (V := V) (V' := V') fs 0 (fun j _ hj => he k (j : Int) hl (by rw [hT]; exact ⟨by omega, by simpa using hj⟩))]
    exact h0
end
section
/-! ===== statics, nest words and text constants: what every call may lean on ===== -/
def zNest : List (String × Nat × MethodName × String) := [(RX1, 11, yX0_init, RX7), (RX1, 66, yX7_copyRow, RX7), (RX7, 39, yX4_init, RX7), (RX4, 24, yX5_init, RX7), (RX7, 46, yX6_init, RX7), (RX7, 53, yX2_init, RX7), (RX4, 72, yX7_isWithin, RX7), (RX5, 32, yX7_copyRow, RX7), (RX1, 135, yX7_isWithin, RX7), (RX1, 185, yX7_nearest, RX7), (RX1, 27, yX5_init, RX7)]
def zLen : List Nat := [6, 7, 2, 4, 4]
def zByt : List (List Int32) := [[105, 110, 108, 97, 110, 100], [115, 101, 97, 119, 97, 114, 100], [117, 112], [100, 111, 119, 110], [99, 97, 108, 109]]
def zIdx : List Nat := [101, 103, 105, 107, 109]
def zTxt : List String := ["inland", "seaward", "up", "down", "calm"]
def zML : Nat → Value := fun j => .int (([100, 99, 20, 999] : List Int32).getD j 0)
def zFR : Nat → Value := fun j => .int (([2, 60, 40, 2, 2] : List Int32).getD j 0)
/-- wz: 0 MOST_LAID, 1 FIRST_RULES, 10.. the texts, 20.. their bytes -/
def ZF (z : Nat → Nat) (A : Nat → Prop) (U : State) (H : Heap) : Prop :=
  (∀ q ∈ zNest, va_Nw (.methodLinkNest q.1 q.2.1 q.2.2.1 q.2.2.2) U) ∧ va_Nw (.fieldLinkNest RX1 18 RX7 "FIRST_RULES" "[I" RX7) U ∧
  va_Z RX7 "MOST_LAID" "[I" (.ref (z 0)) A U H ∧ va_T .int (z 0) 4 zML A U H ∧ va_Z RX7 "FIRST_RULES" "[I" (.ref (z 1)) A U H ∧ va_T .int (z 1) 5 zFR A U H ∧
  va_Z "java/lang/String" "COMPACT_STRINGS" "Z" (.int 1) A U H ∧ vk_S 5 zLen zByt (fun i => z (10 + i)) (fun i => z (20 + i)) A U H ∧
  ∀ i, i < 5 → vk_R RX4 (zIdx.getD i 0) (zTxt.getD i "") (z (10 + i)) U
theorem ZF.warm {z : Nat → Nat} {A : Nat → Prop} {s U : State} {H : Heap} (hW : s.WarmedH U.vm) (h : ZF z A s H) : ZF z A U H := by
  obtain ⟨h1, h2, h3, h4, h5, h6, h7, h8, h9⟩ := h
  have a := hW.alike
  exact ⟨fun q hq => va_Nw.warmM hW (h1 q hq), va_Nw.warmF hW h2, h3.moved a, h4.moved a, h5.moved a, h6.moved a, h7.moved a, h8.moved a, fun i hi => vk_R.warm hW (h9 i hi)⟩
theorem ZF.same {z : Nat → Nat} {A : Nat → Prop} {s U : State} {H : Heap} (hv : U.vm = s.vm) (h : ZF z A s H) : ZF z A U H := by
  obtain ⟨h1, h2, h3, h4, h5, h6, h7, h8, h9⟩ := h
  have a : s.vm.Alike U.vm := by rw [hv]; exact Vm.Alike.refl _
  exact ⟨fun q hq => va_Nw.same rfl hv.symm (h1 q hq), va_Nw.same rfl hv.symm h2, h3.moved a, h4.moved a, h5.moved a, h6.moved a, h7.moved a, h8.moved a, fun i hi => vk_R.same hv (h9 i hi)⟩
theorem ZF.kept {z : Nat → Nat} {A : Nat → Prop} {U : State} {H H1 : Heap} (h : ZF z A U H) (hq : ∀ a : Nat, a < H.size → ¬ A a → H1[a]? = H[a]?) : ZF z A U H1 := by
  obtain ⟨h1, h2, h3, h4, h5, h6, h7, h8, h9⟩ := h
  exact ⟨h1, h2, h3.kept hq, h4.kept hq, h5.kept hq, h6.kept hq, h7.kept hq, h8.kept hq, h9⟩
theorem ZF.narrow {z : Nat → Nat} {A B : Nat → Prop} {U : State} {H : Heap} (h : ZF z A U H) (hAB : ∀ q, B q → A q) : ZF z B U H := by
  obtain ⟨h1, h2, h3, h4, h5, h6, h7, h8, h9⟩ := h
  exact ⟨h1, h2, h3.narrow hAB, h4.narrow hAB, h5.narrow hAB, h6.narrow hAB, h7.narrow hAB, h8.narrow hAB, h9⟩
/-! ===== contracts over a world ===== -/
def wL (X : We) : Prop := ∀ p q, wT X p = .inl q → q.2 < 2147483648
def GI (X : We) (V : Mem) (U : State) : Prop := va_K (wD X) vwCl (wtys X) U ∧ wI X ∧ wL X ∧ ZF (wz X) (wA X) U U.heap ∧ GW X V U.heap
def Mt (l : Launch) (X : We) (V : Mem) (y : MethodName) (cc : ByteArray) (nL : Nat) (ret : Option FieldType) (fr lo : Nat) (av : List Value) (Qc : Array Value → State → Outcome → State → Prop) : Prop :=
  Met l y (.code y cc nL ret :: gT) ({ frames := fr, cells := 0, slots := 0, locals := lo }) (va_Pc av (GI X V)) Qc 0 0 (wA X)
def Qi (X : We) (post : Int → Mem → Prop) : Array Value → State → Outcome → State → Prop := va_Qi (S := Mem) (fun r V' => ∃ z : Int, r = jI z ∧ post z V') (fun V' t => GW X V' t.heap) (wA X)
def Qv (X : We) (post : Mem → Prop) : Array Value → State → Outcome → State → Prop := va_Qv (S := Mem) post (fun V' t => GW X V' t.heap) (wA X)
def Ev (p : Program) (s : State) (m : MethodId) (meth : Method) (c : Code) (own : String) (cc : ByteArray) (nL : Nat) (args : Array Value) (ret : Option FieldType) : Prop :=
  p.tables.exec = Jvm.exec ∧ c.code = cc ∧ c.maxLocals = nL ∧ s.vm.findClass own = some m.cls ∧ (∀ w ∈ gT, w.before args s = true) ∧ meth.sig.returnType = ret ∧ meth.locks = false
theorem GI.blind {X : We} {V : Mem} {av : List Value} : FrameBlind (va_Pc av (GI X V)) := fun a U g mk q => by
  obtain ⟨q0, q1, q2, q3, q4, q5⟩ := q
  exact ⟨q0, va_K.moved (u := U) (U := U.calling g mk a) (Vm.Alike.refl U.vm) q1, q2, q3, ZF.same (s := U) (U := U.calling g mk a) rfl q4, q5⟩
theorem GI.at {X : We} {V0 V : Mem} {s U : State} {H : Heap} {locs : List Loc} (hI : GI X V0 s) (hG : GW X V H) (hS : va_S (wA X) s.heap H locs) (hU : U.heap = H) (hW : s.WarmedH U.vm) : GI X V U := by
  obtain ⟨q1, q2, q3, q4, q5⟩ := hI
  subst hU
  exact ⟨va_K.moved hW.alike q1, q2, q3, ZF.warm hW (q4.kept hS.2.1), hG⟩
theorem Mt.enter {l : Launch} {X : We} {V : Mem} {y : MethodName} {cc : ByteArray} {nL : Nat} {ret : Option FieldType} {fr lo : Nat} {av : List Value} {Qc : Array Value → State → Outcome → State → Prop} (hy : plainName y.cls = true) (hn : (lg_sl av).length ≤ nL)
    (body : ∀ (p : Program) (e : Env) (s : State) (m : MethodId) (below : List Frame) (meth : Method) (c : Code) (ls : Array Slot), Ev p s m meth c y.cls cc nL av.toArray ret → GI X V s → GW X V s.heap → va_S (wA X) s.heap s.heap [] → lv_has ls nL (lv_args 0 av) →
      W p l e ({ frames := fr, cells := 0, slots := 0, locals := lo }) s m av.toArray below meth c s.heap [] 0 0 (MQ below Qc av.toArray s 0 0 (wA X)) (F0 m 0 ls [])) : Mt l X V y cc nL ret fr lo av Qc := by
  refine Met.ofW (cc := cc) (maxL := nL) (ret := ret) hy rfl ?_
  intro p e s m args below meth c s₁ B hml hv
  obtain ⟨rfl, hI⟩ := hv
  have hts := atoms_spec (ws := .code y cc nL ret :: gT) B.pre
  have hown : s.vm.findClass y.cls = some m.cls := findClass_of_methodNamed B.named
  rw [lg_entry_eq]
  exact body p e s m below meth c _ ⟨B.exec, B.bytes, hml, hown, fun w hw => hts w (List.mem_cons_of_mem _ hw), B.returns, B.notSynchronized⟩ hI hI.2.2.2.2 va_S.rf (lv_entry av hn)
/-! ===== rows: an instruction each ===== -/
section XR
variable {p : Program} {l : Launch} {e : Env} {R : Room} {s : State} {m : MethodId} {args : Array Value} {below : List Frame} {meth : Method} {c : Code} {H : Heap} {locs : List Loc} {cells slots : Nat} {Q : State → Prop}
variable {own : String} {cc : ByteArray} {nL : Nat} {ret : Option FieldType} {pc : Nat} {ls : Array Slot} {rest : List Value}
theorem x_iconst (E : Ev p s m meth c own cc nL args ret) {n : Int} (hdg : decode cc pc = .ok (.iconst n, 1)) (k : W p l e R s m args below meth c H locs cells slots Q (F0 m (pc + 1) ls (.int (jI n) :: rest))) : W p l e R s m args below meth c H locs cells slots Q (F0 m pc ls rest) := lv_iconst E.1 E.2.1 hdg rfl k
theorem x_bipush (E : Ev p s m meth c own cc nL args ret) {n : Int} (hdg : decode cc pc = .ok (.bipush n, 2)) (hv : (Int8.ofInt n).toInt32 = jI n) (k : W p l e R s m args below meth c H locs cells slots Q (F0 m (pc + 2) ls (.int (jI n) :: rest))) : W p l e R s m args below meth c H locs cells slots Q (F0 m pc ls rest) := lv_bipush E.1 E.2.1 hdg hv k
theorem x_sipush (E : Ev p s m meth c own cc nL args ret) {n : Int} (hdg : decode cc pc = .ok (.sipush n, 3)) (hv : (Int16.ofInt n).toInt32 = jI n) (k : W p l e R s m args below meth c H locs cells slots Q (F0 m (pc + 3) ls (.int (jI n) :: rest))) : W p l e R s m args below meth c H locs cells slots Q (F0 m pc ls rest) := lv_sipush E.1 E.2.1 hdg hv k
theorem x_ldc (E : Ev p s m meth c own cc nL args ret) {index : Nat} {v : Int32} (n : Int) (hk : Cond.constant own index v ∈ gT) (hv : v = jI n) (hdg : decode cc pc = .ok (.ldc index, 2)) (k : W p l e R s m args below meth c H locs cells slots Q (F0 m (pc + 2) ls (.int (jI n) :: rest))) : W p l e R s m args below meth c H locs cells slots Q (F0 m pc ls rest) := lv_ldc E.1 E.2.1 E.2.2.2.1 (E.2.2.2.2.1 _ (hv ▸ hk)) hdg k
theorem x_iload_n (E : Ev p s m meth c own cc nL args ret) {kf : Fin 4} {x : Int32} (hdg : decode cc pc = .ok (.iload_n kf, 1)) (hl : ls[(kf : Nat)]? = some (.val (.int x))) (k : W p l e R s m args below meth c H locs cells slots Q (F0 m (pc + 1) ls (.int x :: rest))) : W p l e R s m args below meth c H locs cells slots Q (F0 m pc ls rest) := lv_iload_n E.1 E.2.1 hdg rfl hl k
theorem x_iload (E : Ev p s m meth c own cc nL args ret) {i : Nat} {x : Int32} (hdg : decode cc pc = .ok (.iload i, 2)) (hl : ls[i]? = some (.val (.int x))) (k : W p l e R s m args below meth c H locs cells slots Q (F0 m (pc + 2) ls (.int x :: rest))) : W p l e R s m args below meth c H locs cells slots Q (F0 m pc ls rest) := lv_iload E.1 E.2.1 hdg hl k
theorem x_lload_n (E : Ev p s m meth c own cc nL args ret) {kf : Fin 4} {x : Int64} (hdg : decode cc pc = .ok (.lload_n kf, 1)) (hl : ls[(kf : Nat)]? = some (.val (.long x))) (k : W p l e R s m args below meth c H locs cells slots Q (F0 m (pc + 1) ls (.long x :: rest))) : W p l e R s m args below meth c H locs cells slots Q (F0 m pc ls rest) := lv_lload_n E.1 E.2.1 hdg rfl hl k
theorem x_aload_n (E : Ev p s m meth c own cc nL args ret) {kf : Fin 4} {x : Nat} (hdg : decode cc pc = .ok (.aload_n kf, 1)) (hl : ls[(kf : Nat)]? = some (.val (.ref x))) (k : W p l e R s m args below meth c H locs cells slots Q (F0 m (pc + 1) ls (.ref x :: rest))) : W p l e R s m args below meth c H locs cells slots Q (F0 m pc ls rest) := lv_aload_n E.1 E.2.1 hdg rfl hl k
theorem x_aload (E : Ev p s m meth c own cc nL args ret) {i : Nat} {x : Nat} (hdg : decode cc pc = .ok (.aload i, 2)) (hl : ls[i]? = some (.val (.ref x))) (k : W p l e R s m args below meth c H locs cells slots Q (F0 m (pc + 2) ls (.ref x :: rest))) : W p l e R s m args below meth c H locs cells slots Q (F0 m pc ls rest) := lv_aload E.1 E.2.1 hdg hl k
theorem x_istore_n (E : Ev p s m meth c own cc nL args ret) {kf : Fin 4} {x : Int32} {lv : List (Nat × Value)} (lv' : List (Nat × Value)) (hdg : decode cc pc = .ok (.istore_n kf, 1)) (h : lv_has ls nL lv) (hn : (kf : Nat) < nL) (hl : ((kf : Nat), Value.int x) :: lv.filter (fun q => !(q.1 == (kf : Nat)) && !(q.1 + 1 == (kf : Nat) && q.2.category == 2)) = lv') (kk : ∀ ls' : Array Slot, lv_has ls' nL lv' → W p l e R s m args below meth c H locs cells slots Q (F0 m (pc + 1) ls' rest)) : W p l e R s m args below meth c H locs cells slots Q (F0 m pc ls (.int x :: rest)) := lv_istore_n E.1 E.2.1 hdg rfl h hn hl kk
theorem x_istore (E : Ev p s m meth c own cc nL args ret) {i : Nat} {x : Int32} {lv : List (Nat × Value)} (lv' : List (Nat × Value)) (hdg : decode cc pc = .ok (.istore i, 2)) (h : lv_has ls nL lv) (hn : i < nL) (hl : (i, Value.int x) :: lv.filter (fun q => !(q.1 == i) && !(q.1 + 1 == i && q.2.category == 2)) = lv') (kk : ∀ ls' : Array Slot, lv_has ls' nL lv' → W p l e R s m args below meth c H locs cells slots Q (F0 m (pc + 2) ls' rest)) : W p l e R s m args below meth c H locs cells slots Q (F0 m pc ls (.int x :: rest)) := lv_istore E.1 E.2.1 hdg h hn hl kk
theorem x_astore_n (E : Ev p s m meth c own cc nL args ret) {kf : Fin 4} {x : Nat} {lv : List (Nat × Value)} (lv' : List (Nat × Value)) (hdg : decode cc pc = .ok (.astore_n kf, 1)) (h : lv_has ls nL lv) (hn : (kf : Nat) < nL) (hl : ((kf : Nat), Value.ref x) :: lv.filter (fun q => !(q.1 == (kf : Nat)) && !(q.1 + 1 == (kf : Nat) && q.2.category == 2)) = lv') (kk : ∀ ls' : Array Slot, lv_has ls' nL lv' → W p l e R s m args below meth c H locs cells slots Q (F0 m (pc + 1) ls' rest)) : W p l e R s m args below meth c H locs cells slots Q (F0 m pc ls (.ref x :: rest)) := lv_astore_n E.1 E.2.1 hdg rfl h hn hl kk
theorem x_lstore_n (E : Ev p s m meth c own cc nL args ret) {kf : Fin 4} {x : Int64} {lv : List (Nat × Value)} (lv' : List (Nat × Value)) (hdg : decode cc pc = .ok (.lstore_n kf, 1)) (h : lv_has ls nL lv) (hn : (kf : Nat) + 1 < nL) (hl : ((kf : Nat), Value.long x) :: lv.filter (fun q => !(q.1 == (kf : Nat)) && (!(q.1 == (kf : Nat) + 1) && !(q.1 + 1 == (kf : Nat) && q.2.category == 2))) = lv') (kk : ∀ ls' : Array Slot, lv_has ls' nL lv' → W p l e R s m args below meth c H locs cells slots Q (F0 m (pc + 1) ls' rest)) : W p l e R s m args below meth c H locs cells slots Q (F0 m pc ls (.long x :: rest)) := lv_lstore_n E.1 E.2.1 hdg rfl h hn hl kk
theorem x_iinc (E : Ev p s m meth c own cc nL args ret) {i k : Nat} {n z : Int} {lv : List (Nat × Value)} (lv' : List (Nat × Value)) (hdg : decode cc pc = .ok (.iinc i n, 3)) (h : lv_has ls nL lv) (hk : lv[k]? = some (i, .int (jI z))) (hn : i < nL) (hl : (i, Value.int (jI (z + n))) :: lv.filter (fun q => !(q.1 == i) && !(q.1 + 1 == i && q.2.category == 2)) = lv') (kk : ∀ ls' : Array Slot, lv_has ls' nL lv' → W p l e R s m args below meth c H locs cells slots Q (F0 m (pc + 3) ls' rest)) : W p l e R s m args below meth c H locs cells slots Q (F0 m pc ls rest) := lv_iinc E.1 E.2.1 hdg h hk (j_add z n) hn hl kk
theorem x_iadd (E : Ev p s m meth c own cc nL args ret) {a b : Int} (hdg : decode cc pc = .ok (.iadd, 1)) (k : W p l e R s m args below meth c H locs cells slots Q (F0 m (pc + 1) ls (.int (jI (a + b)) :: rest))) : W p l e R s m args below meth c H locs cells slots Q (F0 m pc ls (.int (jI b) :: .int (jI a) :: rest)) := lv_iadd E.1 E.2.1 hdg (by rw [j_add]; exact k)
theorem x_isub (E : Ev p s m meth c own cc nL args ret) {a b : Int} (hdg : decode cc pc = .ok (.isub, 1)) (k : W p l e R s m args below meth c H locs cells slots Q (F0 m (pc + 1) ls (.int (jI (a - b)) :: rest))) : W p l e R s m args below meth c H locs cells slots Q (F0 m pc ls (.int (jI b) :: .int (jI a) :: rest)) := lv_isub E.1 E.2.1 hdg (by rw [j_sub]; exact k)
theorem x_imul (E : Ev p s m meth c own cc nL args ret) {a b : Int} (hdg : decode cc pc = .ok (.imul, 1)) (k : W p l e R s m args below meth c H locs cells slots Q (F0 m (pc + 1) ls (.int (jI (a * b)) :: rest))) : W p l e R s m args below meth c H locs cells slots Q (F0 m pc ls (.int (jI b) :: .int (jI a) :: rest)) := lv_imul E.1 E.2.1 hdg (by rw [j_mul]; exact k)
theorem x_ineg (E : Ev p s m meth c own cc nL args ret) {a : Int} (hdg : decode cc pc = .ok (.ineg, 1)) (k : W p l e R s m args below meth c H locs cells slots Q (F0 m (pc + 1) ls (.int (jI (-a)) :: rest))) : W p l e R s m args below meth c H locs cells slots Q (F0 m pc ls (.int (jI a) :: rest)) := lv_ineg E.1 E.2.1 hdg (by rw [j_neg]; exact k)
theorem x_idiv (E : Ev p s m meth c own cc nL args ret) {a b : Int} (ha : 0 ≤ a ∧ a < 2147483648) (hb : 0 < b ∧ b < 2147483648) (hdg : decode cc pc = .ok (.idiv, 1)) (k : W p l e R s m args below meth c H locs cells slots Q (F0 m (pc + 1) ls (.int (jI (a / b)) :: rest))) : W p l e R s m args below meth c H locs cells slots Q (F0 m pc ls (.int (jI b) :: .int (jI a) :: rest)) := lv_idiv E.1 E.2.1 hdg (fun h => by rw [← j_0, j_eq ⟨by omega, by omega⟩ rg_0] at h; omega) (by rw [j_div ha.1 ha.2 hb.1 hb.2]; exact k)
theorem x_irem (E : Ev p s m meth c own cc nL args ret) {a b : Int} (ha : 0 ≤ a ∧ a < 2147483648) (hb : 0 < b ∧ b < 2147483648) (hdg : decode cc pc = .ok (.irem, 1)) (k : W p l e R s m args below meth c H locs cells slots Q (F0 m (pc + 1) ls (.int (jI (a % b)) :: rest))) : W p l e R s m args below meth c H locs cells slots Q (F0 m pc ls (.int (jI b) :: .int (jI a) :: rest)) := lv_irem E.1 E.2.1 hdg (fun h => by rw [← j_0, j_eq ⟨by omega, by omega⟩ rg_0] at h; omega) (by rw [j_remN ha.1 ha.2 hb.1 hb.2]; exact k)
theorem x_iremT (E : Ev p s m meth c own cc nL args ret) {a b : Int} (ha : rg a) (hb : 0 < b ∧ b < 2147483648) (hdg : decode cc pc = .ok (.irem, 1)) (k : W p l e R s m args below meth c H locs cells slots Q (F0 m (pc + 1) ls (.int (jI (a.tmod b)) :: rest))) : W p l e R s m args below meth c H locs cells slots Q (F0 m pc ls (.int (jI b) :: .int (jI a) :: rest)) := lv_irem E.1 E.2.1 hdg (fun h => by rw [← j_0, j_eq ⟨by omega, by omega⟩ rg_0] at h; omega) (by rw [j_rem ha hb.1 hb.2]; exact k)
theorem x_dup (E : Ev p s m meth c own cc nL args ret) {v : Value} (hdg : decode cc pc = .ok (.dup, 1)) (hv : v.category = 1) (k : W p l e R s m args below meth c H locs cells slots Q (F0 m (pc + 1) ls (v :: v :: rest))) : W p l e R s m args below meth c H locs cells slots Q (F0 m pc ls (v :: rest)) := lv_dup E.1 E.2.1 hdg hv k
theorem x_pop (E : Ev p s m meth c own cc nL args ret) {v : Value} (hdg : decode cc pc = .ok (.pop, 1)) (hv : v.category = 1) (k : W p l e R s m args below meth c H locs cells slots Q (F0 m (pc + 1) ls rest)) : W p l e R s m args below meth c H locs cells slots Q (F0 m pc ls (v :: rest)) := lv_pop E.1 E.2.1 hdg hv k
theorem x_dup_x1 (E : Ev p s m meth c own cc nL args ret) {v w : Value} (hdg : decode cc pc = .ok (.dup_x1, 1)) (hv : v.category = 1) (hw : w.category = 1) (k : W p l e R s m args below meth c H locs cells slots Q (F0 m (pc + 1) ls (v :: w :: v :: rest))) : W p l e R s m args below meth c H locs cells slots Q (F0 m pc ls (v :: w :: rest)) := lv_dup_x1 E.1 E.2.1 hdg hv hw k
theorem x_dup2 (E : Ev p s m meth c own cc nL args ret) {v w : Value} (hdg : decode cc pc = .ok (.dup2, 1)) (hv : v.category = 1) (hw : w.category = 1) (k : W p l e R s m args below meth c H locs cells slots Q (F0 m (pc + 1) ls (v :: w :: v :: w :: rest))) : W p l e R s m args below meth c H locs cells slots Q (F0 m pc ls (v :: w :: rest)) := lv_dup2_11 E.1 E.2.1 hdg hv hw k
theorem x_goto (E : Ev p s m meth c own cc nL args ret) {off : Int} (tgt : Nat) (hdg : decode cc pc = .ok (.goto off, 3)) (ht : (pc : Int) + off = (tgt : Int)) (k : W p l e R s m args below meth c H locs cells slots Q (F0 m tgt ls rest)) : W p l e R s m args below meth c H locs cells slots Q (F0 m pc ls rest) := lv_goto E.1 E.2.1 hdg ht k
theorem x_top {a : Int} (k : ∀ b : Int, b = a → W p l e R s m args below meth c H locs cells slots Q (F0 m pc ls (.int (jI b) :: rest))) : W p l e R s m args below meth c H locs cells slots Q (F0 m pc ls (.int (jI a) :: rest)) := k a rfl
theorem x_topeq {a : Int} (b : Int) (h : a = b) (k : W p l e R s m args below meth c H locs cells slots Q (F0 m pc ls (.int (jI b) :: rest))) : W p l e R s m args below meth c H locs cells slots Q (F0 m pc ls (.int (jI a) :: rest)) := by subst h; exact k
theorem x_icmp_eq (E : Ev p s m meth c own cc nL args ret) {a b : Int} {off : Int} (tgt : Nat) (hdg : decode cc pc = .ok (.if_icmp .eq off, 3)) (ht : (pc : Int) + off = (tgt : Int)) (ha : rg a) (hb : rg b) (kt : a = b → W p l e R s m args below meth c H locs cells slots Q (F0 m tgt ls rest)) (kf : ¬ (a = b) → W p l e R s m args below meth c H locs cells slots Q (F0 m (pc + 3) ls rest)) : W p l e R s m args below meth c H locs cells slots Q (F0 m pc ls (.int (jI b) :: .int (jI a) :: rest)) := lv_icmp_eq E.1 E.2.1 hdg ht (fun h => kt ((j_eq ha hb).mp h)) (fun h => kf (fun q => h ((j_eq ha hb).mpr q)))
theorem x_if_eq (E : Ev p s m meth c own cc nL args ret) {a : Int} {off : Int} (tgt : Nat) (hdg : decode cc pc = .ok (.ifCond .eq off, 3)) (ht : (pc : Int) + off = (tgt : Int)) (ha : rg a) (kt : a = 0 → W p l e R s m args below meth c H locs cells slots Q (F0 m tgt ls rest)) (kf : ¬ (a = 0) → W p l e R s m args below meth c H locs cells slots Q (F0 m (pc + 3) ls rest)) : W p l e R s m args below meth c H locs cells slots Q (F0 m pc ls (.int (jI a) :: rest)) := lv_if_eq E.1 E.2.1 hdg ht (fun h => kt ((j_eq ha rg_0).mp h)) (fun h => kf (fun q => h ((j_eq ha rg_0).mpr q)))
theorem x_icmp_ne (E : Ev p s m meth c own cc nL args ret) {a b : Int} {off : Int} (tgt : Nat) (hdg : decode cc pc = .ok (.if_icmp .ne off, 3)) (ht : (pc : Int) + off = (tgt : Int)) (ha : rg a) (hb : rg b) (kt : a ≠ b → W p l e R s m args below meth c H locs cells slots Q (F0 m tgt ls rest)) (kf : a = b → W p l e R s m args below meth c H locs cells slots Q (F0 m (pc + 3) ls rest)) : W p l e R s m args below meth c H locs cells slots Q (F0 m pc ls (.int (jI b) :: .int (jI a) :: rest)) := lv_icmp_ne E.1 E.2.1 hdg ht (fun h => kt ((not_congr (j_eq ha hb)).mp h)) (fun h => kf ((j_eq ha hb).mp h))
theorem x_if_ne (E : Ev p s m meth c own cc nL args ret) {a : Int} {off : Int} (tgt : Nat) (hdg : decode cc pc = .ok (.ifCond .ne off, 3)) (ht : (pc : Int) + off = (tgt : Int)) (ha : rg a) (kt : a ≠ 0 → W p l e R s m args below meth c H locs cells slots Q (F0 m tgt ls rest)) (kf : a = 0 → W p l e R s m args below meth c H locs cells slots Q (F0 m (pc + 3) ls rest)) : W p l e R s m args below meth c H locs cells slots Q (F0 m pc ls (.int (jI a) :: rest)) := lv_if_ne E.1 E.2.1 hdg ht (fun h => kt ((not_congr (j_eq ha rg_0)).mp h)) (fun h => kf ((j_eq ha rg_0).mp h))
theorem x_icmp_lt (E : Ev p s m meth c own cc nL args ret) {a b : Int} {off : Int} (tgt : Nat) (hdg : decode cc pc = .ok (.if_icmp .lt off, 3)) (ht : (pc : Int) + off = (tgt : Int)) (ha : rg a) (hb : rg b) (kt : a < b → W p l e R s m args below meth c H locs cells slots Q (F0 m tgt ls rest)) (kf : ¬ (a < b) → W p l e R s m args below meth c H locs cells slots Q (F0 m (pc + 3) ls rest)) : W p l e R s m args below meth c H locs cells slots Q (F0 m pc ls (.int (jI b) :: .int (jI a) :: rest)) := lv_icmp_lt E.1 E.2.1 hdg ht (fun h => kt ((j_lt ha hb).mp h)) (fun h => kf (fun q => h ((j_lt ha hb).mpr q)))
theorem x_if_lt (E : Ev p s m meth c own cc nL args ret) {a : Int} {off : Int} (tgt : Nat) (hdg : decode cc pc = .ok (.ifCond .lt off, 3)) (ht : (pc : Int) + off = (tgt : Int)) (ha : rg a) (kt : a < 0 → W p l e R s m args below meth c H locs cells slots Q (F0 m tgt ls rest)) (kf : ¬ (a < 0) → W p l e R s m args below meth c H locs cells slots Q (F0 m (pc + 3) ls rest)) : W p l e R s m args below meth c H locs cells slots Q (F0 m pc ls (.int (jI a) :: rest)) := lv_if_lt E.1 E.2.1 hdg ht (fun h => kt ((j_lt ha rg_0).mp h)) (fun h => kf (fun q => h ((j_lt ha rg_0).mpr q)))
theorem x_icmp_ge (E : Ev p s m meth c own cc nL args ret) {a b : Int} {off : Int} (tgt : Nat) (hdg : decode cc pc = .ok (.if_icmp .ge off, 3)) (ht : (pc : Int) + off = (tgt : Int)) (ha : rg a) (hb : rg b) (kt : b ≤ a → W p l e R s m args below meth c H locs cells slots Q (F0 m tgt ls rest)) (kf : ¬ (b ≤ a) → W p l e R s m args below meth c H locs cells slots Q (F0 m (pc + 3) ls rest)) : W p l e R s m args below meth c H locs cells slots Q (F0 m pc ls (.int (jI b) :: .int (jI a) :: rest)) := lv_icmp_ge E.1 E.2.1 hdg ht (fun h => kt ((j_le hb ha).mp h)) (fun h => kf (fun q => h ((j_le hb ha).mpr q)))
theorem x_if_ge (E : Ev p s m meth c own cc nL args ret) {a : Int} {off : Int} (tgt : Nat) (hdg : decode cc pc = .ok (.ifCond .ge off, 3)) (ht : (pc : Int) + off = (tgt : Int)) (ha : rg a) (kt : 0 ≤ a → W p l e R s m args below meth c H locs cells slots Q (F0 m tgt ls rest)) (kf : ¬ (0 ≤ a) → W p l e R s m args below meth c H locs cells slots Q (F0 m (pc + 3) ls rest)) : W p l e R s m args below meth c H locs cells slots Q (F0 m pc ls (.int (jI a) :: rest)) := lv_if_ge E.1 E.2.1 hdg ht (fun h => kt ((j_le rg_0 ha).mp h)) (fun h => kf (fun q => h ((j_le rg_0 ha).mpr q)))
theorem x_icmp_gt (E : Ev p s m meth c own cc nL args ret) {a b : Int} {off : Int} (tgt : Nat) (hdg : decode cc pc = .ok (.if_icmp .gt off, 3)) (ht : (pc : Int) + off = (tgt : Int)) (ha : rg a) (hb : rg b) (kt : b < a → W p l e R s m args below meth c H locs cells slots Q (F0 m tgt ls rest)) (kf : ¬ (b < a) → W p l e R s m args below meth c H locs cells slots Q (F0 m (pc + 3) ls rest)) : W p l e R s m args below meth c H locs cells slots Q (F0 m pc ls (.int (jI b) :: .int (jI a) :: rest)) := lv_icmp_gt E.1 E.2.1 hdg ht (fun h => kt ((j_lt hb ha).mp h)) (fun h => kf (fun q => h ((j_lt hb ha).mpr q)))
theorem x_if_gt (E : Ev p s m meth c own cc nL args ret) {a : Int} {off : Int} (tgt : Nat) (hdg : decode cc pc = .ok (.ifCond .gt off, 3)) (ht : (pc : Int) + off = (tgt : Int)) (ha : rg a) (kt : 0 < a → W p l e R s m args below meth c H locs cells slots Q (F0 m tgt ls rest)) (kf : ¬ (0 < a) → W p l e R s m args below meth c H locs cells slots Q (F0 m (pc + 3) ls rest)) : W p l e R s m args below meth c H locs cells slots Q (F0 m pc ls (.int (jI a) :: rest)) := lv_if_gt E.1 E.2.1 hdg ht (fun h => kt ((j_lt rg_0 ha).mp h)) (fun h => kf (fun q => h ((j_lt rg_0 ha).mpr q)))
theorem x_icmp_le (E : Ev p s m meth c own cc nL args ret) {a b : Int} {off : Int} (tgt : Nat) (hdg : decode cc pc = .ok (.if_icmp .le off, 3)) (ht : (pc : Int) + off = (tgt : Int)) (ha : rg a) (hb : rg b) (kt : a ≤ b → W p l e R s m args below meth c H locs cells slots Q (F0 m tgt ls rest)) (kf : ¬ (a ≤ b) → W p l e R s m args below meth c H locs cells slots Q (F0 m (pc + 3) ls rest)) : W p l e R s m args below meth c H locs cells slots Q (F0 m pc ls (.int (jI b) :: .int (jI a) :: rest)) := lv_icmp_le E.1 E.2.1 hdg ht (fun h => kt ((j_le ha hb).mp h)) (fun h => kf (fun q => h ((j_le ha hb).mpr q)))
theorem x_if_le (E : Ev p s m meth c own cc nL args ret) {a : Int} {off : Int} (tgt : Nat) (hdg : decode cc pc = .ok (.ifCond .le off, 3)) (ht : (pc : Int) + off = (tgt : Int)) (ha : rg a) (kt : a ≤ 0 → W p l e R s m args below meth c H locs cells slots Q (F0 m tgt ls rest)) (kf : ¬ (a ≤ 0) → W p l e R s m args below meth c H locs cells slots Q (F0 m (pc + 3) ls rest)) : W p l e R s m args below meth c H locs cells slots Q (F0 m pc ls (.int (jI a) :: rest)) := lv_if_le E.1 E.2.1 hdg ht (fun h => kt ((j_le ha rg_0).mp h)) (fun h => kf (fun q => h ((j_le ha rg_0).mpr q)))
end XR
end
section
/-- what is known of a class: its number, its fields' words, types, names -/
def ClF (ci : Nat) (C : String) (T : u_T) (ty : Nat → FieldType) (N : Nat) : Prop := vwCl[ci]? = some (C, T, N) ∧ (∀ w ∈ u_ws C T N, w ∈ gT) ∧ (∀ k, k < N → parseFieldDescriptor (T k).2.2.1 = some (ty k)) ∧ ∀ a, a < N → ∀ b, b < N → a ≠ b → (T a).2.1 ≠ (T b).2.1
theorem cf0 : ClF 0 RX0 TX0 tyX0 1 := ⟨rfl, inX0, tyX0_ok, nmX0⟩
theorem cf1 : ClF 1 RX1 TX1 tyX1 16 := ⟨rfl, inX1, tyX1_ok, nmX1⟩
theorem cf2 : ClF 2 RX2 TX2 tyX2 4 := ⟨rfl, inX2, tyX2_ok, nmX2⟩
theorem cf3 : ClF 3 RX3 TX3 tyX3 4 := ⟨rfl, inX3, tyX3_ok, nmX3⟩
theorem cf4 : ClF 4 RX4 TX4 tyX4 5 := ⟨rfl, inX4, tyX4_ok, nmX4⟩
theorem cf5 : ClF 5 RX5 TX5 tyX5 5 := ⟨rfl, inX5, tyX5_ok, nmX5⟩
theorem cf6 : ClF 6 RX6 TX6 tyX6 5 := ⟨rfl, inX6, tyX6_ok, nmX6⟩
theorem cf7 : ClF 7 RX7 TX7 tyX7 8 := ⟨rfl, inX7, tyX7_ok, nmX7⟩
theorem cf8 : ClF 8 RX8 TX8 tyX8 50 := ⟨rfl, inX8, tyX8_ok, nmX8⟩
/-- a place of the table -/
def At (X : We) (p : Nat) (d : Pd) : Prop := wT X p = d ∧ p < wn X
section XM
variable {p : Program} {l : Launch} {e : Env} {R : Room} {s : State} {m : MethodId} {args : Array Value} {below : List Frame} {meth : Method} {c : Code} {H : Heap} {locs : List Loc} {cells slots : Nat} {Q : State → Prop}
variable {own : String} {cc : ByteArray} {nL : Nat} {ret : Option FieldType} {pc : Nat} {ls : Array Slot} {rest : List Value}
variable {X : We} {V0 V : Mem} {q : Nat}
theorem GW.cell {ci : Nat} {fs : List (Option Nat)} (hT : At X q (.inr (ci, fs))) : (gw X V)[q]? = some (wa X q, .inr (ci, g_fv X V q 0 fs)) := by
  rw [gw_get hT.2, g_e_obj hT.1]
theorem GW.row {k n : Nat} (hT : At X q (.inl (k, n))) (hk : k ≠ 3) : (gw X V)[q]? = some (wa X q, .inl (wC X k, n, .inl (fun j => jI (V q (j : Int))))) := by
  rw [gw_get hT.2, g_e_arr hT.1 hk]
theorem GW.rowL {n : Nat} (hT : At X q (.inl (3, n))) : (gw X V)[q]? = some (wa X q, .inl (wC X 3, n, .inr (.inl (fun j => lI (V q (j : Int)))))) := by
  rw [gw_get hT.2, g_e_long hT.1]
theorem x_getr (E : Ev p s m meth c own cc nL args ret) (hI : GI X V0 s) (hG : GW X V H) {ci : Nat} {fs : List (Option Nat)} (hT : At X q (.inr (ci, fs))) {C : String} {T : u_T} {ty : Nat → FieldType} {N : Nat} (cf : ClF ci C T ty N) (k r : Nat) (hf : fs[k]? = some (some r)) (hk : k < N) {index : Nat} (hlk : Cond.fieldLink own index (T k).1 (T k).2.1 (T k).2.2.1 ∈ gT) (hdg : decode cc pc = .ok (.getfield index, 3))
    (kk : W p l e R s m args below meth c H locs cells slots Q (F0 m (pc + 3) ls (.ref (wa X r) :: rest))) : W p l e R s m args below meth c H locs cells slots Q (F0 m pc ls (.ref (wa X q) :: rest)) :=
  va_get (C := C) (T := T) (N := N) (ci := ci) E.1 E.2.1 E.2.2.2.2.1 cf.2.1 E.2.2.2.1 hI.1 hG q (GW.cell hT) cf.1 k hk (E.2.2.2.2.1 _ hlk) (fun _ h => h) (by rw [g_fv_get fs 0 k _ hf]) hdg kk
theorem x_geti (E : Ev p s m meth c own cc nL args ret) (hI : GI X V0 s) (hG : GW X V H) {ci : Nat} {fs : List (Option Nat)} (hT : At X q (.inr (ci, fs))) {C : String} {T : u_T} {ty : Nat → FieldType} {N : Nat} (cf : ClF ci C T ty N) (k : Nat) (z : Int) (hf : fs[k]? = some none) (hk : k < N) (hz : V q ((k : Nat) : Int) = z) {index : Nat} (hlk : Cond.fieldLink own index (T k).1 (T k).2.1 (T k).2.2.1 ∈ gT) (hdg : decode cc pc = .ok (.getfield index, 3))
    (kk : W p l e R s m args below meth c H locs cells slots Q (F0 m (pc + 3) ls (.int (jI z) :: rest))) : W p l e R s m args below meth c H locs cells slots Q (F0 m pc ls (.ref (wa X q) :: rest)) :=
  va_get (C := C) (T := T) (N := N) (ci := ci) E.1 E.2.1 E.2.2.2.2.1 cf.2.1 E.2.2.2.1 hI.1 hG q (GW.cell hT) cf.1 k hk (E.2.2.2.2.1 _ hlk) (fun _ h => h) (by rw [g_fv_get fs 0 k _ hf]) hdg (by simp only [Nat.zero_add]; rw [hz]; exact kk)
theorem x_puti (E : Ev p s m meth c own cc nL args ret) (hI : GI X V0 s) (hG : GW X V H) (hS : va_S (wA X) s.heap H locs) {ci : Nat} {fs : List (Option Nat)} (hT : At X q (.inr (ci, fs))) {C : String} {T : u_T} {ty : Nat → FieldType} {N : Nat} (cf : ClF ci C T ty N) (k : Nat) (ki : Int) (hki : ((k : Nat) : Int) = ki) (hf : fs[k]? = some none) (hk : k < N) (hint : (T k).2.2.1 = "I") (hfin : (T k).2.2.2 = false) {v : Int} {index : Nat} (hlk : Cond.fieldLink own index (T k).1 (T k).2.1 (T k).2.2.1 ∈ gT) (hdg : decode cc pc = .ok (.putfield index, 3))
    (kk : ∀ (H1 : Heap) (locs1 : List Loc), GW X (st V q ki v) H1 → va_S (wA X) s.heap H1 locs1 → W p l e R s m args below meth c H1 locs1 cells slots Q (F0 m (pc + 3) ls rest)) : W p l e R s m args below meth c H locs cells slots Q (F0 m pc ls (.int (jI v) :: .ref (wa X q) :: rest)) := by
  subst hki
  refine va_put (C := C) (T := T) (N := N) (ci := ci) (ty := .int) E.1 E.2.1 E.2.2.2.2.1 cf.2.1 ty cf.2.2.1 cf.2.2.2 E.2.2.2.1 hI.1 hG (gw_D hI.2.1 V) hS q (GW.cell hT) cf.1 k hk (E.2.2.2.2.1 _ hlk) (fun _ h => h) hfin (by rw [hint]; decide) rfl rfl (by rw [g_fv_len]; exact (List.getElem?_eq_some_iff.mp hf).1) hdg (fun H1 locs1 hP1 _ hS1 => kk H1 locs1 ?_ hS1)
  rw [gw_set (V' := st V q ((k : Nat) : Int) v) hT.2 (fun r hr => st_p hr) (by rw [g_e_obj hT.1, g_fv_set v fs 0 k hf, Nat.zero_add])] at hP1
  exact hP1
theorem x_iald (E : Ev p s m meth c own cc nL args ret) (hI : GI X V0 s) (hG : GW X V H) {n : Nat} (hT : At X q (.inl (0, n))) {z : Int} (v : Int) (hv : V q z = v) (hin : 0 ≤ z ∧ z < (n : Int)) (hdg : decode cc pc = .ok (.iaload, 1))
    (kk : W p l e R s m args below meth c H locs cells slots Q (F0 m (pc + 1) ls (.int (jI v) :: rest))) : W p l e R s m args below meth c H locs cells slots Q (F0 m pc ls (.int (jI z) :: .ref (wa X q) :: rest)) := by
  have hn : n < 2147483648 := hI.2.2.1 q _ hT.1
  refine va_iald E.1 E.2.1 hI.1 hG q 0 (GW.row hT (by decide)) rfl (j_in hin hn) hdg ?_
  rw [j_clamp hin.1 (by omega), Int.toNat_of_nonneg hin.1, hv]
  exact kk
theorem x_bald (E : Ev p s m meth c own cc nL args ret) (hI : GI X V0 s) (hG : GW X V H) {n : Nat} (hT : At X q (.inl (1, n))) {z : Int} (v : Int) (hv : V q z = v) (hin : 0 ≤ z ∧ z < (n : Int)) (hdg : decode cc pc = .ok (.baload, 1))
    (kk : W p l e R s m args below meth c H locs cells slots Q (F0 m (pc + 1) ls (.int (jI v) :: rest))) : W p l e R s m args below meth c H locs cells slots Q (F0 m pc ls (.int (jI z) :: .ref (wa X q) :: rest)) := by
  have hn : n < 2147483648 := hI.2.2.1 q _ hT.1
  refine va_bald E.1 E.2.1 hI.1 hG q 1 (GW.row hT (by decide)) rfl (j_in hin hn) hdg ?_
  rw [j_clamp hin.1 (by omega), Int.toNat_of_nonneg hin.1, hv]
  exact kk
theorem x_zald (E : Ev p s m meth c own cc nL args ret) (hI : GI X V0 s) (hG : GW X V H) {n : Nat} (hT : At X q (.inl (2, n))) {z : Int} (v : Int) (hv : V q z = v) (hin : 0 ≤ z ∧ z < (n : Int)) (hdg : decode cc pc = .ok (.baload, 1))
    (kk : W p l e R s m args below meth c H locs cells slots Q (F0 m (pc + 1) ls (.int (jI v) :: rest))) : W p l e R s m args below meth c H locs cells slots Q (F0 m pc ls (.int (jI z) :: .ref (wa X q) :: rest)) := by
  have hn : n < 2147483648 := hI.2.2.1 q _ hT.1
  refine va_zald E.1 E.2.1 hI.1 hG q 2 (GW.row hT (by decide)) rfl (j_in hin hn) hdg ?_
  rw [j_clamp hin.1 (by omega), Int.toNat_of_nonneg hin.1, hv]
  exact kk
theorem x_lald (E : Ev p s m meth c own cc nL args ret) (hI : GI X V0 s) (hG : GW X V H) {n : Nat} (hT : At X q (.inl (3, n))) {z : Int} (v : Int) (hv : V q z = v) (hin : 0 ≤ z ∧ z < (n : Int)) (hdg : decode cc pc = .ok (.laload, 1))
    (kk : W p l e R s m args below meth c H locs cells slots Q (F0 m (pc + 1) ls (.long (lI v) :: rest))) : W p l e R s m args below meth c H locs cells slots Q (F0 m pc ls (.int (jI z) :: .ref (wa X q) :: rest)) := by
  have hn : n < 2147483648 := hI.2.2.1 q _ hT.1
  refine va_lald E.1 E.2.1 hI.1 hG q 3 (GW.rowL hT) rfl (j_in hin hn) hdg ?_
  rw [j_clamp hin.1 (by omega), Int.toNat_of_nonneg hin.1, hv]
  exact kk
theorem upd_st {V : Mem} {q : Nat} {z v : Int} (hz : 0 ≤ z) : upd (fun j => jI (V q (j : Int))) z.toNat (jI v) = fun j : Nat => jI (st V q z v q (j : Int)) := by
  funext j
  unfold upd
  by_cases h : j = z.toNat
  · subst h
    rw [if_pos rfl, Int.toNat_of_nonneg hz, st_s]
  · rw [if_neg h, st_k (by omega)]
theorem updL_st {V : Mem} {q : Nat} {z v : Int} (hz : 0 ≤ z) : vp_updL (fun j => lI (V q (j : Int))) z.toNat (lI v) = fun j : Nat => lI (st V q z v q (j : Int)) := by
  funext j
  unfold vp_updL
  by_cases h : j = z.toNat
  · subst h
    rw [if_pos rfl, Int.toNat_of_nonneg hz, st_s]
  · rw [if_neg h, st_k (by omega)]
theorem x_iast (E : Ev p s m meth c own cc nL args ret) (hI : GI X V0 s) (hG : GW X V H) (hS : va_S (wA X) s.heap H locs) {n : Nat} (hT : At X q (.inl (0, n))) {z v : Int} (hin : 0 ≤ z ∧ z < (n : Int)) (hdg : decode cc pc = .ok (.iastore, 1))
    (kk : ∀ (H1 : Heap) (locs1 : List Loc), GW X (st V q z v) H1 → va_S (wA X) s.heap H1 locs1 → W p l e R s m args below meth c H1 locs1 cells slots Q (F0 m (pc + 1) ls rest)) : W p l e R s m args below meth c H locs cells slots Q (F0 m pc ls (.int (jI v) :: .int (jI z) :: .ref (wa X q) :: rest)) := by
  have hn : n < 2147483648 := hI.2.2.1 q _ hT.1
  refine va_iast E.1 E.2.1 hI.1 hG (gw_D hI.2.1 V) hS q 0 (GW.row hT (by decide)) rfl (j_in hin hn) hdg (fun H1 locs1 hP1 _ hS1 => kk H1 locs1 ?_ hS1)
  rw [j_clamp hin.1 (by omega), upd_st hin.1, gw_set (V' := st V q z v) hT.2 (fun r hr => st_p hr) (by rw [g_e_arr hT.1 (by decide)])] at hP1
  exact hP1
theorem x_bast (E : Ev p s m meth c own cc nL args ret) (hI : GI X V0 s) (hG : GW X V H) (hS : va_S (wA X) s.heap H locs) {n : Nat} (hT : At X q (.inl (1, n))) {z v : Int} (hin : 0 ≤ z ∧ z < (n : Int)) (hv : -128 ≤ v ∧ v < 128) (hdg : decode cc pc = .ok (.bastore, 1))
    (kk : ∀ (H1 : Heap) (locs1 : List Loc), GW X (st V q z v) H1 → va_S (wA X) s.heap H1 locs1 → W p l e R s m args below meth c H1 locs1 cells slots Q (F0 m (pc + 1) ls rest)) : W p l e R s m args below meth c H locs cells slots Q (F0 m pc ls (.int (jI v) :: .int (jI z) :: .ref (wa X q) :: rest)) := by
  have hn : n < 2147483648 := hI.2.2.1 q _ hT.1
  have hb : vp_nar .byte (jI v) = jI v := by
    rw [vp_nar_byte]
    apply Int32.toInt_inj.1
    have hr : rg v := ⟨by omega, by omega⟩
    rw [Int8.toInt_toInt32, Int32.toInt_toInt8, j_toInt hr, Int.bmod_eq_of_le (by omega) (by omega)]
  refine va_bast E.1 E.2.1 hI.1 hG (gw_D hI.2.1 V) hS q 1 (GW.row hT (by decide)) rfl (j_in hin hn) hdg (fun H1 locs1 hP1 _ hS1 => kk H1 locs1 ?_ hS1)
  rw [hb, j_clamp hin.1 (by omega), upd_st hin.1, gw_set (V' := st V q z v) hT.2 (fun r hr => st_p hr) (by rw [g_e_arr hT.1 (by decide)])] at hP1
  exact hP1
theorem x_zast (E : Ev p s m meth c own cc nL args ret) (hI : GI X V0 s) (hG : GW X V H) (hS : va_S (wA X) s.heap H locs) {n : Nat} (hT : At X q (.inl (2, n))) {z v : Int} (hin : 0 ≤ z ∧ z < (n : Int)) (hv : v = 0 ∨ v = 1) (hdg : decode cc pc = .ok (.bastore, 1))
    (kk : ∀ (H1 : Heap) (locs1 : List Loc), GW X (st V q z v) H1 → va_S (wA X) s.heap H1 locs1 → W p l e R s m args below meth c H1 locs1 cells slots Q (F0 m (pc + 1) ls rest)) : W p l e R s m args below meth c H locs cells slots Q (F0 m pc ls (.int (jI v) :: .int (jI z) :: .ref (wa X q) :: rest)) := by
  have hn : n < 2147483648 := hI.2.2.1 q _ hT.1
  have hb : vp_nar .boolean (jI v) = jI v := by rcases hv with rfl | rfl <;> decide
  refine va_zast E.1 E.2.1 hI.1 hG (gw_D hI.2.1 V) hS q 2 (GW.row hT (by decide)) rfl (j_in hin hn) hdg (fun H1 locs1 hP1 _ hS1 => kk H1 locs1 ?_ hS1)
  rw [hb, j_clamp hin.1 (by omega), upd_st hin.1, gw_set (V' := st V q z v) hT.2 (fun r hr => st_p hr) (by rw [g_e_arr hT.1 (by decide)])] at hP1
  exact hP1
theorem x_last (E : Ev p s m meth c own cc nL args ret) (hI : GI X V0 s) (hG : GW X V H) (hS : va_S (wA X) s.heap H locs) {n : Nat} (hT : At X q (.inl (3, n))) {z v : Int} (hin : 0 ≤ z ∧ z < (n : Int)) (hdg : decode cc pc = .ok (.lastore, 1))
    (kk : ∀ (H1 : Heap) (locs1 : List Loc), GW X (st V q z v) H1 → va_S (wA X) s.heap H1 locs1 → W p l e R s m args below meth c H1 locs1 cells slots Q (F0 m (pc + 1) ls rest)) : W p l e R s m args below meth c H locs cells slots Q (F0 m pc ls (.long (lI v) :: .int (jI z) :: .ref (wa X q) :: rest)) := by
  have hn : n < 2147483648 := hI.2.2.1 q _ hT.1
  refine va_last E.1 E.2.1 hI.1 hG (gw_D hI.2.1 V) hS q 3 (GW.rowL hT) rfl (j_in hin hn) hdg (fun H1 locs1 hP1 _ hS1 => kk H1 locs1 ?_ hS1)
  rw [j_clamp hin.1 (by omega), updL_st hin.1, gw_set (V' := st V q z v) hT.2 (fun r hr => st_p hr) (by rw [g_e_long hT.1])] at hP1
  exact hP1
theorem x_alen (E : Ev p s m meth c own cc nL args ret) (hI : GI X V0 s) (hG : GW X V H) {k n : Nat} (hT : At X q (.inl (k, n))) (hk : k = 0 ∨ k = 1 ∨ k = 2) (hdg : decode cc pc = .ok (.arraylength, 1))
    (kk : W p l e R s m args below meth c H locs cells slots Q (F0 m (pc + 1) ls (.int (jI (n : Int)) :: rest))) : W p l e R s m args below meth c H locs cells slots Q (F0 m pc ls (.ref (wa X q) :: rest)) := by
  rcases hk with rfl | rfl | rfl
  · exact va_alen E.1 E.2.1 hI.1 hG q 0 (GW.row hT (by decide)) (ty := .int) rfl rfl hdg kk
  · exact va_alen E.1 E.2.1 hI.1 hG q 1 (GW.row hT (by decide)) (ty := .byte) rfl rfl hdg kk
  · exact va_alen E.1 E.2.1 hI.1 hG q 2 (GW.row hT (by decide)) (ty := .boolean) rfl rfl hdg kk
theorem x_alenL (E : Ev p s m meth c own cc nL args ret) (hI : GI X V0 s) (hG : GW X V H) {n : Nat} (hT : At X q (.inl (3, n))) (hdg : decode cc pc = .ok (.arraylength, 1))
    (kk : W p l e R s m args below meth c H locs cells slots Q (F0 m (pc + 1) ls (.int (jI (n : Int)) :: rest))) : W p l e R s m args below meth c H locs cells slots Q (F0 m pc ls (.ref (wa X q) :: rest)) :=
  va_alen E.1 E.2.1 hI.1 hG q 3 (GW.rowL hT) (ty := .long) rfl rfl hdg kk
theorem x_iret (E : Ev p s m meth c own cc nL args (some .int)) (hG : GW X V H) (hS : va_S (wA X) s.heap H locs) {post : Int → Mem → Prop} {z : Int} (hp : post z V) (hdg : decode cc pc = .ok (.ireturn, 1)) : W p l e R s m args below meth c H locs cells slots (MQ below (Qi X post) args s cells slots (wA X)) (F0 m pc ls [.int (jI z)]) :=
  W.iret (v := jI z) E.1 E.2.1 E.2.2.2.2.2.1 (fun t ht hW => ⟨⟨jI z, V, rfl, ⟨z, rfl, hp⟩, by show GW X V t.heap; rw [ht]; exact hG⟩, hS.F ht⟩) hS.2.2 hdg E.2.2.2.2.2.2
theorem x_zret (E : Ev p s m meth c own cc nL args (some .boolean)) (hG : GW X V H) (hS : va_S (wA X) s.heap H locs) {post : Int → Mem → Prop} {z : Int} (hz : z = 0 ∨ z = 1) (hp : post z V) (hdg : decode cc pc = .ok (.ireturn, 1)) : W p l e R s m args below meth c H locs cells slots (MQ below (Qi X post) args s cells slots (wA X)) (F0 m pc ls [.int (jI z)]) :=
  W.zret (v := jI z) E.1 E.2.1 E.2.2.2.2.2.1 (by rcases hz with rfl | rfl <;> rfl) (fun t ht hW => ⟨⟨jI z, V, rfl, ⟨z, rfl, hp⟩, by show GW X V t.heap; rw [ht]; exact hG⟩, hS.F ht⟩) hS.2.2 hdg E.2.2.2.2.2.2
theorem x_vret (E : Ev p s m meth c own cc nL args none) (hG : GW X V H) (hS : va_S (wA X) s.heap H locs) {post : Mem → Prop} (hp : post V) (hdg : decode cc pc = .ok (.return_, 1)) : W p l e R s m args below meth c H locs cells slots (MQ below (Qv X post) args s cells slots (wA X)) (F0 m pc ls []) :=
  W.vret E.1 E.2.1 E.2.2.2.2.2.1 (fun t ht hW => ⟨⟨V, rfl, hp, by show GW X V t.heap; rw [ht]; exact hG⟩, hS.F ht⟩) hS.2.2 hdg E.2.2.2.2.2.2
end XM
end
section
/-- an instance method's words -/
def MF (y : MethodName) (bytes : ByteArray) (maxL : Nat) (ret : Option FieldType) (n : Nat) : Prop := Cond.instanceMethod y ∈ gT ∧ Cond.selects y.cls y y ∈ gT ∧ Cond.initialized y.cls ∈ gT ∧ Cond.code y bytes maxL ret ∈ gT ∧ (y.cls ≠ "java/lang/invoke/MethodHandle" ∧ y.cls ≠ "java/lang/invoke/VarHandle" ∧ (parseMethodDescriptor y.desc).map (fun d => d.parameters.length) = some n)
/-- a static method's words -/
def MS (y : MethodName) (bytes : ByteArray) (maxL : Nat) (ret : Option FieldType) (n : Nat) : Prop := Cond.static y ∈ gT ∧ Cond.initialized y.cls ∈ gT ∧ Cond.code y bytes maxL ret ∈ gT ∧ (y.cls ≠ "java/lang/invoke/MethodHandle" ∧ y.cls ≠ "java/lang/invoke/VarHandle" ∧ (parseMethodDescriptor y.desc).map (fun d => d.parameters.length) = some n)
theorem gT_cons {w : Cond} (h : w ∈ gT) : ∀ v ∈ w :: gT, v ∈ gT := fun v hv => (List.mem_cons.mp hv).elim (fun e => e ▸ h) id
theorem MF.good {own : String} {index : Nat} {y : MethodName} {bytes : ByteArray} {maxL n : Nat} {ret : Option FieldType} (h : MF y bytes maxL ret n) (hl : Cond.methodLink own index y ∈ gT) : GoodIn gT (wsV own index y.cls y (.code y bytes maxL ret :: gT)) := by
  refine gT_in (fun _ h => h) (fun w hw => ?_)
  unfold wsV at hw
  rcases List.mem_append.mp hw with q | q
  · simp only [List.mem_cons, List.not_mem_nil, or_false] at q
    rcases q with rfl | rfl | rfl | rfl
    · exact hl
    · exact h.1
    · exact h.2.1
    · exact h.2.2.1
  · exact gT_cons h.2.2.2.1 w q
theorem MS.good {own : String} {index : Nat} {y : MethodName} {bytes : ByteArray} {maxL n : Nat} {ret : Option FieldType} (h : MS y bytes maxL ret n) (hl : Cond.methodLink own index y ∈ gT) : GoodIn gT (va_wsS own index y (.code y bytes maxL ret :: gT)) := by
  refine gT_in (fun _ h => h) (fun w hw => ?_)
  unfold va_wsS at hw
  rcases List.mem_append.mp hw with q | q
  · simp only [List.mem_cons, List.not_mem_nil, or_false] at q
    rcases q with rfl | rfl | rfl
    · exact hl
    · exact h.1
    · exact h.2.1
  · exact gT_cons h.2.2.1 w q
section XC
variable {p : Program} {l : Launch} {e : Env} {R : Room} {s : State} {m : MethodId} {args : Array Value} {below : List Frame} {meth : Method} {c : Code} {H : Heap} {locs : List Loc} {cells slots : Nat} {Q : State → Prop}
variable {own : String} {cc : ByteArray} {nL : Nat} {ret : Option FieldType} {pc : Nat} {ls : Array Slot} {rest : List Value}
variable {X : We} {V0 V : Mem} {q : Nat} {y : MethodName} {bytes : ByteArray} {maxL n fr lo index : Nat} {rt : Option FieldType} {As st0 : List Value} {lv : List (Nat × Value)}
theorem x_runV (E : Ev p s m meth c own cc nL args ret) (hI : GI X V0 s) (hG : GW X V H) (hS : va_S (wA X) s.heap H locs) {ci : Nat} {fs : List (Option Nat)} (hT : At X q (.inr (ci, fs))) {C : String} {T : u_T} {ty : Nat → FieldType} {N : Nat} (cf : ClF ci C T ty N) (hC : C = y.cls) {Qc : Array Value → State → Outcome → State → Prop} (hM : Mt l X V y bytes maxL rt fr lo (.ref (wa X q) :: As) Qc) (mf : MF y bytes maxL rt n) (hlk : Cond.methodLink own index y ∈ gT) (hn : As.length = n) (hl : lv_has ls nL lv) (hst : st0 = As.reverse ++ .ref (wa X q) :: rest) (hw : (rest.map fun v => v.category).sum ≤ 8) (hR : fr + 1 ≤ R.frames ∧ 8 + (maxL + 11) + lo ≤ R.locals) (hf : cells ≤ R.cells ∧ slots ≤ R.slots) (hdg : decode cc pc = .ok (.invokevirtual index, 3)) :
    va_Run p l e R s m args below meth c H locs cells slots 0 0 (F0 m pc ls st0) rest (Qc (Value.ref (wa X q) :: As).toArray) (wA X) := by
  subst hC
  exact va_runV (As := As) (rest := rest) (C := y.cls) (n := n) ⟨E.1, E.2.1, E.2.2.1, E.2.2.2.1, E.2.2.2.2.1⟩ hM (cwV n E.2.2.2.2.1 (mf.good hlk) rfl rfl rfl ⟨rfl, mf.2.2.2.2⟩ hR) ⟨GI.blind, va_recv hI.1 hG (ci := ci) (q0 := q) cf.1 (GW.cell hT), fun U hU hW => ⟨rfl, GI.at hI hG hS hU hW⟩⟩ rfl hn hl.1 hst (lv_room (m := m) (pc := pc) (ls := ls) (rest := st0) hw) hdg hf
theorem x_runS (E : Ev p s m meth c own cc nL args ret) (hI : GI X V0 s) (hG : GW X V H) (hS : va_S (wA X) s.heap H locs) {Qc : Array Value → State → Outcome → State → Prop} (hM : Mt l X V y bytes maxL rt fr lo As Qc) (mf : MS y bytes maxL rt n) (hlk : Cond.methodLink own index y ∈ gT) (hn : As.length = n) (hl : lv_has ls nL lv) (hst : st0 = As.reverse ++ rest) (hw : (rest.map fun v => v.category).sum ≤ 8) (hR : fr + 1 ≤ R.frames ∧ 8 + (maxL + 11) + lo ≤ R.locals) (hf : cells ≤ R.cells ∧ slots ≤ R.slots) (hdg : decode cc pc = .ok (.invokestatic index, 3)) :
    va_Run p l e R s m args below meth c H locs cells slots 0 0 (F0 m pc ls st0) rest (Qc As.toArray) (wA X) :=
  va_runS (As := As) (rest := rest) (n := n) ⟨E.1, E.2.1, E.2.2.1, E.2.2.2.1, E.2.2.2.2.1⟩ hM (va_cwS n E.2.2.2.2.1 (mf.good hlk) rfl rfl rfl mf.2.2.2 hR) ⟨GI.blind, fun U hU hW => ⟨rfl, GI.at hI hG hS hU hW⟩⟩ rfl hn hl.1 hst (lv_room (m := m) (pc := pc) (ls := ls) (rest := st0) hw) hdg hf
theorem x_runSN (E : Ev p s m meth c own cc nL args ret) (hI : GI X V0 s) (hG : GW X V H) (hS : va_S (wA X) s.heap H locs) {Qc : Array Value → State → Outcome → State → Prop} (hM : Mt l X V y bytes maxL rt fr lo As Qc) (mf : MS y bytes maxL rt n) {host : String} (hlk : (own, index, y, host) ∈ zNest) (hn : As.length = n) (hl : lv_has ls nL lv) (hst : st0 = As.reverse ++ rest) (hw : (rest.map fun v => v.category).sum ≤ 8) (hR : fr + 1 ≤ R.frames ∧ 8 + (maxL + 11) + lo ≤ R.locals) (hf : cells ≤ R.cells ∧ slots ≤ R.slots) (hdg : decode cc pc = .ok (.invokestatic index, 3)) :
    va_Run p l e R s m args below meth c H locs cells slots 0 0 (F0 m pc ls st0) rest (Qc As.toArray) (wA X) :=
  va_runSN (As := As) (rest := rest) (n := n) (host := host) ⟨E.1, E.2.1, E.2.2.1, E.2.2.2.1, E.2.2.2.2.1⟩ hM ⟨va_cnB n E.2.2.2.2.1 (gT_in (fun _ h => h) (gT_cons mf.2.2.1)) rfl rfl rfl (hI.2.2.2.1.1 _ hlk) (E.2.2.2.2.1 _ mf.2.1) mf.2.2.2 hR, E.2.2.2.2.1 _ mf.1, trivial⟩ ⟨GI.blind, fun U hU hW => ⟨rfl, GI.at hI hG hS hU hW⟩⟩ rfl hn hl.1 hst (lv_room (m := m) (pc := pc) (ls := ls) (rest := st0) hw) hdg hf
theorem x_ci {a : Array Value} (hG : GW X V H) (hS : va_S (wA X) s.heap H locs) {post : Int → Mem → Prop} (hr : va_Run p l e R s m args below meth c H locs cells slots 0 0 (F0 m pc ls st0) rest (Qi X post a) (wA X))
    (kk : ∀ (z : Int) (V1 : Mem) (H1 : Heap) (locs1 : List Loc), post z V1 → GW X V1 H1 → va_S (wA X) s.heap H1 locs1 → W p l e R s m args below meth c H1 locs1 cells slots Q (F0 m (pc + 3) ls (.int (jI z) :: rest))) : W p l e R s m args below meth c H locs cells slots Q (F0 m pc ls st0) :=
  va_calli hr hS (fun _ _ h => h) (fun _ h => h) (fun r u t H1 locs1 ht hvm hw hB _ _ hS1 => by
    obtain ⟨z, rfl, hp⟩ := hw
    exact kk z u H1 locs1 hp (by rw [← ht]; exact hB) hS1)
theorem x_cv {a : Array Value} (hG : GW X V H) (hS : va_S (wA X) s.heap H locs) {post : Mem → Prop} (hr : va_Run p l e R s m args below meth c H locs cells slots 0 0 (F0 m pc ls st0) rest (Qv X post a) (wA X))
    (kk : ∀ (V1 : Mem) (H1 : Heap) (locs1 : List Loc), post V1 → GW X V1 H1 → va_S (wA X) s.heap H1 locs1 → W p l e R s m args below meth c H1 locs1 cells slots Q (F0 m (pc + 3) ls rest)) : W p l e R s m args below meth c H locs cells slots Q (F0 m pc ls st0) :=
  va_callv hr hS (fun _ _ h => h) (fun _ h => h) (fun u t H1 locs1 ht hvm hw hB _ _ hS1 => kk u H1 locs1 hw (by rw [← ht]; exact hB) hS1)
theorem x_min (E : Ev p s m meth c own cc nL args ret) (hl : lv_has ls nL lv) {a b : Int} (hlk : Cond.methodLink own index Lib.Math.min.name ∈ gT) (hR : 1 ≤ R.frames ∧ (rest.map fun v => v.category).sum + 13 ≤ R.locals) (hf : cells ≤ R.cells ∧ slots ≤ R.slots) (ha : rg a) (hb : rg b) (hdg : decode cc pc = .ok (.invokestatic index, 3))
    (kk : W p l e R s m args below meth c H locs cells slots Q (F0 m (pc + 3) ls (.int (jI (min a b)) :: rest))) : W p l e R s m args below meth c H locs cells slots Q (F0 m pc ls (.int (jI b) :: .int (jI a) :: rest)) := by
  have h := E.2.2.2.2.1
  refine va_mmin E.1 E.2.1 (by rw [hl.1]; exact E.2.2.1) E.2.2.2.1 (h _ hlk) (h _ kt_Mmin) (h _ ki_J9) (h _ kc_Mmin) hR.1 hR.2 hf.1 hf.2 hdg ?_
  have e : (if jI b < jI a then jI b else jI a) = jI (min a b) := by
    by_cases q : b < a
    · rw [if_pos ((j_lt hb ha).mpr q)]; congr 1; omega
    · rw [if_neg (fun z => q ((j_lt hb ha).mp z))]; congr 1; omega
  rw [e]; exact kk
theorem x_max (E : Ev p s m meth c own cc nL args ret) (hl : lv_has ls nL lv) {a b : Int} (hlk : Cond.methodLink own index Lib.Math.max.name ∈ gT) (hR : 1 ≤ R.frames ∧ (rest.map fun v => v.category).sum + 13 ≤ R.locals) (hf : cells ≤ R.cells ∧ slots ≤ R.slots) (ha : rg a) (hb : rg b) (hdg : decode cc pc = .ok (.invokestatic index, 3))
    (kk : W p l e R s m args below meth c H locs cells slots Q (F0 m (pc + 3) ls (.int (jI (max a b)) :: rest))) : W p l e R s m args below meth c H locs cells slots Q (F0 m pc ls (.int (jI b) :: .int (jI a) :: rest)) := by
  have h := E.2.2.2.2.1
  refine va_mmax E.1 E.2.1 (by rw [hl.1]; exact E.2.2.1) E.2.2.2.1 (h _ hlk) (h _ kt_Mmax) (h _ ki_J9) (h _ kc_Mmax) hR.1 hR.2 hf.1 hf.2 hdg ?_
  have e : (if jI a < jI b then jI b else jI a) = jI (max a b) := by
    by_cases q : a < b
    · rw [if_pos ((j_lt ha hb).mpr q)]; congr 1; omega
    · rw [if_neg (fun z => q ((j_lt ha hb).mp z))]; congr 1; omega
  rw [e]; exact kk
theorem x_abs (E : Ev p s m meth c own cc nL args ret) (hl : lv_has ls nL lv) {a : Int} (hlk : Cond.methodLink own index Lib.Math.abs.name ∈ gT) (hR : 1 ≤ R.frames ∧ (rest.map fun v => v.category).sum + 13 ≤ R.locals) (hf : cells ≤ R.cells ∧ slots ≤ R.slots) (ha : rg a) (hdg : decode cc pc = .ok (.invokestatic index, 3))
    (kk : W p l e R s m args below meth c H locs cells slots Q (F0 m (pc + 3) ls (.int (jI (if 0 ≤ a then a else -a)) :: rest))) : W p l e R s m args below meth c H locs cells slots Q (F0 m pc ls (.int (jI a) :: rest)) := by
  have h := E.2.2.2.2.1
  refine va_mabs E.1 E.2.1 (by rw [hl.1]; exact E.2.2.1) E.2.2.2.1 (h _ hlk) (h _ kt_Mabs) (h _ ki_J9) (h _ kc_Mabs) hR.1 hR.2 hf.1 hf.2 hdg ?_
  have e : (if 0 ≤ jI a then jI a else 0 - jI a) = jI (if 0 ≤ a then a else -a) := by
    by_cases q : 0 ≤ a
    · have h0 : (0 : Int32) ≤ jI a := (j_le rg_0 ha).mpr q
      rw [if_pos h0, if_pos q]
    · have h0 : ¬ (0 : Int32) ≤ jI a := fun z => q ((j_le rg_0 ha).mp z)
      rw [if_neg h0, if_neg q, ← j_0, j_sub]; congr 1; omega
  rw [e]; exact kk
end XC
/-- a loop, by a measure that falls -/
theorem x_lp {α : Type} (I : α → Prop) (μ : α → Nat) (Wh : α → Prop) (h : ∀ a, I a → (∀ b, I b → μ b < μ a → Wh b) → Wh a) : ∀ a, I a → Wh a := by
  have key : ∀ n a, μ a < n → I a → Wh a := by
    intro n
    induction n with
    | zero => intro a ha; omega
    | succ n ih => intro a ha hI; exact h a hI (fun b hb hlt => ih b (by omega) hb)
  exact fun a => key (μ a + 1) a (Nat.lt_succ_self _)
end
section
def isD (b : Nat) : Prop := b = 3 ∨ b = 17 ∨ b = 31
def isW (w : Nat) : Prop := w = 14 ∨ w = 28 ∨ w = 42 ∨ w = 47
def bN : Nat := 3
def bM : Nat := 17
def bT : Nat := 31
theorem isN : isD bN := Or.inl rfl
theorem isM : isD bM := Or.inr (Or.inl rfl)
theorem isT : isD bT := Or.inr (Or.inr rfl)
theorem isD.w {b : Nat} (h : isD b) : isW (b + 11) := by rcases h with rfl | rfl | rfl <;> simp [isW]
theorem isW47 : isW 47 := by simp [isW]
def xDn (b n j : Nat) : Pd := match j with
  | 0 => .inr (1, [some 1, some (b + 1), some (b + 2), some (b + 3), some (b + 4), some (b + 5), some (b + 6), some (b + 7), some (b + 8), some (b + 10), some (b + 11), none, none, none, none, none])
  | 8 => .inr (0, [some (b + 9)])
  | 9 => .inl (3, 3)
  | 10 => .inl (0, 5)
  | 11 => .inr (5, [some (b + 12), some (b + 13), none, none, none])
  | 12 => .inl (0, 20)
  | 13 => .inl (0, 20)
  | _ => .inl (0, n)
def xT (n : Nat) (p : Nat) : Pd := if p < 3 then (match p with
  | 0 => .inr (7, [some 1, some 3, some 17, some 31, some 45, some 50, some 55, none])
  | 1 => .inr (3, [none, none, none, some 2])
  | _ => .inl (0, n * 4)) else if p < 17 then xDn 3 n (p - 3) else if p < 31 then xDn 17 n (p - 17) else if p < 45 then xDn 31 n (p - 31) else (match p with
  | 45 => .inr (4, [some 46, none, none, none, some 47])
  | 46 => .inl (1, 200)
  | 47 => .inr (5, [some 48, some 49, none, none, none])
  | 48 => .inl (0, 20)
  | 49 => .inl (0, 20)
  | 50 => .inr (6, [some 51, some 52, some 53, some 54, none])
  | 55 => .inr (2, [some 56, some 57, some 58, none])
  | 56 => .inl (0, 20)
  | 57 => .inl (0, 20)
  | 58 => .inl (0, 20)
  | _ => .inl (0, 4))
def isX (X : We) (n : Nat) : Prop := wT X = xT n ∧ wn X = 59
theorem xb0 {X : We} {n : Nat} (hX : isX X n) : At X (0) (.inr (7, [some 1, some bN, some bM, some bT, some 45, some 50, some 55, none])) := ⟨by rw [hX.1]; rfl, by rw [hX.2]; decide⟩
theorem xs0 {X : We} {n : Nat} (hX : isX X n) : At X (1) (.inr (3, [none, none, none, some 2])) := ⟨by rw [hX.1]; rfl, by rw [hX.2]; decide⟩
theorem xs1 {X : We} {n : Nat} (hX : isX X n) : At X (2) (.inl (0, n * 4)) := ⟨by rw [hX.1]; rfl, by rw [hX.2]; decide⟩
theorem xd0 {X : We} {n b : Nat} (hX : isX X n) (hb : isD b) : At X (b) (.inr (1, [some 1, some (b + 1), some (b + 2), some (b + 3), some (b + 4), some (b + 5), some (b + 6), some (b + 7), some (b + 8), some (b + 10), some (b + 11), none, none, none, none, none])) := by rcases hb with rfl | rfl | rfl <;> exact ⟨by rw [hX.1]; rfl, by rw [hX.2]; decide⟩
theorem xd1 {X : We} {n b : Nat} (hX : isX X n) (hb : isD b) : At X (b + 1) (.inl (0, n)) := by rcases hb with rfl | rfl | rfl <;> exact ⟨by rw [hX.1]; rfl, by rw [hX.2]; decide⟩
theorem xd2 {X : We} {n b : Nat} (hX : isX X n) (hb : isD b) : At X (b + 2) (.inl (0, n)) := by rcases hb with rfl | rfl | rfl <;> exact ⟨by rw [hX.1]; rfl, by rw [hX.2]; decide⟩
theorem xd3 {X : We} {n b : Nat} (hX : isX X n) (hb : isD b) : At X (b + 3) (.inl (0, n)) := by rcases hb with rfl | rfl | rfl <;> exact ⟨by rw [hX.1]; rfl, by rw [hX.2]; decide⟩
theorem xd4 {X : We} {n b : Nat} (hX : isX X n) (hb : isD b) : At X (b + 4) (.inl (0, n)) := by rcases hb with rfl | rfl | rfl <;> exact ⟨by rw [hX.1]; rfl, by rw [hX.2]; decide⟩
theorem xd5 {X : We} {n b : Nat} (hX : isX X n) (hb : isD b) : At X (b + 5) (.inl (0, n)) := by rcases hb with rfl | rfl | rfl <;> exact ⟨by rw [hX.1]; rfl, by rw [hX.2]; decide⟩
theorem xd6 {X : We} {n b : Nat} (hX : isX X n) (hb : isD b) : At X (b + 6) (.inl (0, n)) := by rcases hb with rfl | rfl | rfl <;> exact ⟨by rw [hX.1]; rfl, by rw [hX.2]; decide⟩
theorem xd7 {X : We} {n b : Nat} (hX : isX X n) (hb : isD b) : At X (b + 7) (.inl (0, n)) := by rcases hb with rfl | rfl | rfl <;> exact ⟨by rw [hX.1]; rfl, by rw [hX.2]; decide⟩
theorem xd8 {X : We} {n b : Nat} (hX : isX X n) (hb : isD b) : At X (b + 8) (.inr (0, [some (b + 9)])) := by rcases hb with rfl | rfl | rfl <;> exact ⟨by rw [hX.1]; rfl, by rw [hX.2]; decide⟩
theorem xd9 {X : We} {n b : Nat} (hX : isX X n) (hb : isD b) : At X (b + 9) (.inl (3, 3)) := by rcases hb with rfl | rfl | rfl <;> exact ⟨by rw [hX.1]; rfl, by rw [hX.2]; decide⟩
theorem xd10 {X : We} {n b : Nat} (hX : isX X n) (hb : isD b) : At X (b + 10) (.inl (0, 5)) := by rcases hb with rfl | rfl | rfl <;> exact ⟨by rw [hX.1]; rfl, by rw [hX.2]; decide⟩
theorem xd11 {X : We} {n b : Nat} (hX : isX X n) (hb : isD b) : At X (b + 11) (.inr (5, [some (b + 12), some (b + 13), none, none, none])) := by rcases hb with rfl | rfl | rfl <;> exact ⟨by rw [hX.1]; rfl, by rw [hX.2]; decide⟩
theorem xw0 {X : We} {n w : Nat} (hX : isX X n) (hw : isW w) : At X (w) (.inr (5, [some (w + 1), some (w + 2), none, none, none])) := by rcases hw with rfl | rfl | rfl | rfl <;> exact ⟨by rw [hX.1]; rfl, by rw [hX.2]; decide⟩
theorem xw1 {X : We} {n w : Nat} (hX : isX X n) (hw : isW w) : At X (w + 1) (.inl (0, 20)) := by rcases hw with rfl | rfl | rfl | rfl <;> exact ⟨by rw [hX.1]; rfl, by rw [hX.2]; decide⟩
theorem xw2 {X : We} {n w : Nat} (hX : isX X n) (hw : isW w) : At X (w + 2) (.inl (0, 20)) := by rcases hw with rfl | rfl | rfl | rfl <;> exact ⟨by rw [hX.1]; rfl, by rw [hX.2]; decide⟩
theorem xt0 {X : We} {n : Nat} (hX : isX X n) : At X (45) (.inr (4, [some 46, none, none, none, some 47])) := ⟨by rw [hX.1]; rfl, by rw [hX.2]; decide⟩
theorem xt1 {X : We} {n : Nat} (hX : isX X n) : At X (46) (.inl (1, 200)) := ⟨by rw [hX.1]; rfl, by rw [hX.2]; decide⟩
theorem xk0 {X : We} {n : Nat} (hX : isX X n) : At X (50) (.inr (6, [some 51, some 52, some 53, some 54, none])) := ⟨by rw [hX.1]; rfl, by rw [hX.2]; decide⟩
theorem xk1 {X : We} {n : Nat} (hX : isX X n) : At X (51) (.inl (0, 4)) := ⟨by rw [hX.1]; rfl, by rw [hX.2]; decide⟩
theorem xk2 {X : We} {n : Nat} (hX : isX X n) : At X (52) (.inl (0, 4)) := ⟨by rw [hX.1]; rfl, by rw [hX.2]; decide⟩
theorem xk3 {X : We} {n : Nat} (hX : isX X n) : At X (53) (.inl (0, 4)) := ⟨by rw [hX.1]; rfl, by rw [hX.2]; decide⟩
theorem xk4 {X : We} {n : Nat} (hX : isX X n) : At X (54) (.inl (0, 4)) := ⟨by rw [hX.1]; rfl, by rw [hX.2]; decide⟩
theorem xf0 {X : We} {n : Nat} (hX : isX X n) : At X (55) (.inr (2, [some 56, some 57, some 58, none])) := ⟨by rw [hX.1]; rfl, by rw [hX.2]; decide⟩
theorem xf1 {X : We} {n : Nat} (hX : isX X n) : At X (56) (.inl (0, 20)) := ⟨by rw [hX.1]; rfl, by rw [hX.2]; decide⟩
theorem xf2 {X : We} {n : Nat} (hX : isX X n) : At X (57) (.inl (0, 20)) := ⟨by rw [hX.1]; rfl, by rw [hX.2]; decide⟩
theorem xf3 {X : We} {n : Nat} (hX : isX X n) : At X (58) (.inl (0, 20)) := ⟨by rw [hX.1]; rfl, by rw [hX.2]; decide⟩
def mFs : List (Option Nat) := [none, none, none, some 1, some 2, some 3, some 4, some 5, some 6, some 7, some 8, none, none, none, none, none, none, some 9, some 10, none, none, some 11, none, none, none, none, none, none, none, none, none, some 12, some 13, none, some 14, some 15, some 16, some 17, none, some 18, some 19, some 20, some 21, some 22, some 23, some 24, some 25, none, none, none]
def mT (p : Nat) : Pd := match p with
  | 0 => .inr (8, mFs)
  | 1 => .inl (0, 160)
  | 2 => .inl (0, 160)
  | 3 => .inl (0, 160)
  | 4 => .inl (0, 160)
  | 5 => .inl (0, 160)
  | 6 => .inl (0, 160)
  | 7 => .inl (0, 160)
  | 8 => .inl (0, 5)
  | 9 => .inl (0, 20)
  | 10 => .inl (0, 20)
  | 11 => .inl (1, 200)
  | 12 => .inl (0, 20)
  | 13 => .inl (0, 20)
  | 14 => .inl (0, 4)
  | 15 => .inl (0, 4)
  | 16 => .inl (0, 4)
  | 17 => .inl (0, 4)
  | 18 => .inl (0, 20)
  | 19 => .inl (0, 20)
  | 20 => .inl (0, 20)
  | 21 => .inl (0, 2240)
  | 22 => .inl (0, 10)
  | 23 => .inl (0, 16)
  | 24 => .inl (0, 80)
  | 25 => .inl (2, 160)
  | _ => .inl (0, 0)
def isY (Y : We) : Prop := wT Y = mT ∧ wn Y = 26
theorem ym0 {X : We} (hY : isY X) : At X 0 (.inr (8, mFs)) := ⟨by rw [hY.1]; rfl, by rw [hY.2]; decide⟩
theorem ym1 {X : We} (hY : isY X) : At X 1 (.inl (0, 160)) := ⟨by rw [hY.1]; rfl, by rw [hY.2]; decide⟩
theorem ym2 {X : We} (hY : isY X) : At X 2 (.inl (0, 160)) := ⟨by rw [hY.1]; rfl, by rw [hY.2]; decide⟩
theorem ym3 {X : We} (hY : isY X) : At X 3 (.inl (0, 160)) := ⟨by rw [hY.1]; rfl, by rw [hY.2]; decide⟩
theorem ym4 {X : We} (hY : isY X) : At X 4 (.inl (0, 160)) := ⟨by rw [hY.1]; rfl, by rw [hY.2]; decide⟩
theorem ym5 {X : We} (hY : isY X) : At X 5 (.inl (0, 160)) := ⟨by rw [hY.1]; rfl, by rw [hY.2]; decide⟩
theorem ym6 {X : We} (hY : isY X) : At X 6 (.inl (0, 160)) := ⟨by rw [hY.1]; rfl, by rw [hY.2]; decide⟩
theorem ym7 {X : We} (hY : isY X) : At X 7 (.inl (0, 160)) := ⟨by rw [hY.1]; rfl, by rw [hY.2]; decide⟩
theorem ym8 {X : We} (hY : isY X) : At X 8 (.inl (0, 5)) := ⟨by rw [hY.1]; rfl, by rw [hY.2]; decide⟩
theorem ym9 {X : We} (hY : isY X) : At X 9 (.inl (0, 20)) := ⟨by rw [hY.1]; rfl, by rw [hY.2]; decide⟩
theorem ym10 {X : We} (hY : isY X) : At X 10 (.inl (0, 20)) := ⟨by rw [hY.1]; rfl, by rw [hY.2]; decide⟩
theorem ym11 {X : We} (hY : isY X) : At X 11 (.inl (1, 200)) := ⟨by rw [hY.1]; rfl, by rw [hY.2]; decide⟩
theorem ym12 {X : We} (hY : isY X) : At X 12 (.inl (0, 20)) := ⟨by rw [hY.1]; rfl, by rw [hY.2]; decide⟩
theorem ym13 {X : We} (hY : isY X) : At X 13 (.inl (0, 20)) := ⟨by rw [hY.1]; rfl, by rw [hY.2]; decide⟩
theorem ym14 {X : We} (hY : isY X) : At X 14 (.inl (0, 4)) := ⟨by rw [hY.1]; rfl, by rw [hY.2]; decide⟩
theorem ym15 {X : We} (hY : isY X) : At X 15 (.inl (0, 4)) := ⟨by rw [hY.1]; rfl, by rw [hY.2]; decide⟩
theorem ym16 {X : We} (hY : isY X) : At X 16 (.inl (0, 4)) := ⟨by rw [hY.1]; rfl, by rw [hY.2]; decide⟩
theorem ym17 {X : We} (hY : isY X) : At X 17 (.inl (0, 4)) := ⟨by rw [hY.1]; rfl, by rw [hY.2]; decide⟩
theorem ym18 {X : We} (hY : isY X) : At X 18 (.inl (0, 20)) := ⟨by rw [hY.1]; rfl, by rw [hY.2]; decide⟩
theorem ym19 {X : We} (hY : isY X) : At X 19 (.inl (0, 20)) := ⟨by rw [hY.1]; rfl, by rw [hY.2]; decide⟩
theorem ym20 {X : We} (hY : isY X) : At X 20 (.inl (0, 20)) := ⟨by rw [hY.1]; rfl, by rw [hY.2]; decide⟩
theorem ym21 {X : We} (hY : isY X) : At X 21 (.inl (0, 2240)) := ⟨by rw [hY.1]; rfl, by rw [hY.2]; decide⟩
theorem ym22 {X : We} (hY : isY X) : At X 22 (.inl (0, 10)) := ⟨by rw [hY.1]; rfl, by rw [hY.2]; decide⟩
theorem ym23 {X : We} (hY : isY X) : At X 23 (.inl (0, 16)) := ⟨by rw [hY.1]; rfl, by rw [hY.2]; decide⟩
theorem ym24 {X : We} (hY : isY X) : At X 24 (.inl (0, 80)) := ⟨by rw [hY.1]; rfl, by rw [hY.2]; decide⟩
theorem ym25 {X : We} (hY : isY X) : At X 25 (.inl (2, 160)) := ⟨by rw [hY.1]; rfl, by rw [hY.2]; decide⟩
theorem mf_X7_nearest : MS yX7_nearest cX7_nearest 3 (some .int) 3 := ⟨kt_X7_nearest, ki_X7, kc_X7_nearest, by decide +kernel⟩
theorem mf_X7_copyRow : MS yX7_copyRow cX7_copyRow 2 none 2 := ⟨kt_X7_copyRow, ki_X7, kc_X7_copyRow, by decide +kernel⟩
theorem mf_X7_heap : MF yX7_heap cX7_heap 3 (some .boolean) 2 := ⟨kn_X7_heap, ks_X7_heap, ki_X7, kc_X7_heap, by decide +kernel⟩
theorem mf_X3_has : MF yX3_has cX3_has 2 (some .boolean) 1 := ⟨kn_X3_has, ks_X3_has, ki_X3, kc_X3_has, by decide +kernel⟩
theorem mf_X7_isWithin : MS yX7_isWithin cX7_isWithin 3 (some .boolean) 3 := ⟨kt_X7_isWithin, ki_X7, kc_X7_isWithin, by decide +kernel⟩
theorem mf_X1_pile : MF yX1_pile cX1_pile 3 none 2 := ⟨kn_X1_pile, ks_X1_pile, ki_X1, kc_X1_pile, by decide +kernel⟩
theorem mf_X1_doubtAbove : MF yX1_doubtAbove cX1_doubtAbove 4 none 1 := ⟨kn_X1_doubtAbove, ks_X1_doubtAbove, ki_X1, kc_X1_doubtAbove, by decide +kernel⟩
theorem mf_X3_beside : MF yX3_beside cX3_beside 4 (some .int) 2 := ⟨kn_X3_beside, ks_X3_beside, ki_X3, kc_X3_beside, by decide +kernel⟩
theorem mf_X0_add : MF yX0_add cX0_add 3 none 1 := ⟨kn_X0_add, ks_X0_add, ki_X0, kc_X0_add, by decide +kernel⟩
theorem mf_X1_settle : MF yX1_settle cX1_settle 4 none 0 := ⟨kn_X1_settle, ks_X1_settle, ki_X1, kc_X1_settle, by decide +kernel⟩
theorem mf_X0_lowest : MF yX0_lowest cX0_lowest 4 (some .int) 0 := ⟨kn_X0_lowest, ks_X0_lowest, ki_X0, kc_X0_lowest, by decide +kernel⟩
theorem mf_J13_bitCount_95d88 : MS yJ13_bitCount_95d88 cJ13_bitCount_95d88 2 (some .int) 1 := ⟨kt_J13_bitCount_95d88, ki_J13, kc_J13_bitCount_95d88, by decide +kernel⟩
theorem mf_X1_lowestBeside : MF yX1_lowestBeside cX1_lowestBeside 5 (some .int) 1 := ⟨kn_X1_lowestBeside, ks_X1_lowestBeside, ki_X1, kc_X1_lowestBeside, by decide +kernel⟩
theorem mf_X0_remove : MF yX0_remove cX0_remove 3 none 1 := ⟨kn_X0_remove, ks_X0_remove, ki_X0, kc_X0_remove, by decide +kernel⟩
theorem mf_X7_lay : MF yX7_lay cX7_lay 4 (some .boolean) 3 := ⟨kn_X7_lay, ks_X7_lay, ki_X7, kc_X7_lay, by decide +kernel⟩
theorem mf_X1_put : MF yX1_put cX1_put 4 none 3 := ⟨kn_X1_put, ks_X1_put, ki_X1, kc_X1_put, by decide +kernel⟩
theorem mf_X7_rules : MF yX7_rules cX7_rules 6 (some .boolean) 5 := ⟨kn_X7_rules, ks_X7_rules, ki_X7, kc_X7_rules, by decide +kernel⟩
theorem mf_X1_settleAll : MF yX1_settleAll cX1_settleAll 2 none 0 := ⟨kn_X1_settleAll, ks_X1_settleAll, ki_X1, kc_X1_settleAll, by decide +kernel⟩
theorem mf_X7_seed : MF yX7_seed cX7_seed 2 none 1 := ⟨kn_X7_seed, ks_X7_seed, ki_X7, kc_X7_seed, by decide +kernel⟩
theorem mf_X7_feed : MF yX7_feed cX7_feed 6 (some .int) 5 := ⟨kn_X7_feed, ks_X7_feed, ki_X7, kc_X7_feed, by decide +kernel⟩
theorem mf_X4_append : MF yX4_append cX4_append 3 none 1 := ⟨kn_X4_append, ks_X4_append, ki_X4, kc_X4_append, by decide +kernel⟩
theorem mf_X7_end : MF yX7_end cX7_end 2 (some .int) 1 := ⟨kn_X7_end, ks_X7_end, ki_X7, kc_X7_end, by decide +kernel⟩
theorem mf_X7_winds : MF yX7_winds cX7_winds 2 (some .int) 0 := ⟨kn_X7_winds, ks_X7_winds, ki_X7, kc_X7_winds, by decide +kernel⟩
theorem mf_X4_read : MF yX4_read cX4_read 7 (some .boolean) 0 := ⟨kn_X4_read, ks_X4_read, ki_X4, kc_X4_read, by decide +kernel⟩
theorem mf_X5_clear : MF yX5_clear cX5_clear 1 none 0 := ⟨kn_X5_clear, ks_X5_clear, ki_X5, kc_X5_clear, by decide +kernel⟩
theorem mf_X4_afterBlanks : MF yX4_afterBlanks cX4_afterBlanks 3 (some .int) 1 := ⟨kn_X4_afterBlanks, ks_X4_afterBlanks, ki_X4, kc_X4_afterBlanks, by decide +kernel⟩
theorem mf_X4_byteAt : MF yX4_byteAt cX4_byteAt 2 (some .int) 1 := ⟨kn_X4_byteAt, ks_X4_byteAt, ki_X4, kc_X4_byteAt, by decide +kernel⟩
theorem mf_X4_tokenEnd : MF yX4_tokenEnd cX4_tokenEnd 3 (some .int) 1 := ⟨kn_X4_tokenEnd, ks_X4_tokenEnd, ki_X4, kc_X4_tokenEnd, by decide +kernel⟩
theorem mf_X4_isLetter : MS yX4_isLetter cX4_isLetter 1 (some .boolean) 1 := ⟨kt_X4_isLetter, ki_X4, kc_X4_isLetter, by decide +kernel⟩
theorem mf_X4_isDigit : MS yX4_isDigit cX4_isDigit 1 (some .boolean) 1 := ⟨kt_X4_isDigit, ki_X4, kc_X4_isDigit, by decide +kernel⟩
theorem mf_X4_faultOf : MF yX4_faultOf cX4_faultOf 4 (some .int) 3 := ⟨kn_X4_faultOf, ks_X4_faultOf, ki_X4, kc_X4_faultOf, by decide +kernel⟩
theorem mf_X4_windOf : MF yX4_windOf cX4_windOf 4 (some .int) 2 := ⟨kn_X4_windOf, ks_X4_windOf, ki_X4, kc_X4_windOf, by decide +kernel⟩
theorem mf_X4_nameOf : MS yX4_nameOf cX4_nameOf 1 ((Option.some (FieldType.object "java/lang/String"))) 1 := ⟨kt_X4_nameOf, ki_X4, kc_X4_nameOf, by decide +kernel⟩
theorem mf_X4_isWord : MF yX4_isWord cX4_isWord 5 (some .boolean) 3 := ⟨kn_X4_isWord, ks_X4_isWord, ki_X4, kc_X4_isWord, by decide +kernel⟩
theorem mf_J0_length_8abf5 : MF yJ0_length_8abf5 cJ0_length_8abf5 1 (some .int) 0 := ⟨kn_J0_length_8abf5, ks_J0_length_8abf5, ki_J0, kc_J0_length_8abf5, by decide +kernel⟩
theorem mf_J0_coder_7d493 : MF yJ0_coder_7d493 cJ0_coder_7d493 1 (some .byte) 0 := ⟨kn_J0_coder_7d493, ks_J0_coder_7d493, ki_J0, kc_J0_coder_7d493, by decide +kernel⟩
theorem mf_J0_charAt_5068e : MF yJ0_charAt_5068e cJ0_charAt_5068e 2 (some .char) 1 := ⟨kn_J0_charAt_5068e, ks_J0_charAt_5068e, ki_J0, kc_J0_charAt_5068e, by decide +kernel⟩
theorem mf_J0_isLatin1_aae02 : MF yJ0_isLatin1_aae02 cJ0_isLatin1_aae02 1 (some .boolean) 0 := ⟨kn_J0_isLatin1_aae02, ks_J0_isLatin1_aae02, ki_J0, kc_J0_isLatin1_aae02, by decide +kernel⟩
theorem mf_J1_charAt_3b067 : MS yJ1_charAt_3b067 cJ1_charAt_3b067 2 (some .char) 2 := ⟨kt_J1_charAt_3b067, ki_J1, kc_J1_charAt_3b067, by decide +kernel⟩
theorem mf_J0_checkIndex_df160 : MS yJ0_checkIndex_df160 cJ0_checkIndex_df160 2 none 2 := ⟨kt_J0_checkIndex_df160, ki_J0, kc_J0_checkIndex_df160, by decide +kernel⟩
theorem mf_J3_checkIndex_8e157 : MS yJ3_checkIndex_8e157 cJ3_checkIndex_8e157 3 (some .int) 3 := ⟨kt_J3_checkIndex_8e157, ki_J3, kc_J3_checkIndex_8e157, by decide +kernel⟩
theorem mf_J2_charAt_3b067 : MS yJ2_charAt_3b067 cJ2_charAt_3b067 2 (some .char) 2 := ⟨kt_J2_charAt_3b067, ki_J2, kc_J2_charAt_3b067, by decide +kernel⟩
theorem mf_J2_checkIndex_2214a : MS yJ2_checkIndex_2214a cJ2_checkIndex_2214a 2 none 2 := ⟨kt_J2_checkIndex_2214a, ki_J2, kc_J2_checkIndex_2214a, by decide +kernel⟩
theorem mf_J2_length_9d52b : MS yJ2_length_9d52b cJ2_length_9d52b 1 (some .int) 1 := ⟨kt_J2_length_9d52b, ki_J2, kc_J2_length_9d52b, by decide +kernel⟩
theorem mf_J2_getChar_3b067 : MS yJ2_getChar_3b067 cJ2_getChar_3b067 2 (some .char) 2 := ⟨kt_J2_getChar_3b067, ki_J2, kc_J2_getChar_3b067, by decide +kernel⟩
theorem mf_X5_isFull : MF yX5_isFull cX5_isFull 1 (some .boolean) 0 := ⟨kn_X5_isFull, ks_X5_isFull, ki_X5, kc_X5_isFull, by decide +kernel⟩
theorem mf_X4_numberOf : MF yX4_numberOf cX4_numberOf 5 (some .int) 2 := ⟨kn_X4_numberOf, ks_X4_numberOf, ki_X4, kc_X4_numberOf, by decide +kernel⟩
theorem mf_X4_tell : MF yX4_tell cX4_tell 3 (some .boolean) 2 := ⟨kn_X4_tell, ks_X4_tell, ki_X4, kc_X4_tell, by decide +kernel⟩
theorem mf_X5_add : MF yX5_add cX5_add 3 none 2 := ⟨kn_X5_add, ks_X5_add, ki_X5, kc_X5_add, by decide +kernel⟩
theorem mf_X5_copyFrom : MF yX5_copyFrom cX5_copyFrom 2 none 1 := ⟨kn_X5_copyFrom, ks_X5_copyFrom, ki_X5, kc_X5_copyFrom, by decide +kernel⟩
theorem mf_X7_fault : MF yX7_fault cX7_fault 2 (some .int) 1 := ⟨kn_X7_fault, ks_X7_fault, ki_X7, kc_X7_fault, by decide +kernel⟩
theorem mf_X7_days : MF yX7_days cX7_days 2 (some .int) 1 := ⟨kn_X7_days, ks_X7_days, ki_X7, kc_X7_days, by decide +kernel⟩
theorem mf_X1_canPass : MF yX1_canPass cX1_canPass 2 (some .boolean) 1 := ⟨kn_X1_canPass, ks_X1_canPass, ki_X1, kc_X1_canPass, by decide +kernel⟩
theorem mf_X1_pass : MF yX1_pass cX1_pass 4 none 1 := ⟨kn_X1_pass, ks_X1_pass, ki_X1, kc_X1_pass, by decide +kernel⟩
theorem mf_X5_next : MF yX5_next cX5_next 1 (some .int) 0 := ⟨kn_X5_next, ks_X5_next, ki_X5, kc_X5_next, by decide +kernel⟩
theorem mf_X1_bringSupply : MF yX1_bringSupply cX1_bringSupply 2 none 0 := ⟨kn_X1_bringSupply, ks_X1_bringSupply, ki_X1, kc_X1_bringSupply, by decide +kernel⟩
theorem mf_X1_draw : MF yX1_draw cX1_draw 2 (some .int) 1 := ⟨kn_X1_draw, ks_X1_draw, ki_X1, kc_X1_draw, by decide +kernel⟩
theorem mf_X1_raise : MF yX1_raise cX1_raise 2 none 1 := ⟨kn_X1_raise, ks_X1_raise, ki_X1, kc_X1_raise, by decide +kernel⟩
theorem mf_X1_blow : MF yX1_blow cX1_blow 5 none 1 := ⟨kn_X1_blow, ks_X1_blow, ki_X1, kc_X1_blow, by decide +kernel⟩
theorem mf_X1_isLifted : MF yX1_isLifted cX1_isLifted 3 (some .boolean) 2 := ⟨kn_X1_isLifted, ks_X1_isLifted, ki_X1, kc_X1_isLifted, by decide +kernel⟩
theorem mf_X1_isInShadow : MF yX1_isInShadow cX1_isInShadow 6 (some .boolean) 2 := ⟨kn_X1_isInShadow, ks_X1_isInShadow, ki_X1, kc_X1_isInShadow, by decide +kernel⟩
theorem mf_X1_lower : MF yX1_lower cX1_lower 3 none 2 := ⟨kn_X1_lower, ks_X1_lower, ki_X1, kc_X1_lower, by decide +kernel⟩
theorem mf_X1_landing : MF yX1_landing cX1_landing 5 (some .int) 2 := ⟨kn_X1_landing, ks_X1_landing, ki_X1, kc_X1_landing, by decide +kernel⟩
theorem mf_X1_afterHop : MF yX1_afterHop cX1_afterHop 5 (some .int) 2 := ⟨kn_X1_afterHop, ks_X1_afterHop, ki_X1, kc_X1_afterHop, by decide +kernel⟩
theorem mf_X1_isLaid : MF yX1_isLaid cX1_isLaid 3 (some .boolean) 2 := ⟨kn_X1_isLaid, ks_X1_isLaid, ki_X1, kc_X1_isLaid, by decide +kernel⟩
theorem mf_X1_lose : MF yX1_lose cX1_lose 2 none 1 := ⟨kn_X1_lose, ks_X1_lose, ki_X1, kc_X1_lose, by decide +kernel⟩
theorem mf_X5_passDay : MF yX5_passDay cX5_passDay 1 none 0 := ⟨kn_X5_passDay, ks_X5_passDay, ki_X5, kc_X5_passDay, by decide +kernel⟩
theorem mf_X1_reachHouses : MF yX1_reachHouses cX1_reachHouses 2 none 0 := ⟨kn_X1_reachHouses, ks_X1_reachHouses, ki_X1, kc_X1_reachHouses, by decide +kernel⟩
theorem mf_X1_passSeason : MF yX1_passSeason cX1_passSeason 3 none 0 := ⟨kn_X1_passSeason, ks_X1_passSeason, ki_X1, kc_X1_passSeason, by decide +kernel⟩
theorem mf_X1_growth : MS yX1_growth cX1_growth 1 (some .int) 1 := ⟨kt_X1_growth, ki_X1, kc_X1_growth, by decide +kernel⟩
theorem mf_X7_storm : MF yX7_storm cX7_storm 2 (some .int) 1 := ⟨kn_X7_storm, ks_X7_storm, ki_X7, kc_X7_storm, by decide +kernel⟩
theorem mf_X1_cut : MF yX1_cut cX1_cut 8 (some .int) 1 := ⟨kn_X1_cut, ks_X1_cut, ki_X1, kc_X1_cut, by decide +kernel⟩
theorem mf_X7_cell : MF yX7_cell cX7_cell 3 (some .int) 2 := ⟨kn_X7_cell, ks_X7_cell, ki_X7, kc_X7_cell, by decide +kernel⟩
theorem mf_X1_look : MF yX1_look cX1_look 3 (some .int) 2 := ⟨kn_X1_look, ks_X1_look, ki_X1, kc_X1_look, by decide +kernel⟩
theorem mf_X7_work : MF yX7_work cX7_work 5 (some .int) 4 := ⟨kn_X7_work, ks_X7_work, ki_X7, kc_X7_work, by decide +kernel⟩
theorem mf_X6_add : MF yX6_add cX6_add 5 (some .int) 4 := ⟨kn_X6_add, ks_X6_add, ki_X6, kc_X6_add, by decide +kernel⟩
theorem mf_X7_drop : MF yX7_drop cX7_drop 2 (some .int) 0 := ⟨kn_X7_drop, ks_X7_drop, ki_X7, kc_X7_drop, by decide +kernel⟩
theorem mf_X7_best : MF yX7_best cX7_best 3 (some .int) 2 := ⟨kn_X7_best, ks_X7_best, ki_X7, kc_X7_best, by decide +kernel⟩
theorem mf_X7_chooseWorks : MF yX7_chooseWorks cX7_chooseWorks 8 (some .int) 2 := ⟨kn_X7_chooseWorks, ks_X7_chooseWorks, ki_X7, kc_X7_chooseWorks, by decide +kernel⟩
theorem mf_X6_costOf : MF yX6_costOf cX6_costOf 4 (some .int) 1 := ⟨kn_X6_costOf, ks_X6_costOf, ki_X6, kc_X6_costOf, by decide +kernel⟩
theorem mf_X1_copyFrom : MF yX1_copyFrom cX1_copyFrom 2 none 1 := ⟨kn_X1_copyFrom, ks_X1_copyFrom, ki_X1, kc_X1_copyFrom, by decide +kernel⟩
theorem mf_X6_carryOut : MF yX6_carryOut cX6_carryOut 4 none 2 := ⟨kn_X6_carryOut, ks_X6_carryOut, ki_X6, kc_X6_carryOut, by decide +kernel⟩
theorem mf_X1_grainsOnHouses : MF yX1_grainsOnHouses cX1_grainsOnHouses 3 (some .int) 0 := ⟨kn_X1_grainsOnHouses, ks_X1_grainsOnHouses, ki_X1, kc_X1_grainsOnHouses, by decide +kernel⟩
theorem mf_X7_bestSet : MF yX7_bestSet cX7_bestSet 3 (some .int) 2 := ⟨kn_X7_bestSet, ks_X7_bestSet, ki_X7, kc_X7_bestSet, by decide +kernel⟩
theorem mf_X7_mark : MF yX7_mark cX7_mark 1 none 0 := ⟨kn_X7_mark, ks_X7_mark, ki_X7, kc_X7_mark, by decide +kernel⟩
theorem mf_X7_flight : MF yX7_flight cX7_flight 4 (some .int) 3 := ⟨kn_X7_flight, ks_X7_flight, ki_X7, kc_X7_flight, by decide +kernel⟩
theorem mf_X2_add : MF yX2_add cX2_add 4 (some .int) 3 := ⟨kn_X2_add, ks_X2_add, ki_X2, kc_X2_add, by decide +kernel⟩
theorem mf_X7_fits : MF yX7_fits cX7_fits 4 (some .int) 1 := ⟨kn_X7_fits, ks_X7_fits, ki_X7, kc_X7_fits, by decide +kernel⟩
theorem mf_X2_agreeWith : MF yX2_agreeWith cX2_agreeWith 3 (some .boolean) 1 := ⟨kn_X2_agreeWith, ks_X2_agreeWith, ki_X2, kc_X2_agreeWith, by decide +kernel⟩
theorem mf_X7_about : MF yX7_about cX7_about 2 (some .int) 1 := ⟨kn_X7_about, ks_X7_about, ki_X7, kc_X7_about, by decide +kernel⟩
theorem mf_X1_grains : MF yX1_grains cX1_grains 3 (some .int) 0 := ⟨kn_X1_grains, ks_X1_grains, ki_X1, kc_X1_grains, by decide +kernel⟩
theorem mf_L_cell : MS yL_cell cL_cell 2 (some .int) 2 := ⟨kt_L_cell, ki_L, kc_L_cell, by decide +kernel⟩
theorem mf_X8_keeps : MF yX8_keeps cX8_keeps 4 none 1 := ⟨kn_X8_keeps, ks_X8_keeps, ki_X8, kc_X8_keeps, by decide +kernel⟩
theorem mf_X8_heap : MF yX8_heap cX8_heap 3 (some .boolean) 2 := ⟨kn_X8_heap, ks_X8_heap, ki_X8, kc_X8_heap, by decide +kernel⟩
theorem mf_X8_isCell : MF yX8_isCell cX8_isCell 2 (some .boolean) 1 := ⟨kn_X8_isCell, ks_X8_isCell, ki_X8, kc_X8_isCell, by decide +kernel⟩
theorem mf_X8_in : MS yX8_in cX8_in 3 (some .boolean) 3 := ⟨kt_X8_in, ki_X8, kc_X8_in, by decide +kernel⟩
theorem mf_X8_settledAt : MF yX8_settledAt cX8_settledAt 2 none 1 := ⟨kn_X8_settledAt, ks_X8_settledAt, ki_X8, kc_X8_settledAt, by decide +kernel⟩
theorem mf_X8_touches : MF yX8_touches cX8_touches 4 none 1 := ⟨kn_X8_touches, ks_X8_touches, ki_X8, kc_X8_touches, by decide +kernel⟩
theorem mf_X8_near : MF yX8_near cX8_near 5 (some .int) 2 := ⟨kn_X8_near, ks_X8_near, ki_X8, kc_X8_near, by decide +kernel⟩
theorem mf_X8_settles : MF yX8_settles cX8_settles 5 none 0 := ⟨kn_X8_settles, ks_X8_settles, ki_X8, kc_X8_settles, by decide +kernel⟩
theorem mf_X8_isSteep : MF yX8_isSteep cX8_isSteep 5 (some .boolean) 1 := ⟨kn_X8_isSteep, ks_X8_isSteep, ki_X8, kc_X8_isSteep, by decide +kernel⟩
theorem mf_X8_lay : MF yX8_lay cX8_lay 4 (some .boolean) 3 := ⟨kn_X8_lay, ks_X8_lay, ki_X8, kc_X8_lay, by decide +kernel⟩
theorem mf_X8_rules : MF yX8_rules cX8_rules 6 (some .boolean) 5 := ⟨kn_X8_rules, ks_X8_rules, ki_X8, kc_X8_rules, by decide +kernel⟩
theorem mf_X8_settledAll : MF yX8_settledAll cX8_settledAll 2 none 0 := ⟨kn_X8_settledAll, ks_X8_settledAll, ki_X8, kc_X8_settledAll, by decide +kernel⟩
theorem mf_X8_seed : MF yX8_seed cX8_seed 2 none 1 := ⟨kn_X8_seed, ks_X8_seed, ki_X8, kc_X8_seed, by decide +kernel⟩
theorem mf_X8_feed : MF yX8_feed cX8_feed 6 (some .int) 5 := ⟨kn_X8_feed, ks_X8_feed, ki_X8, kc_X8_feed, by decide +kernel⟩
theorem mf_X8_put : MF yX8_put cX8_put 2 none 1 := ⟨kn_X8_put, ks_X8_put, ki_X8, kc_X8_put, by decide +kernel⟩
theorem mf_X8_end : MF yX8_end cX8_end 2 (some .int) 1 := ⟨kn_X8_end, ks_X8_end, ki_X8, kc_X8_end, by decide +kernel⟩
theorem mf_X8_winds : MF yX8_winds cX8_winds 4 (some .int) 0 := ⟨kn_X8_winds, ks_X8_winds, ki_X8, kc_X8_winds, by decide +kernel⟩
theorem mf_X8_next : MF yX8_next cX8_next 6 none 1 := ⟨kn_X8_next, ks_X8_next, ki_X8, kc_X8_next, by decide +kernel⟩
theorem mf_X8_isLetter : MS yX8_isLetter cX8_isLetter 1 (some .boolean) 1 := ⟨kt_X8_isLetter, ki_X8, kc_X8_isLetter, by decide +kernel⟩
theorem mf_X8_wordOf : MS yX8_wordOf cX8_wordOf 2 (some .int) 1 := ⟨kt_X8_wordOf, ki_X8, kc_X8_wordOf, by decide +kernel⟩
theorem mf_X8_errs : MF yX8_errs cX8_errs 2 none 1 := ⟨kn_X8_errs, ks_X8_errs, ki_X8, kc_X8_errs, by decide +kernel⟩
theorem mf_X8_fault : MF yX8_fault cX8_fault 2 (some .int) 1 := ⟨kn_X8_fault, ks_X8_fault, ki_X8, kc_X8_fault, by decide +kernel⟩
theorem mf_X8_days : MF yX8_days cX8_days 3 (some .int) 1 := ⟨kn_X8_days, ks_X8_days, ki_X8, kc_X8_days, by decide +kernel⟩
theorem mf_X8_goes : MF yX8_goes cX8_goes 4 none 0 := ⟨kn_X8_goes, ks_X8_goes, ki_X8, kc_X8_goes, by decide +kernel⟩
theorem mf_X8_windNow : MF yX8_windNow cX8_windNow 1 (some .int) 0 := ⟨kn_X8_windNow, ks_X8_windNow, ki_X8, kc_X8_windNow, by decide +kernel⟩
theorem mf_X8_draw : MF yX8_draw cX8_draw 2 (some .int) 1 := ⟨kn_X8_draw, ks_X8_draw, ki_X8, kc_X8_draw, by decide +kernel⟩
theorem mf_X8_lifts : MF yX8_lifts cX8_lifts 5 none 1 := ⟨kn_X8_lifts, ks_X8_lifts, ki_X8, kc_X8_lifts, by decide +kernel⟩
theorem mf_X8_isShadow : MF yX8_isShadow cX8_isShadow 6 (some .boolean) 2 := ⟨kn_X8_isShadow, ks_X8_isShadow, ki_X8, kc_X8_isShadow, by decide +kernel⟩
theorem mf_X8_ahead : MF yX8_ahead cX8_ahead 7 (some .int) 3 := ⟨kn_X8_ahead, ks_X8_ahead, ki_X8, kc_X8_ahead, by decide +kernel⟩
theorem mf_X8_windGoesOn : MF yX8_windGoesOn cX8_windGoesOn 1 none 0 := ⟨kn_X8_windGoesOn, ks_X8_windGoesOn, ki_X8, kc_X8_windGoesOn, by decide +kernel⟩
theorem mf_X8_season : MF yX8_season cX8_season 3 none 0 := ⟨kn_X8_season, ks_X8_season, ki_X8, kc_X8_season, by decide +kernel⟩
theorem mf_X8_grown : MS yX8_grown cX8_grown 1 (some .int) 1 := ⟨kt_X8_grown, ki_X8, kc_X8_grown, by decide +kernel⟩
theorem mf_X8_storm : MF yX8_storm cX8_storm 8 (some .int) 1 := ⟨kn_X8_storm, ks_X8_storm, ki_X8, kc_X8_storm, by decide +kernel⟩
theorem mf_X8_cell : MF yX8_cell cX8_cell 3 (some .int) 2 := ⟨kn_X8_cell, ks_X8_cell, ki_X8, kc_X8_cell, by decide +kernel⟩
theorem mf_X8_work : MF yX8_work cX8_work 5 (some .int) 4 := ⟨kn_X8_work, ks_X8_work, ki_X8, kc_X8_work, by decide +kernel⟩
theorem mf_X8_drop : MF yX8_drop cX8_drop 2 (some .int) 0 := ⟨kn_X8_drop, ks_X8_drop, ki_X8, kc_X8_drop, by decide +kernel⟩
theorem mf_X8_best : MF yX8_best cX8_best 3 (some .int) 2 := ⟨kn_X8_best, ks_X8_best, ki_X8, kc_X8_best, by decide +kernel⟩
theorem mf_X8_seeks : MF yX8_seeks cX8_seeks 8 (some .boolean) 2 := ⟨kn_X8_seeks, ks_X8_seeks, ki_X8, kc_X8_seeks, by decide +kernel⟩
theorem mf_X8_does : MF yX8_does cX8_does 3 none 1 := ⟨kn_X8_does, ks_X8_does, ki_X8, kc_X8_does, by decide +kernel⟩
theorem mf_X8_comesBack : MF yX8_comesBack cX8_comesBack 4 none 1 := ⟨kn_X8_comesBack, ks_X8_comesBack, ki_X8, kc_X8_comesBack, by decide +kernel⟩
theorem mf_X8_bestSet : MF yX8_bestSet cX8_bestSet 3 (some .int) 2 := ⟨kn_X8_bestSet, ks_X8_bestSet, ki_X8, kc_X8_bestSet, by decide +kernel⟩
theorem mf_X8_mark : MF yX8_mark cX8_mark 1 none 0 := ⟨kn_X8_mark, ks_X8_mark, ki_X8, kc_X8_mark, by decide +kernel⟩
theorem mf_X8_flight : MF yX8_flight cX8_flight 4 (some .int) 3 := ⟨kn_X8_flight, ks_X8_flight, ki_X8, kc_X8_flight, by decide +kernel⟩
theorem mf_X8_fits : MF yX8_fits cX8_fits 5 (some .int) 1 := ⟨kn_X8_fits, ks_X8_fits, ki_X8, kc_X8_fits, by decide +kernel⟩
theorem mf_X8_areSeen : MF yX8_areSeen cX8_areSeen 3 (some .boolean) 0 := ⟨kn_X8_areSeen, ks_X8_areSeen, ki_X8, kc_X8_areSeen, by decide +kernel⟩
theorem mf_X8_about : MF yX8_about cX8_about 4 (some .int) 1 := ⟨kn_X8_about, ks_X8_about, ki_X8, kc_X8_about, by decide +kernel⟩
end
section
theorem Mt.go {l : Launch} {X : We} {V : Mem} {y : MethodName} {cc : ByteArray} {nL : Nat} {ret : Option FieldType} {fr lo : Nat} {av : List Value} {Qc : Array Value → State → Outcome → State → Prop} (hy : plainName y.cls = true) (hn : (lg_sl av).length ≤ nL)
    (body : ∀ (p : Program) (e : Env) (s : State) (m : MethodId) (below : List Frame) (meth : Method) (c : Code) (ls : Array Slot) (R : Room) (args : Array Value) (Q : State → Prop), R = ({ frames := fr, cells := 0, slots := 0, locals := lo } : Room) → Q = MQ below Qc args s 0 0 (wA X) → Ev p s m meth c y.cls cc nL args ret → GI X V s → GW X V s.heap → va_S (wA X) s.heap s.heap [] → lv_has ls nL (lv_args 0 av) →
      W p l e R s m args below meth c s.heap [] 0 0 Q (F0 m 0 ls [])) : Mt l X V y cc nL ret fr lo av Qc :=
  Mt.enter hy hn (fun p e s m below meth c ls E hI hG hS hl => body p e s m below meth c ls _ _ _ rfl rfl E hI hG hS hl)
section XQ
variable {p : Program} {l : Launch} {e : Env} {R : Room} {s : State} {m : MethodId} {args : Array Value} {below : List Frame} {meth : Method} {c : Code} {H : Heap} {locs : List Loc} {cells slots : Nat} {Q : State → Prop}
variable {own : String} {cc : ByteArray} {nL : Nat} {pc : Nat} {ls : Array Slot} {X : We} {V : Mem}
theorem r_i (E : Ev p s m meth c own cc nL args (some .int)) {post : Int → Mem → Prop} (hQ : Q = MQ below (Qi X post) args s cells slots (wA X)) (hG : GW X V H) (hS : va_S (wA X) s.heap H locs) {z : Int} (hdg : decode cc pc = .ok (.ireturn, 1)) (hp : post z V) : W p l e R s m args below meth c H locs cells slots Q (F0 m pc ls [.int (jI z)]) := by
  subst hQ; exact x_iret E hG hS hp hdg
theorem r_z (E : Ev p s m meth c own cc nL args (some .boolean)) {post : Int → Mem → Prop} (hQ : Q = MQ below (Qi X post) args s cells slots (wA X)) (hG : GW X V H) (hS : va_S (wA X) s.heap H locs) {z : Int} (hdg : decode cc pc = .ok (.ireturn, 1)) (hz : z = 0 ∨ z = 1) (hp : post z V) : W p l e R s m args below meth c H locs cells slots Q (F0 m pc ls [.int (jI z)]) := by
  subst hQ; exact x_zret E hG hS hz hp hdg
theorem r_v (E : Ev p s m meth c own cc nL args none) {post : Mem → Prop} (hQ : Q = MQ below (Qv X post) args s cells slots (wA X)) (hG : GW X V H) (hS : va_S (wA X) s.heap H locs) (hdg : decode cc pc = .ok (.return_, 1)) (hp : post V) : W p l e R s m args below meth c H locs cells slots Q (F0 m pc ls []) := by
  subst hQ; exact x_vret E hG hS hp hdg
end XQ
end
section
/-! ===== the shore's shape ===== -/
def nb (wd hi c k : Int) : Int := if k = 0 then (if c % wd + 1 < wd then c + 1 else -1) else if k = 1 then (if 0 < c % wd then c - 1 else -1) else if k = 2 then ((c / wd + 1) % hi) * wd + c % wd else ((c / wd + hi - 1) % hi) * wd + c % wd
def dims (n : Nat) (wd hi : Int) : Prop := (n : Int) = wd * hi ∧ 4 ≤ wd ∧ wd ≤ 16 ∧ 2 ≤ hi ∧ hi ≤ 10
theorem dims.n {n : Nat} {wd hi : Int} (h : dims n wd hi) : 8 ≤ (n : Int) ∧ (n : Int) ≤ 160 := by
  obtain ⟨h0, h1, h2, h3, h4⟩ := h
  rw [h0]
  have a1 : 4 * 2 ≤ wd * hi := Int.mul_le_mul h1 h3 (by omega) (by omega)
  have a2 : wd * hi ≤ 16 * 10 := Int.mul_le_mul h2 h4 (by omega) (by omega)
  omega
/-- the place 1 is a shore's shape -/
def Sh (V : Mem) (n : Nat) (wd hi : Int) : Prop := V 1 0 = wd ∧ V 1 1 = hi ∧ V 1 2 = (n : Int) ∧ dims n wd hi ∧ ∀ c k, 0 ≤ c → c < (n : Int) → 0 ≤ k → k < 4 → V 2 (c * 4 + k) = nb wd hi c k
def b01 (q : Prop) [Decidable q] : Int := if q then 1 else 0
theorem b01_1 {q : Prop} [Decidable q] (h : q) : b01 q = 1 := if_pos h
theorem b01_0 {q : Prop} [Decidable q] (h : ¬ q) : b01 q = 0 := if_neg h
theorem b01_c {q : Prop} [Decidable q] : b01 q = 0 ∨ b01 q = 1 := by unfold b01; split <;> simp
theorem b01_iff {q : Prop} [Decidable q] : b01 q = 1 ↔ q := by unfold b01; split <;> simp_all
theorem b01_iff0 {q : Prop} [Decidable q] : b01 q = 0 ↔ ¬ q := by unfold b01; split <;> simp_all
theorem b01_rg {q : Prop} [Decidable q] : rg (b01 q) := by unfold b01 rg; split <;> omega
theorem nb_range {n : Nat} {wd hi c k : Int} (h : dims n wd hi) (h0 : 0 ≤ c) (h1 : c < (n : Int)) : -1 ≤ nb wd hi c k ∧ nb wd hi c k < (n : Int) := by
  obtain ⟨e, a1, a2, a3, a4⟩ := h
  have hx0 : 0 ≤ c % wd := Int.emod_nonneg _ (by omega)
  have hx1 : c % wd < wd := Int.emod_lt_of_pos _ (by omega)
  have hd := Int.mul_ediv_add_emod c wd
  have hy0 : 0 ≤ c / wd := Int.ediv_nonneg h0 (by omega)
  have key : ∀ y : Int, 0 ≤ y → y < hi → 0 ≤ y * wd + c % wd ∧ y * wd + c % wd < (n : Int) := by
    intro y y0 y1
    have b1 : 0 ≤ y * wd := Int.mul_nonneg y0 (by omega)
    have b2 : (y + 1) * wd ≤ hi * wd := Int.mul_le_mul_of_nonneg_right (by omega) (by omega)
    rw [Int.add_mul] at b2
    rw [e, Int.mul_comm wd hi]
    omega
  have m2 : ∀ z : Int, 0 ≤ z % hi ∧ z % hi < hi := fun z => ⟨Int.emod_nonneg _ (by omega), Int.emod_lt_of_pos _ (by omega)⟩
  unfold nb
  split
  · split
    · have hr : c + 1 ≤ c - c % wd + (wd - 1) := by omega
      have hq : c < (n : Int) := h1
      -- the row of c ends inside
      have hc := key (c / wd) hy0 (by
        have : c / wd < hi := by
          apply Int.ediv_lt_of_lt_mul (by omega)
          rw [← Int.mul_comm wd hi, ← e]; exact h1
        exact this)
      have hyh : c / wd < hi := by
        apply Int.ediv_lt_of_lt_mul (by omega)
        rw [← Int.mul_comm wd hi, ← e]; exact h1
      have b2 : (c / wd + 1) * wd ≤ hi * wd := Int.mul_le_mul_of_nonneg_right (by omega) (by omega)
      rw [Int.add_mul, Int.mul_comm hi wd, ← e] at b2
      rw [Int.mul_comm] at hd
      omega
    · omega
  · split
    · split <;> omega
    · split
      · have := key _ (m2 (c / wd + 1)).1 (m2 (c / wd + 1)).2
        omega
      · have := key _ (m2 (c / wd + hi - 1)).1 (m2 (c / wd + hi - 1)).2
        omega
end
section
set_option maxHeartbeats 4000000 in
set_option maxRecDepth 100000 in
theorem c_X3_has (l : Launch) {X : We} {n : Nat} (hX : isX X n) {wd hi : Int} (V : Mem) (hs : Sh V n wd hi) (c : Int) (hc : rg c) : Mt l X V yX3_has cX3_has 2 (some .boolean) 0 0 [.ref (wa X 1), .int (jI c)] (Qi X (fun z V1 => z = b01 (0 ≤ c ∧ c < (n : Int)) ∧ V1 = V)) := by
  refine Mt.go (by decide) (Nat.le_of_ble_eq_true rfl) ?_
  intro pg ev s0 mi bl mt cd ls Rm ag Qq hR hQ E hI hG hS hl
  have hl : lv_has ls 2 [(0, .ref (wa X 1)), (1, .int (jI c))] := hl
  obtain ⟨hn1, hn2⟩ := dims.n hs.2.2.2.1
  unfold rg at hc
  have L17_1 : ∀ (z : Int), (z = b01 (0 ≤ c ∧ c < (n : Int))) → ∀ (H : Heap) (locs : List Loc) (ls : Array Slot), GW X V H → va_S (wA X) s0.heap H locs → lv_has ls 2 [] → W pg l ev Rm s0 mi ag bl mt cd H locs 0 0 Qq (F0 mi 17 ls [.int (jI z)]) := by
    intro z hz H locs ls hG hS hl
    exact r_z E hQ hG hS dX3_has_17 (by rw [hz]; exact b01_c) (⟨hz, rfl⟩)
  refine x_iload_n E dX3_has_0 (lv_at hl 1 rfl) ?_
  refine x_if_lt E 16 dX3_has_1 (by decide) (by unfold rg; omega) (fun c1 => ?_) (fun c1 => ?_)
  · refine x_iconst E dX3_has_16 ?_
    exact L17_1 0 ((b01_0 (by omega)).symm) _ _ _ hG hS (lv_sub hl [] rfl)
  · refine x_iload_n E dX3_has_4 (lv_at hl 1 rfl) ?_
    refine x_aload_n E dX3_has_5 (lv_at hl 0 rfl) ?_
    refine x_geti E hI hG (xs0 hX) cf3 2 (n) rfl (by decide) hs.2.2.1 kf_X3_18 dX3_has_6 ?_
    refine x_icmp_ge E 16 dX3_has_9 (by decide) (by unfold rg; omega) (by unfold rg; omega) (fun c9 => ?_) (fun c9 => ?_)
    · refine x_iconst E dX3_has_16 ?_
      exact L17_1 0 ((b01_0 (by omega)).symm) _ _ _ hG hS (lv_sub hl [] rfl)
    · refine x_iconst E dX3_has_12 ?_
      refine x_goto E 17 dX3_has_13 (by decide) ?_
      exact L17_1 1 ((b01_1 (by omega)).symm) _ _ _ hG hS (lv_sub hl [] rfl)

set_option maxHeartbeats 4000000 in
set_option maxRecDepth 100000 in
theorem c_X3_beside (l : Launch) {X : We} {n : Nat} (hX : isX X n) {wd hi : Int} (V : Mem) (hs : Sh V n wd hi) (c k : Int) (hc : -1 ≤ c ∧ c < (n : Int)) (hk : 0 ≤ k ∧ k < 4) : Mt l X V yX3_beside cX3_beside 4 (some .int) 0 0 [.ref (wa X 1), .int (jI c), .int (jI k)] (Qi X (fun z V1 => z = (if 0 ≤ c then nb wd hi c k else -1) ∧ V1 = V)) := by
  refine Mt.go (by decide) (Nat.le_of_ble_eq_true rfl) ?_
  intro pg ev s0 mi bl mt cd ls Rm ag Qq hR hQ E hI hG hS hl
  have hl : lv_has ls 4 [(0, .ref (wa X 1)), (1, .int (jI c)), (2, .int (jI k))] := hl
  obtain ⟨hn1, hn2⟩ := dims.n hs.2.2.2.1
  have L33_1 : ∀ (z : Int), (z = (if 0 ≤ c then nb wd hi c k else -1)) → ∀ (H : Heap) (locs : List Loc) (ls : Array Slot), GW X V H → va_S (wA X) s0.heap H locs → lv_has ls 4 [] → W pg l ev Rm s0 mi ag bl mt cd H locs 0 0 Qq (F0 mi 33 ls [.int (jI z)]) := by
    intro z hz H locs ls hG hS hl
    exact r_i E hQ hG hS dX3_beside_33 (⟨hz, rfl⟩)
  refine x_iload_n E dX3_beside_0 (lv_at hl 1 rfl) ?_
  refine x_iconst E dX3_beside_1 ?_
  refine x_imul E dX3_beside_2 ?_
  refine x_iload_n E dX3_beside_3 (lv_at hl 2 rfl) ?_
  refine x_iadd E dX3_beside_4 ?_
  refine x_istore_n E [(3, .int (jI ((c * 4) + k))), (0, .ref (wa X 1)), (1, .int (jI c)), (2, .int (jI k))] dX3_beside_5 hl (by decide) rfl (fun ls hl => ?_)
  refine x_iload_n E dX3_beside_6 (lv_at hl 2 rfl) ?_
  refine x_if_lt E 32 dX3_beside_7 (by decide) (by unfold rg; omega) (fun c7 => ?_) (fun c7 => ?_)
  · refine x_iconst E dX3_beside_32 ?_
    exact L33_1 (-1) (by rw [if_neg (by omega)]) _ _ _ hG hS (lv_sub hl [] rfl)
  · refine x_iload_n E dX3_beside_10 (lv_at hl 0 rfl) ?_
    refine x_if_lt E 32 dX3_beside_11 (by decide) (by unfold rg; omega) (fun c11 => ?_) (fun c11 => ?_)
    · refine x_iconst E dX3_beside_32 ?_
      exact L33_1 (-1) (by rw [if_neg (by omega)]) _ _ _ hG hS (lv_sub hl [] rfl)
    · refine x_iload_n E dX3_beside_14 (lv_at hl 0 rfl) ?_
      refine x_aload_n E dX3_beside_15 (lv_at hl 1 rfl) ?_
      refine x_getr E hI hG (xs0 hX) cf3 3 2 rfl (by decide) kf_X3_21 dX3_beside_16 ?_
      refine x_alen E hI hG (xs1 hX) (by decide) dX3_beside_19 ?_
      refine x_icmp_ge E 32 dX3_beside_20 (by decide) (by unfold rg; omega) (by unfold rg; omega) (fun c20 => ?_) (fun c20 => ?_)
      · refine x_iconst E dX3_beside_32 ?_
        exact L33_1 (-1) (by rw [if_neg (by omega)]) _ _ _ hG hS (lv_sub hl [] rfl)
      · refine x_aload_n E dX3_beside_23 (lv_at hl 1 rfl) ?_
        refine x_getr E hI hG (xs0 hX) cf3 3 2 rfl (by decide) kf_X3_21 dX3_beside_24 ?_
        refine x_iload_n E dX3_beside_27 (lv_at hl 0 rfl) ?_
        refine x_iald E hI hG (xs1 hX) (nb wd hi c k) (hs.2.2.2.2 c k (by omega) (by omega) hk.1 hk.2) (by omega) dX3_beside_28 ?_
        refine x_goto E 33 dX3_beside_29 (by decide) ?_
        exact L33_1 (nb wd hi c k) (by rw [if_pos (by omega)]) _ _ _ hG hS (lv_sub hl [] rfl)
end
section
/-! ===== sliding: the pure part ===== -/
def stp (wd hi sl : Int) (h : Int → Int) (c : Int) : Prop := ∃ k : Int, 0 ≤ k ∧ k < 4 ∧ 0 ≤ nb wd hi c k ∧ sl < h c - h (nb wd hi c k)
def lb (h : Int → Int) (t d : Int) : Int := if 0 ≤ d ∧ (t < 0 ∨ h d < h t) then d else t
def lowK (wd hi : Int) (h : Int → Int) (c : Int) : Nat → Int
  | 0 => -1
  | j + 1 => lb h (lowK wd hi h c j) (nb wd hi c (j : Int))
def lowN (wd hi : Int) (h : Int → Int) (c : Int) : Int := lowK wd hi h c 4
def slide (wd hi : Int) (h : Int → Int) (c : Int) : Int → Int := ui (ui h c (h c - 1)) (lowN wd hi h c) (h (lowN wd hi h c) + 1)
theorem lowK_spec (wd hi : Int) (h : Int → Int) (c : Int) : ∀ j : Nat, (lowK wd hi h c j = -1 ∧ ∀ i : Nat, i < j → nb wd hi c (i : Int) < 0) ∨ (0 ≤ lowK wd hi h c j ∧ (∃ i : Nat, i < j ∧ lowK wd hi h c j = nb wd hi c (i : Int)) ∧ ∀ i : Nat, i < j → 0 ≤ nb wd hi c (i : Int) → h (lowK wd hi h c j) ≤ h (nb wd hi c (i : Int))) := by
  intro j
  induction j with
  | zero => exact Or.inl ⟨rfl, fun i hi => absurd hi (Nat.not_lt_zero _)⟩
  | succ j ih =>
    show (lb h (lowK wd hi h c j) (nb wd hi c (j : Int)) = -1 ∧ _) ∨ _
    have e : lowK wd hi h c (j + 1) = lb h (lowK wd hi h c j) (nb wd hi c (j : Int)) := rfl
    rw [e]
    generalize lowK wd hi h c j = t at ih
    unfold lb
    split
    · rename_i hq
      refine Or.inr ⟨hq.1, ⟨j, Nat.lt_succ_self j, rfl⟩, fun i hi h0 => ?_⟩
      rcases Nat.lt_succ_iff_lt_or_eq.mp hi with q | rfl
      · rcases ih with ⟨a1, a2⟩ | ⟨a1, a2, a3⟩
        · have := a2 i q; omega
        · have := a3 i q h0
          rcases hq.2 with z | z <;> omega
      · omega
    · rename_i hq
      rcases ih with ⟨a1, a2⟩ | ⟨a1, ⟨i, a2, a2'⟩, a3⟩
      · refine Or.inl ⟨a1, fun i hi => ?_⟩
        rcases Nat.lt_succ_iff_lt_or_eq.mp hi with q | rfl
        · exact a2 i q
        · rw [a1] at hq; omega
      · refine Or.inr ⟨a1, ⟨i, by omega, a2'⟩, fun i hi h0 => ?_⟩
        rcases Nat.lt_succ_iff_lt_or_eq.mp hi with q | rfl
        · exact a3 i q h0
        · omega
section PS
variable {n : Nat} {wd hi : Int}
theorem row_lt (hd : dims n wd hi) {c : Int} (h0 : 0 ≤ c) (h1 : c < (n : Int)) : 0 ≤ c / wd ∧ c / wd < hi ∧ 0 ≤ c % wd ∧ c % wd < wd ∧ c = c / wd * wd + c % wd := by
  obtain ⟨e, a1, a2, a3, a4⟩ := hd
  have hq := Int.mul_ediv_add_emod c wd
  refine ⟨Int.ediv_nonneg h0 (by omega), ?_, Int.emod_nonneg _ (by omega), Int.emod_lt_of_pos _ (by omega), ?_⟩
  · apply Int.ediv_lt_of_lt_mul (by omega)
    rw [← Int.mul_comm wd hi, ← e]; exact h1
  · rw [Int.mul_comm]; omega
theorem cell_of (hd : dims n wd hi) {x y : Int} (hy0 : 0 ≤ y) (hy1 : y < hi) (hx0 : 0 ≤ x) (hx1 : x < wd) : 0 ≤ y * wd + x ∧ y * wd + x < (n : Int) ∧ (y * wd + x) / wd = y ∧ (y * wd + x) % wd = x := by
  obtain ⟨e, a1, a2, a3, a4⟩ := hd
  have b1 : 0 ≤ y * wd := Int.mul_nonneg hy0 (by omega)
  have b2 : (y + 1) * wd ≤ hi * wd := Int.mul_le_mul_of_nonneg_right (by omega) (by omega)
  rw [Int.add_mul, Int.mul_comm hi wd, ← e] at b2
  refine ⟨by omega, by omega, ?_, ?_⟩
  · rw [Int.add_comm, Int.add_mul_ediv_right _ _ (by omega), Int.ediv_eq_zero_of_lt hx0 hx1]; omega
  · rw [Int.add_comm, Int.add_mul_emod_self_right]
    exact Int.emod_eq_of_lt hx0 hx1
/-- the neighbours, by row and column -/
theorem nb_xy (hd : dims n wd hi) {x y : Int} (hy0 : 0 ≤ y) (hy1 : y < hi) (hx0 : 0 ≤ x) (hx1 : x < wd) :
    nb wd hi (y * wd + x) 0 = (if x + 1 < wd then y * wd + (x + 1) else -1) ∧ nb wd hi (y * wd + x) 1 = (if 0 < x then y * wd + (x - 1) else -1) ∧ nb wd hi (y * wd + x) 2 = ((if y + 1 < hi then y + 1 else 0) * wd + x) ∧ nb wd hi (y * wd + x) 3 = ((if 0 < y then y - 1 else hi - 1) * wd + x) := by
  obtain ⟨_, _, e1, e2⟩ := cell_of hd hy0 hy1 hx0 hx1
  have hh : 2 ≤ hi := hd.2.2.2.1
  unfold nb
  rw [e1, e2]
  refine ⟨?_, ?_, ?_, ?_⟩
  · rw [if_pos rfl]; split <;> omega
  · rw [if_neg (by decide), if_pos rfl]; split <;> omega
  · rw [if_neg (by decide), if_neg (by decide), if_pos rfl]
    split
    · rw [Int.emod_eq_of_lt (by omega) (by omega)]
    · rw [show y + 1 = hi by omega, Int.emod_self]
  · rw [if_neg (by decide), if_neg (by decide), if_neg (by decide)]
    split
    · rw [show y + hi - 1 = (y - 1) + hi by omega, Int.add_emod_right, Int.emod_eq_of_lt (by omega) (by omega)]
    · rw [show y + hi - 1 = hi - 1 by omega, Int.emod_eq_of_lt (by omega) (by omega)]
theorem k4 {k : Int} (h0 : 0 ≤ k) (h1 : k < 4) : k = 0 ∨ k = 1 ∨ k = 2 ∨ k = 3 := by omega
theorem nb_sym (hd : dims n wd hi) {c k : Int} (h0 : 0 ≤ c) (h1 : c < (n : Int)) (k0 : 0 ≤ k) (k1 : k < 4) (hp : 0 ≤ nb wd hi c k) : ∃ j : Int, 0 ≤ j ∧ j < 4 ∧ nb wd hi (nb wd hi c k) j = c := by
  obtain ⟨y0, y1, x0, x1, ec⟩ := row_lt hd h0 h1
  generalize c / wd = y at *
  generalize c % wd = x at *
  subst ec
  obtain ⟨n0, n1, n2, n3⟩ := nb_xy hd y0 y1 x0 x1
  have hh : 2 ≤ hi := hd.2.2.2.1
  rcases k4 k0 k1 with rfl | rfl | rfl | rfl
  · rw [n0] at hp ⊢
    by_cases q : x + 1 < wd
    · rw [if_pos q] at hp ⊢
      refine ⟨1, by omega, by omega, ?_⟩
      rw [(nb_xy hd y0 y1 (x := x + 1) (by omega) q).2.1, if_pos (by omega)]; omega
    · rw [if_neg q] at hp; omega
  · rw [n1] at hp ⊢
    by_cases q : 0 < x
    · rw [if_pos q] at hp ⊢
      refine ⟨0, by omega, by omega, ?_⟩
      rw [(nb_xy hd y0 y1 (x := x - 1) (by omega) (by omega)).1, if_pos (by omega)]; omega
    · rw [if_neg q] at hp; omega
  · rw [n2]
    refine ⟨3, by omega, by omega, ?_⟩
    by_cases q : y + 1 < hi
    · rw [if_pos q, (nb_xy hd (y := y + 1) (by omega) q x0 x1).2.2.2, if_pos (by omega)]; congr 2; omega
    · rw [if_neg q, (nb_xy hd (y := 0) (by omega) (by omega) x0 x1).2.2.2, if_neg (by omega)]; congr 2; omega
  · rw [n3]
    refine ⟨2, by omega, by omega, ?_⟩
    by_cases q : 0 < y
    · rw [if_pos q, (nb_xy hd (y := y - 1) (by omega) (by omega) x0 x1).2.2.1, if_pos (by omega)]; congr 2; omega
    · rw [if_neg q, (nb_xy hd (y := hi - 1) (by omega) (by omega) x0 x1).2.2.1, if_neg (by omega)]; congr 2; omega
theorem nb_2 (hd : dims n wd hi) {c : Int} (h0 : 0 ≤ c) (h1 : c < (n : Int)) : 0 ≤ nb wd hi c 2 := by
  obtain ⟨y0, y1, x0, x1, ec⟩ := row_lt hd h0 h1
  generalize c / wd = y at *
  generalize c % wd = x at *
  subst ec
  rw [(nb_xy hd y0 y1 x0 x1).2.2.1]
  split
  · exact (cell_of hd (by omega) (by omega) x0 x1).1
  · exact (cell_of hd (by omega) (by omega) x0 x1).1
theorem nb_ne (hd : dims n wd hi) {c k : Int} (h0 : 0 ≤ c) (h1 : c < (n : Int)) (k0 : 0 ≤ k) (k1 : k < 4) : nb wd hi c k ≠ c := by
  obtain ⟨y0, y1, x0, x1, ec⟩ := row_lt hd h0 h1
  generalize c / wd = y at *
  generalize c % wd = x at *
  subst ec
  obtain ⟨n0, n1, n2, n3⟩ := nb_xy hd y0 y1 x0 x1
  have hh : 2 ≤ hi := hd.2.2.2.1
  have hne : ∀ z : Int, 0 ≤ z → z < hi → z ≠ y → z * wd + x ≠ y * wd + x := by
    intro z z0 z1 zy e
    have a := (cell_of hd z0 z1 x0 x1).2.2.1
    have b := (cell_of hd y0 y1 x0 x1).2.2.1
    rw [e] at a
    exact zy (a.symm.trans b)
  rcases k4 k0 k1 with rfl | rfl | rfl | rfl
  · rw [n0]; split <;> omega
  · rw [n1]; split <;> omega
  · rw [n2]; split
    · exact hne _ (by omega) (by omega) (by omega)
    · exact hne _ (by omega) (by omega) (by omega)
  · rw [n3]; split
    · exact hne _ (by omega) (by omega) (by omega)
    · exact hne _ (by omega) (by omega) (by omega)
theorem lowN_spec (hd : dims n wd hi) (h : Int → Int) {c : Int} (h0 : 0 ≤ c) (h1 : c < (n : Int)) : 0 ≤ lowN wd hi h c ∧ lowN wd hi h c < (n : Int) ∧ lowN wd hi h c ≠ c ∧ (∃ k : Int, 0 ≤ k ∧ k < 4 ∧ lowN wd hi h c = nb wd hi c k) ∧ ∀ k : Int, 0 ≤ k → k < 4 → 0 ≤ nb wd hi c k → h (lowN wd hi h c) ≤ h (nb wd hi c k) := by
  rcases lowK_spec wd hi h c 4 with ⟨a1, a2⟩ | ⟨a1, ⟨i, a2, a3⟩, a4⟩
  · have := a2 2 (by decide)
    have := nb_2 hd h0 h1
    simp at *
    omega
  · have e : lowN wd hi h c = nb wd hi c (i : Int) := a3
    refine ⟨a1, ?_, ?_, ⟨i, by omega, by omega, a3⟩, fun k k0 k1 hp => ?_⟩
    · rw [e]; exact (nb_range hd h0 h1).2
    · rw [e]; exact nb_ne hd h0 h1 (by omega) (by omega)
    · obtain ⟨j, rfl⟩ := Int.eq_ofNat_of_zero_le k0
      exact a4 j (by omega) hp
theorem stp_low (hd : dims n wd hi) {sl : Int} {h : Int → Int} {c : Int} (h0 : 0 ≤ c) (h1 : c < (n : Int)) : stp wd hi sl h c ↔ sl < h c - h (lowN wd hi h c) := by
  obtain ⟨a1, a2, a3, ⟨k, b0, b1, b2⟩, a4⟩ := lowN_spec hd h h0 h1
  constructor
  · rintro ⟨j, j0, j1, j2, j3⟩
    have := a4 j j0 j1 j2
    omega
  · intro q
    exact ⟨k, b0, b1, by rw [← b2]; exact a1, by rw [← b2]; exact q⟩
/-! sums -/
def su : Nat → (Int → Int) → Int
  | 0, _ => 0
  | k + 1, f => su k f + f (k : Int)
theorem su_congr {f g : Int → Int} : ∀ k : Nat, (∀ c : Int, 0 ≤ c → c < (k : Int) → f c = g c) → su k f = su k g
  | 0, _ => rfl
  | k + 1, h => by
    show su k f + f (k : Int) = su k g + g (k : Int)
    rw [su_congr k (fun c h0 h1 => h c h0 (by omega)), h (k : Int) (by omega) (by omega)]
theorem su_ui {f : Int → Int} {c v : Int} : ∀ k : Nat, 0 ≤ c → c < (k : Int) → su k (ui f c v) = su k f - f c + v
  | 0, h0, h1 => by omega
  | k + 1, h0, h1 => by
    show su k (ui f c v) + ui f c v (k : Int) = su k f + f (k : Int) - f c + v
    by_cases q : c = (k : Int)
    · rw [su_congr k (f := ui f c v) (g := f) (fun d d0 d1 => ui_n (by omega)), q, ui_s]; omega
    · rw [su_ui k h0 (by omega), ui_n (fun e => q e.symm)]; omega
theorem su_le {f g : Int → Int} : ∀ k : Nat, (∀ c : Int, 0 ≤ c → c < (k : Int) → f c ≤ g c) → su k f ≤ su k g
  | 0, _ => Int.le_refl _
  | k + 1, h => by
    have a := su_le k (fun c h0 h1 => h c h0 (by omega))
    have b := h (k : Int) (by omega) (by omega)
    show su k f + f (k : Int) ≤ su k g + g (k : Int)
    omega
theorem su_const (v : Int) : ∀ k : Nat, su k (fun _ => v) = (k : Int) * v
  | 0 => by simp [su]
  | k + 1 => by
    show su k (fun _ => v) + v = ((k + 1 : Nat) : Int) * v
    rw [su_const v k]
    rw [show ((k + 1 : Nat) : Int) = (k : Int) + 1 by omega, Int.add_mul]; omega
theorem su_at {f : Int → Int} {c : Int} : ∀ k : Nat, 0 ≤ c → c < (k : Int) → (∀ d : Int, 0 ≤ d → d < (k : Int) → 0 ≤ f d) → f c ≤ su k f
  | 0, h0, h1, _ => by omega
  | k + 1, h0, h1, hp => by
    show f c ≤ su k f + f (k : Int)
    have a : 0 ≤ su k f := by
      have := su_le k (f := fun _ => 0) (g := f) (fun d d0 d1 => hp d d0 (by omega))
      rw [su_const] at this
      omega
    by_cases q : c = (k : Int)
    · rw [q]; omega
    · have := su_at k h0 (by omega) (fun d d0 d1 => hp d d0 (by omega))
      have := hp (k : Int) (by omega) (by omega)
      omega
def sq (n : Nat) (m : Int) (h : Int → Int) : Int := su n (fun k => (h k - m) * (h k - m))
theorem sq_nonneg (n : Nat) (m : Int) (h : Int → Int) : 0 ≤ sq n m h := by
  have := su_le n (f := fun _ => 0) (g := fun k => (h k - m) * (h k - m)) (fun c _ _ => by
    show 0 ≤ (h c - m) * (h c - m)
    rcases Int.le_total 0 (h c - m) with q | q
    · exact Int.mul_nonneg q q
    · exact Int.mul_nonneg_of_nonpos_of_nonpos q q)
  rw [su_const] at this
  unfold sq
  omega
theorem sq_ui {m : Int} {h : Int → Int} {c v : Int} (h0 : 0 ≤ c) (h1 : c < (n : Int)) : sq n m (ui h c v) = sq n m h - (h c - m) * (h c - m) + (v - m) * (v - m) := by
  unfold sq
  rw [← su_ui n h0 h1]
  apply su_congr
  intro d _ _
  unfold ui
  split <;> rfl
theorem slide_sq (hd : dims n wd hi) {sl m : Int} {h : Int → Int} {c : Int} (hs : 1 ≤ sl) (h0 : 0 ≤ c) (h1 : c < (n : Int)) (q : stp wd hi sl h c) : sq n m (slide wd hi h c) ≤ sq n m h - 2 := by
  obtain ⟨a1, a2, a3, -, -⟩ := lowN_spec hd h h0 h1
  have q2 := (stp_low hd h0 h1).mp q
  unfold slide
  rw [sq_ui a1 a2, sq_ui h0 h1, ui_n a3]
  generalize lowN wd hi h c = t at *
  have hx : ∀ a b : Int, 2 ≤ a - b → -((b - m) * (b - m)) + (b + 1 - m) * (b + 1 - m) - (a - m) * (a - m) + (a - 1 - m) * (a - 1 - m) ≤ -2 := by
    intro a b hab
    have e1 : (b + 1 - m) * (b + 1 - m) = (b - m) * (b - m) + 2 * (b - m) + 1 := by
      rw [show b + 1 - m = (b - m) + 1 by omega, Int.add_mul, Int.mul_add]; omega
    have e2 : (a - 1 - m) * (a - 1 - m) = (a - m) * (a - m) - 2 * (a - m) + 1 := by
      rw [show a - 1 - m = (a - m) - 1 by omega, Int.sub_mul, Int.mul_sub]; omega
    rw [e1, e2]; omega
  have := hx (h c) (h t) (by omega)
  omega
end PS
end
section
def settled (n : Nat) (wd hi sl : Int) (h : Int → Int) : Prop := ∀ c : Int, 0 ≤ c → c < (n : Int) → ¬ stp wd hi sl h c
def frs (n : Nat) (wd hi sl : Int) (h : Int → Int) (c : Int) : Prop := 0 ≤ c ∧ c < (n : Int) ∧ stp wd hi sl h c ∧ ∀ d : Int, 0 ≤ d → d < c → ¬ stp wd hi sl h d
noncomputable def sstep (n : Nat) (wd hi sl : Int) (h : Int → Int) : Int → Int := @dite _ (∃ c, frs n wd hi sl h c) (Classical.propDecidable _) (fun q => slide wd hi h (Classical.choose q)) (fun _ => h)
noncomputable def itr (n : Nat) (wd hi sl : Int) (h : Int → Int) : Nat → (Int → Int)
  | 0 => h
  | k + 1 => sstep n wd hi sl (itr n wd hi sl h k)
noncomputable def stl (n : Nat) (wd hi sl : Int) (h : Int → Int) : Int → Int := @dite _ (∃ k, settled n wd hi sl (itr n wd hi sl h k)) (Classical.propDecidable _) (fun q => itr n wd hi sl h (Classical.choose q)) (fun _ => h)
section ST
variable {n : Nat} {wd hi sl : Int}
theorem frs_one {h : Int → Int} {c d : Int} (hc : frs n wd hi sl h c) (hd : frs n wd hi sl h d) : c = d := by
  rcases Int.lt_trichotomy c d with q | q | q
  · exact absurd hc.2.2.1 (hd.2.2.2 c hc.1 q)
  · exact q
  · exact absurd hd.2.2.1 (hc.2.2.2 d hd.1 q)
theorem sstep_at {h : Int → Int} {c : Int} (hc : frs n wd hi sl h c) : sstep n wd hi sl h = slide wd hi h c := by
  have hx : ∃ c, frs n wd hi sl h c := ⟨c, hc⟩
  unfold sstep
  rw [dif_pos hx, frs_one (Classical.choose_spec hx) hc]
theorem sstep_no {h : Int → Int} (hs : settled n wd hi sl h) : sstep n wd hi sl h = h := by
  unfold sstep
  rw [dif_neg]
  rintro ⟨c, hc⟩
  exact hs c hc.1 hc.2.1 hc.2.2.1
theorem frs_ex {h : Int → Int} (hs : ¬ settled n wd hi sl h) : ∃ c, frs n wd hi sl h c := by
  have key : ∀ k : Nat, (∀ d : Int, 0 ≤ d → d < (k : Int) → ¬ stp wd hi sl h d) ∨ ∃ c, c < (k : Int) ∧ 0 ≤ c ∧ stp wd hi sl h c ∧ ∀ d : Int, 0 ≤ d → d < c → ¬ stp wd hi sl h d := by
    intro k
    induction k with
    | zero => exact Or.inl (fun d d0 d1 => by omega)
    | succ k ih =>
      rcases ih with q | ⟨c, a, b⟩
      · rcases Classical.em (stp wd hi sl h (k : Int)) with z | z
        · exact Or.inr ⟨(k : Int), by omega, by omega, z, q⟩
        · refine Or.inl (fun d d0 d1 => ?_)
          rcases Int.lt_or_le d (k : Int) with y | y
          · exact q d d0 y
          · rw [show d = (k : Int) by omega]; exact z
      · exact Or.inr ⟨c, by omega, b⟩
  rcases key n with q | ⟨c, a, b, e, f⟩
  · exact absurd q hs
  · exact ⟨c, b, a, e, f⟩
theorem itr_stop {h : Int → Int} {k : Nat} (hs : settled n wd hi sl (itr n wd hi sl h k)) : ∀ j : Nat, itr n wd hi sl h (k + j) = itr n wd hi sl h k := by
  intro j
  induction j with
  | zero => rfl
  | succ j ih =>
    show sstep n wd hi sl (itr n wd hi sl h (k + j)) = _
    rw [ih, sstep_no hs]
theorem stl_of {h : Int → Int} {k : Nat} (hs : settled n wd hi sl (itr n wd hi sl h k)) : stl n wd hi sl h = itr n wd hi sl h k := by
  have hx : ∃ k, settled n wd hi sl (itr n wd hi sl h k) := ⟨k, hs⟩
  unfold stl
  rw [dif_pos hx]
  have h2 := Classical.choose_spec hx
  generalize Classical.choose hx = j at *
  rcases Nat.le_total j k with q | q
  · rw [← Nat.add_sub_cancel' q, itr_stop h2]
  · rw [← Nat.add_sub_cancel' q, itr_stop hs]
theorem sstep_cases (hd : dims n wd hi) (hs : 1 ≤ sl) (h : Int → Int) : (settled n wd hi sl h ∧ sstep n wd hi sl h = h) ∨ ∃ c, frs n wd hi sl h c ∧ sstep n wd hi sl h = slide wd hi h c := by
  rcases Classical.em (settled n wd hi sl h) with q | q
  · exact Or.inl ⟨q, sstep_no q⟩
  · obtain ⟨c, hc⟩ := frs_ex q
    exact Or.inr ⟨c, hc, sstep_at hc⟩
theorem itr_ex (hd : dims n wd hi) (hs : 1 ≤ sl) (h : Int → Int) : ∃ k, settled n wd hi sl (itr n wd hi sl h k) := by
  have key : ∀ N k : Nat, sq n 0 (itr n wd hi sl h k) < (N : Int) → ∃ k, settled n wd hi sl (itr n wd hi sl h k) := by
    intro N
    induction N with
    | zero => intro k hk; have := sq_nonneg n 0 (itr n wd hi sl h k); omega
    | succ N ih =>
      intro k hk
      rcases sstep_cases hd hs (itr n wd hi sl h k) with ⟨q, -⟩ | ⟨c, hc, e⟩
      · exact ⟨k, q⟩
      · refine ih (k + 1) ?_
        show sq n 0 (sstep n wd hi sl (itr n wd hi sl h k)) < (N : Int)
        rw [e]
        have := slide_sq (m := 0) hd hs hc.1 hc.2.1 hc.2.2.1
        omega
  exact key ((sq n 0 h).toNat + 1) 0 (by show sq n 0 h < _; have := sq_nonneg n 0 h; omega)
theorem stl_settled (hd : dims n wd hi) (hs : 1 ≤ sl) (h : Int → Int) : settled n wd hi sl (stl n wd hi sl h) := by
  obtain ⟨k, hk⟩ := itr_ex hd hs h
  rw [stl_of hk]; exact hk
theorem stl_itr (hd : dims n wd hi) (hs : 1 ≤ sl) (h : Int → Int) : ∃ k, stl n wd hi sl h = itr n wd hi sl h k := by
  obtain ⟨k, hk⟩ := itr_ex hd hs h
  exact ⟨k, stl_of hk⟩
theorem stl_id (h : Int → Int) (hs : settled n wd hi sl h) : stl n wd hi sl h = h := stl_of (k := 0) hs
/-- what slides keep -/
theorem itr_keep (hd : dims n wd hi) (hs : 1 ≤ sl) (P : (Int → Int) → Prop) (hP : ∀ (g : Int → Int) (c : Int), P g → 0 ≤ c → c < (n : Int) → stp wd hi sl g c → P (slide wd hi g c)) {h : Int → Int} (h0 : P h) : ∀ k, P (itr n wd hi sl h k) := by
  intro k
  induction k with
  | zero => exact h0
  | succ k ih =>
    show P (sstep n wd hi sl (itr n wd hi sl h k))
    rcases sstep_cases hd hs (itr n wd hi sl h k) with ⟨-, e⟩ | ⟨c, hc, e⟩
    · rw [e]; exact ih
    · rw [e]; exact hP _ c ih hc.1 hc.2.1 hc.2.2.1
theorem stl_keep (hd : dims n wd hi) (hs : 1 ≤ sl) (P : (Int → Int) → Prop) (hP : ∀ (g : Int → Int) (c : Int), P g → 0 ≤ c → c < (n : Int) → stp wd hi sl g c → P (slide wd hi g c)) {h : Int → Int} (h0 : P h) : P (stl n wd hi sl h) := by
  obtain ⟨k, e⟩ := stl_itr hd hs h
  rw [e]; exact itr_keep hd hs P hP h0 k
/-- bounds, sum and the far cells -/
def bnd (n : Nat) (L U : Int) (h : Int → Int) : Prop := ∀ c : Int, 0 ≤ c → c < (n : Int) → L ≤ h c ∧ h c ≤ U
theorem slide_bnd (hd : dims n wd hi) (hs : 1 ≤ sl) {L U : Int} {g : Int → Int} {c : Int} (hb : bnd n L U g) (h0 : 0 ≤ c) (h1 : c < (n : Int)) (q : stp wd hi sl g c) : bnd n L U (slide wd hi g c) := by
  obtain ⟨a1, a2, a3, -, -⟩ := lowN_spec hd g h0 h1
  have q2 := (stp_low hd h0 h1).mp q
  have b1 := hb c h0 h1
  have b2 := hb _ a1 a2
  intro d d0 d1
  have b3 := hb d d0 d1
  unfold slide
  generalize lowN wd hi g c = t at *
  unfold ui
  split
  · omega
  · split <;> omega
theorem slide_su (hd : dims n wd hi) (g : Int → Int) {c : Int} (h0 : 0 ≤ c) (h1 : c < (n : Int)) : su n (slide wd hi g c) = su n g := by
  obtain ⟨a1, a2, a3, -, -⟩ := lowN_spec hd g h0 h1
  unfold slide
  rw [su_ui n a1 a2, su_ui n h0 h1, ui_n a3]
  omega
theorem slide_far (hd : dims n wd hi) (g : Int → Int) {c d : Int} (h0 : 0 ≤ c) (h1 : c < (n : Int)) (hf : d < 0 ∨ (n : Int) ≤ d) : slide wd hi g c d = g d := by
  obtain ⟨a1, a2, a3, -, -⟩ := lowN_spec hd g h0 h1
  unfold slide
  rw [ui_n (by omega), ui_n (by omega)]
theorem stl_bnd (hd : dims n wd hi) (hs : 1 ≤ sl) {L U : Int} {h : Int → Int} (hb : bnd n L U h) : bnd n L U (stl n wd hi sl h) := stl_keep hd hs (bnd n L U) (fun _ _ hb h0 h1 q => slide_bnd hd hs hb h0 h1 q) hb
theorem stl_su (hd : dims n wd hi) (hs : 1 ≤ sl) (h : Int → Int) : su n (stl n wd hi sl h) = su n h := stl_keep hd hs (fun g => su n g = su n h) (fun g c e h0 h1 _ => (slide_su hd g h0 h1).trans e) rfl
theorem stl_far (hd : dims n wd hi) (hs : 1 ≤ sl) (h : Int → Int) {d : Int} (hf : d < 0 ∨ (n : Int) ≤ d) : stl n wd hi sl h d = h d := stl_keep hd hs (fun g => g d = h d) (fun g c e h0 h1 _ => (slide_far hd g h0 h1 hf).trans e) rfl
/-- what a slide can bring: the cell that got a grain, and neighbours above the one that gave it -/
theorem slide_new (hd : dims n wd hi) {g : Int → Int} {c d : Int} (hs : 1 ≤ sl) (h0 : 0 ≤ c) (h1 : c < (n : Int)) (q : stp wd hi sl g c) (d0 : 0 ≤ d) (d1 : d < (n : Int)) (hq : stp wd hi sl (slide wd hi g c) d) : stp wd hi sl g d ∨ d = lowN wd hi g c ∨ ∃ k : Int, 0 ≤ k ∧ k < 4 ∧ nb wd hi c k = d ∧ sl < slide wd hi g c d - slide wd hi g c c := by
  obtain ⟨a1, a2, a3, -, -⟩ := lowN_spec hd g h0 h1
  obtain ⟨k, k0, k1, k2, k3⟩ := hq
  rcases Classical.em (d = lowN wd hi g c) with e | e
  · exact Or.inr (Or.inl e)
  · rcases Classical.em (nb wd hi d k = c) with e2 | e2
    · obtain ⟨j, j0, j1, j2⟩ := nb_sym hd d0 d1 k0 k1 k2
      rw [e2] at j2 k3
      exact Or.inr (Or.inr ⟨j, j0, j1, j2, k3⟩)
    · refine Or.inl ⟨k, k0, k1, k2, ?_⟩
      have hd1 : slide wd hi g c d ≤ g d := by
        unfold slide
        rw [ui_n e]
        unfold ui
        split
        · rename_i z; rw [z]; omega
        · exact Int.le_refl _
      have hd2 : g (nb wd hi d k) ≤ slide wd hi g c (nb wd hi d k) := by
        unfold slide
        by_cases z : nb wd hi d k = lowN wd hi g c
        · rw [z, ui_s]; omega
        · rw [ui_n z, ui_n e2]; exact Int.le_refl _
      omega
/-- one cell became higher, or lower -/
theorem ui_new (hd : dims n wd hi) {g : Int → Int} {c v d : Int} (h0 : 0 ≤ c) (h1 : c < (n : Int)) (hg : settled n wd hi sl g) (d0 : 0 ≤ d) (d1 : d < (n : Int)) (hq : stp wd hi sl (ui g c v) d) : (d = c ∧ g c < v) ∨ (v < g c ∧ ∃ k : Int, 0 ≤ k ∧ k < 4 ∧ nb wd hi c k = d ∧ sl < ui g c v d - ui g c v c) := by
  obtain ⟨k, k0, k1, k2, k3⟩ := hq
  have hr := (nb_range (k := k) hd d0 d1).2
  rcases Classical.em (d = c) with e | e
  · subst e
    refine Or.inl ⟨rfl, ?_⟩
    rw [ui_s, ui_n (nb_ne hd d0 d1 k0 k1)] at k3
    rcases Int.lt_or_le (g d) v with z | z
    · exact z
    · exact absurd ⟨k, k0, k1, k2, by omega⟩ (hg d d0 d1)
  · rcases Classical.em (nb wd hi d k = c) with e2 | e2
    · obtain ⟨j, j0, j1, j2⟩ := nb_sym hd d0 d1 k0 k1 k2
      rw [e2] at j2 k3
      refine Or.inr ⟨?_, j, j0, j1, j2, k3⟩
      rw [ui_n e, ui_s] at k3
      rcases Int.lt_or_le v (g c) with z | z
      · exact z
      · exact absurd ⟨k, k0, k1, k2, by rw [e2]; omega⟩ (hg d d0 d1)
    · rw [ui_n e, ui_n e2] at k3
      exact absurd ⟨k, k0, k1, k2, k3⟩ (hg d d0 d1)
end ST
end
section
section HP
variable {n : Nat} {wd hi sl : Int}
theorem not_stp {h : Int → Int} {c : Int} (q : ¬ stp wd hi sl h c) {k : Int} (k0 : 0 ≤ k) (k1 : k < 4) (hp : 0 ≤ nb wd hi c k) : h c - h (nb wd hi c k) ≤ sl := by
  rcases Int.lt_or_le sl (h c - h (nb wd hi c k)) with z | z
  · exact absurd ⟨k, k0, k1, hp, z⟩ q
  · exact z
theorem settled_row (hd : dims n wd hi) {h : Int → Int} (hs : settled n wd hi sl h) (h9 : sl ≤ 9) {y : Int} (y0 : 0 ≤ y) (y1 : y < hi) : ∀ x : Nat, (x : Int) < wd → h (y * wd + (x : Int)) ≤ h (y * wd) + 9 * (x : Int) ∧ h (y * wd) ≤ h (y * wd + (x : Int)) + 9 * (x : Int) := by
  intro x
  induction x with
  | zero => intro _; simp
  | succ x ih =>
    intro hx
    have ih := ih (by omega)
    obtain ⟨c0, c1, -, -⟩ := cell_of hd y0 y1 (x := (x : Int)) (by omega) (by omega)
    obtain ⟨d0, d1, -, -⟩ := cell_of hd y0 y1 (x := (x : Int) + 1) (by omega) (by omega)
    have n0 := (nb_xy hd y0 y1 (x := (x : Int)) (by omega) (by omega)).1
    have n1 := (nb_xy hd y0 y1 (x := (x : Int) + 1) (by omega) (by omega)).2.1
    rw [if_pos (by omega)] at n0
    rw [if_pos (by omega)] at n1
    have a := not_stp (hs _ c0 c1) (k := 0) (by omega) (by omega) (by rw [n0]; exact d0)
    have b := not_stp (hs _ d0 d1) (k := 1) (by omega) (by omega) (by rw [n1]; rw [show (x : Int) + 1 - 1 = (x : Int) by omega]; exact c0)
    rw [n0] at a
    rw [n1, show (x : Int) + 1 - 1 = (x : Int) by omega] at b
    rw [show ((x + 1 : Nat) : Int) = (x : Int) + 1 by omega]
    omega
theorem settled_col (hd : dims n wd hi) {h : Int → Int} (hs : settled n wd hi sl h) (h9 : sl ≤ 9) : ∀ y : Nat, (y : Int) < hi → h ((y : Int) * wd) ≤ h 0 + 9 * (y : Int) ∧ h 0 ≤ h ((y : Int) * wd) + 9 * (y : Int) := by
  have hw : 4 ≤ wd := hd.2.1
  intro y
  induction y with
  | zero => intro _; simp
  | succ y ih =>
    intro hy
    have ih := ih (by omega)
    obtain ⟨c0, c1, -, -⟩ := cell_of hd (y := (y : Int)) (x := 0) (by omega) (by omega) (by omega) (by omega)
    obtain ⟨d0, d1, -, -⟩ := cell_of hd (y := (y : Int) + 1) (x := 0) (by omega) (by omega) (by omega) (by omega)
    have n2 := (nb_xy hd (y := (y : Int)) (x := 0) (by omega) (by omega) (by omega) (by omega)).2.2.1
    have n3 := (nb_xy hd (y := (y : Int) + 1) (x := 0) (by omega) (by omega) (by omega) (by omega)).2.2.2
    rw [if_pos (by omega)] at n2
    rw [if_pos (by omega), show (y : Int) + 1 - 1 = (y : Int) by omega] at n3
    simp only [Int.add_zero] at *
    have a := not_stp (hs _ c0 c1) (k := 2) (by omega) (by omega) (by rw [n2]; exact d0)
    have b := not_stp (hs _ d0 d1) (k := 3) (by omega) (by omega) (by rw [n3]; exact c0)
    rw [n2] at a
    rw [n3] at b
    rw [show ((y + 1 : Nat) : Int) = (y : Int) + 1 by omega]
    omega
theorem settled_near (hd : dims n wd hi) {h : Int → Int} (hs : settled n wd hi sl h) (h9 : sl ≤ 9) {c : Int} (h0 : 0 ≤ c) (h1 : c < (n : Int)) : h c ≤ h 0 + 216 ∧ h 0 ≤ h c + 216 := by
  obtain ⟨y0, y1, x0, x1, ec⟩ := row_lt hd h0 h1
  obtain ⟨-, a1, a2, a3, a4⟩ := id hd
  generalize c / wd = y at *
  generalize c % wd = x at *
  obtain ⟨x, rfl⟩ := Int.eq_ofNat_of_zero_le x0
  obtain ⟨y, rfl⟩ := Int.eq_ofNat_of_zero_le y0
  have r := settled_row hd hs h9 (y := (y : Int)) y0 y1 x (by omega)
  have q := settled_col hd hs h9 y y1
  rw [ec]
  constructor <;> omega
/-- what holds of the heaps between slides: t bounds what came by supply -/
def HI (n : Nat) (wd hi sl t : Int) (h : Int → Int) : Prop := settled n wd hi sl h ∧ (∀ c : Int, 0 ≤ c → c < (n : Int) → 0 ≤ h c) ∧ su n h ≤ 1430 * (n : Int) + t ∧ 1 ≤ sl ∧ sl ≤ 9 ∧ 0 ≤ t ∧ t ≤ 60100
/-- what a slide may begin with -/
def PS (n : Nat) (h : Int → Int) : Prop := bnd n 0 9500 h ∧ ∃ m : Int, sq n m h ≤ 300000000
theorem HI.top (hd : dims n wd hi) {t : Int} {h : Int → Int} (hh : HI n wd hi sl t h) {c : Int} (h0 : 0 ≤ c) (h1 : c < (n : Int)) : h c ≤ 9400 := by
  obtain ⟨hs, hp, ht, -, h9, -, ht2⟩ := hh
  obtain ⟨n1, n2⟩ := dims.n hd
  rcases Int.lt_or_le 9400 (h c) with z | z
  · exfalso
    have a := su_le n (f := fun _ => h c - 432) (g := h) (fun d d0 d1 => by
      have p1 := settled_near hd hs h9 d0 d1
      have p2 := settled_near hd hs h9 h0 h1
      omega)
    rw [su_const] at a
    have b : (n : Int) * (h c - 432) = (n : Int) * (h c - 1862) + (n : Int) * 1430 := by
      rw [← Int.mul_add]; congr 1; omega
    have e : 8 * 7538 ≤ (n : Int) * (h c - 1862) := Int.mul_le_mul n1 (by omega) (by omega) (by omega)
    omega
  · exact z
theorem HI.bnd (hd : dims n wd hi) {t : Int} {h : Int → Int} (hh : HI n wd hi sl t h) : bnd n 0 9400 h := fun c h0 h1 => ⟨hh.2.1 c h0 h1, hh.top hd h0 h1⟩
theorem sq_bound {m B : Int} (hB : 0 ≤ B) {h : Int → Int} (hb : ∀ c : Int, 0 ≤ c → c < (n : Int) → -B ≤ h c - m ∧ h c - m ≤ B) : sq n m h ≤ (n : Int) * (B * B) := by
  have := su_le n (f := fun k => (h k - m) * (h k - m)) (g := fun _ => B * B) (fun d d0 d1 => by
    obtain ⟨p1, p2⟩ := hb d d0 d1
    show (h d - m) * (h d - m) ≤ B * B
    rcases Int.le_total 0 (h d - m) with q | q
    · exact Int.mul_le_mul p2 p2 q hB
    · have := Int.mul_le_mul (show -(h d - m) ≤ B by omega) (show -(h d - m) ≤ B by omega) (by omega) hB
      rw [Int.neg_mul_neg] at this
      exact this)
  rw [su_const] at this
  exact this
theorem HI.sq (hd : dims n wd hi) {t : Int} {h : Int → Int} (hh : HI n wd hi sl t h) : sq n (h 0) h ≤ 8000000 := by
  obtain ⟨n1, n2⟩ := dims.n hd
  have a := sq_bound (n := n) (m := h 0) (B := 216) (by omega) (h := h) (fun c h0 h1 => by
    have := settled_near hd hh.1 hh.2.2.2.2.1 h0 h1
    omega)
  have b : (n : Int) * (216 * 216) ≤ 160 * (216 * 216) := Int.mul_le_mul_of_nonneg_right n2 (by omega)
  omega
theorem HI.ps (hd : dims n wd hi) {t : Int} {h : Int → Int} (hh : HI n wd hi sl t h) : PS n h := ⟨fun c h0 h1 => by have := hh.bnd hd c h0 h1; omega, h 0, by have := hh.sq hd; omega⟩
theorem HI.put (hd : dims n wd hi) {t : Int} {h : Int → Int} (hh : HI n wd hi sl t h) {c v : Int} (h0 : 0 ≤ c) (h1 : c < (n : Int)) (v0 : 0 ≤ v) (v1 : v ≤ 9500) : PS n (ui h c v) := by
  refine ⟨fun d d0 d1 => ?_, h 0, ?_⟩
  · have := hh.bnd hd d d0 d1
    unfold ui
    split <;> omega
  · rw [sq_ui h0 h1]
    have a := hh.sq hd
    obtain ⟨n1, n2⟩ := dims.n hd
    have b := hh.bnd hd 0 (by omega) (by omega)
    have e : (v - h 0) * (v - h 0) ≤ 9500 * 9500 := by
      rcases Int.le_total 0 (v - h 0) with q | q
      · exact Int.mul_le_mul (by omega) (by omega) q (by omega)
      · have := Int.mul_le_mul (show -(v - h 0) ≤ 9500 by omega) (show -(v - h 0) ≤ 9500 by omega) (by omega) (by omega)
        rw [Int.neg_mul_neg] at this
        exact this
    have f : 0 ≤ (h c - h 0) * (h c - h 0) := by
      rcases Int.le_total 0 (h c - h 0) with q | q
      · exact Int.mul_nonneg q q
      · exact Int.mul_nonneg_of_nonpos_of_nonpos q q
    omega
/-- after sliding, by another slope perhaps -/
theorem HI.after (hd : dims n wd hi) {s2 t : Int} {g : Int → Int} (hg : ∀ c : Int, 0 ≤ c → c < (n : Int) → 0 ≤ g c) (ht : su n g ≤ 1430 * (n : Int) + t) (hs : 1 ≤ s2) (h9 : s2 ≤ 9) (t0 : 0 ≤ t) (t1 : t ≤ 60100) : HI n wd hi s2 t (stl n wd hi s2 g) := by
  refine ⟨stl_settled hd hs g, ?_, by rw [stl_su hd hs]; exact ht, hs, h9, t0, t1⟩
  exact stl_keep hd hs (fun g => ∀ c : Int, 0 ≤ c → c < (n : Int) → 0 ≤ g c) (fun g c hb h0 h1 q d d0 d1 => by
    obtain ⟨a1, a2, a3, -, -⟩ := lowN_spec hd g h0 h1
    have q2 := (stp_low hd h0 h1).mp q
    have b1 := hb _ a1 a2
    have b2 := hb d d0 d1
    unfold slide
    generalize lowN wd hi g c = u at *
    unfold ui
    split
    · omega
    · split <;> omega) hg
theorem HI.raise (hd : dims n wd hi) {t : Int} {h : Int → Int} (hh : HI n wd hi sl t h) {c : Int} (h0 : 0 ≤ c) (h1 : c < (n : Int)) (ht : t + 1 ≤ 60100) : HI n wd hi sl (t + 1) (stl n wd hi sl (ui h c (h c + 1))) := by
  have hp := hh.2.1 c h0 h1
  refine HI.after hd (fun d d0 d1 => ?_) ?_ hh.2.2.2.1 hh.2.2.2.2.1 (by have := hh.2.2.2.2.2.1; omega) ht
  · have := hh.2.1 d d0 d1
    unfold ui; split <;> omega
  · rw [su_ui n h0 h1]
    have := hh.2.2.1
    omega
theorem HI.lower (hd : dims n wd hi) {t : Int} {h : Int → Int} (hh : HI n wd hi sl t h) {c v : Int} (h0 : 0 ≤ c) (h1 : c < (n : Int)) (v0 : 0 ≤ v) (v1 : v ≤ h c) : HI n wd hi sl t (stl n wd hi sl (ui h c v)) ∧ su n (stl n wd hi sl (ui h c v)) = su n h - h c + v := by
  refine ⟨HI.after hd (fun d d0 d1 => ?_) ?_ hh.2.2.2.1 hh.2.2.2.2.1 hh.2.2.2.2.2.1 hh.2.2.2.2.2.2, ?_⟩
  · have := hh.2.1 d d0 d1
    unfold ui; split <;> omega
  · rw [su_ui n h0 h1]
    have := hh.2.2.1
    omega
  · rw [stl_su hd hh.2.2.2.1, su_ui n h0 h1]
theorem HI.pile (hd : dims n wd hi) {t : Int} {h : Int → Int} (hh : HI n wd hi sl t h) {c v : Int} (h0 : 0 ≤ c) (h1 : c < (n : Int)) (v0 : 0 ≤ v) (v1 : v ≤ 999) : HI n wd hi sl t (stl n wd hi sl (ui h c v)) := by
  refine HI.after hd (fun d d0 d1 => ?_) ?_ hh.2.2.2.1 hh.2.2.2.2.1 hh.2.2.2.2.2.1 hh.2.2.2.2.2.2
  · have := hh.2.1 d d0 d1
    unfold ui; split <;> omega
  · rcases Int.lt_or_le (h c) v with q | q
    · have a := su_le n (f := ui h c v) (g := fun _ => 1430) (fun d d0 d1 => by
        have p1 := settled_near hd hh.1 hh.2.2.2.2.1 d0 d1
        have p2 := settled_near hd hh.1 hh.2.2.2.2.1 h0 h1
        show ui h c v d ≤ 1430
        unfold ui; split <;> omega)
      rw [su_const] at a
      have := hh.2.2.2.2.2.1
      omega
    · rw [su_ui n h0 h1]
      have := hh.2.2.1
      omega
theorem HI.more {t t2 : Int} {h : Int → Int} (hh : HI n wd hi sl t h) (h1 : t ≤ t2) (h2 : t2 ≤ 60100) : HI n wd hi sl t2 h := ⟨hh.1, hh.2.1, by have := hh.2.2.1; omega, hh.2.2.2.1, hh.2.2.2.2.1, by have := hh.2.2.2.2.2.1; omega, h2⟩
theorem HI.slope (hd : dims n wd hi) {t s2 : Int} {h : Int → Int} (hh : HI n wd hi sl t h) (hs : 1 ≤ s2) (h9 : s2 ≤ 9) : HI n wd hi s2 t (stl n wd hi s2 h) := HI.after hd hh.2.1 hh.2.2.1 hs h9 hh.2.2.2.2.2.1 hh.2.2.2.2.2.2
/-- a storm: each heap some lower, by 999 at most -/
theorem HI.cut (hd : dims n wd hi) {t : Int} {h g : Int → Int} (hh : HI n wd hi sl t h) (hg : ∀ c : Int, 0 ≤ c → c < (n : Int) → 0 ≤ g c ∧ g c ≤ h c ∧ h c - 999 ≤ g c) : PS n g ∧ HI n wd hi sl t (stl n wd hi sl g) := by
  refine ⟨⟨fun d d0 d1 => ?_, h 0, ?_⟩, HI.after hd (fun d d0 d1 => (hg d d0 d1).1) ?_ hh.2.2.2.1 hh.2.2.2.2.1 hh.2.2.2.2.2.1 hh.2.2.2.2.2.2⟩
  · have := hh.bnd hd d d0 d1
    have := hg d d0 d1
    omega
  · obtain ⟨n1, n2⟩ := dims.n hd
    have a := sq_bound (n := n) (m := h 0) (B := 1215) (by omega) (h := g) (fun c h0 h1 => by
      have p1 := settled_near hd hh.1 hh.2.2.2.2.1 h0 h1
      have p2 := hg c h0 h1
      omega)
    have b : (n : Int) * (1215 * 1215) ≤ 160 * (1215 * 1215) := Int.mul_le_mul_of_nonneg_right n2 (by omega)
    omega
  · have a := su_le n (f := g) (g := h) (fun d d0 d1 => (hg d d0 d1).2.1)
    have := hh.2.2.1
    omega
end HP
end
section
/-! ===== bits ===== -/
theorem q_shrI {a : Int} (h0 : 0 ≤ a) (h1 : a < 2147483648) {s : Int32} (k : Nat) (hs : (s.toBitVec.smod 32).toNat = k) : jI a >>> s = jI (a / 2 ^ k) := by
  obtain ⟨x, rfl⟩ := Int.eq_ofNat_of_zero_le h0
  rw [← j_nat, pk_shrN (by omega) s k hs, j_nat]
  congr 1
theorem q_andI {a : Int} (h0 : 0 ≤ a) (h1 : a < 2147483648) {m : Int32} (k : Nat) (hm : m.toBitVec.toNat = 2 ^ k - 1) : jI a &&& m = jI (a % 2 ^ k) := by
  obtain ⟨x, rfl⟩ := Int.eq_ofNat_of_zero_le h0
  rw [← j_nat, pk_andN (by omega) k hm, j_nat]
  congr 1
theorem q_xorI (a b : Nat) : nI a ^^^ nI b = nI (a ^^^ b) := by
  apply Int32.toBitVec_inj.1
  show BitVec.ofNat 32 a ^^^ BitVec.ofNat 32 b = BitVec.ofNat 32 (a ^^^ b)
  apply BitVec.eq_of_getLsbD_eq
  intro i hi
  simp [hi]
theorem q_orI (a b : Nat) : nI a ||| nI b = nI (a ||| b) := by
  apply Int32.toBitVec_inj.1
  show BitVec.ofNat 32 a ||| BitVec.ofNat 32 b = BitVec.ofNat 32 (a ||| b)
  apply BitVec.eq_of_getLsbD_eq
  intro i hi
  simp [hi]
theorem q_andL (a b : Nat) : lN a &&& lN b = lN (a &&& b) := by
  apply Int64.toBitVec_inj.1
  show BitVec.ofNat 64 a &&& BitVec.ofNat 64 b = BitVec.ofNat 64 (a &&& b)
  apply BitVec.eq_of_getLsbD_eq
  intro i hi
  simp [hi]
theorem q_orL (a b : Nat) : lN a ||| lN b = lN (a ||| b) := by
  apply Int64.toBitVec_inj.1
  show BitVec.ofNat 64 a ||| BitVec.ofNat 64 b = BitVec.ofNat 64 (a ||| b)
  apply BitVec.eq_of_getLsbD_eq
  intro i hi
  simp [hi]
theorem q_xorL (a b : Nat) : lN a ^^^ lN b = lN (a ^^^ b) := by
  apply Int64.toBitVec_inj.1
  show BitVec.ofNat 64 a ^^^ BitVec.ofNat 64 b = BitVec.ofNat 64 (a ^^^ b)
  apply BitVec.eq_of_getLsbD_eq
  intro i hi
  simp [hi]
theorem q_cnt : ∀ k, k < 64 → ((nI k).toInt64 &&& 63) = lN k := by decide +kernel
theorem q_sm : ∀ k, k < 64 → (BitVec.ofNat 64 k).smod 64 = BitVec.ofNat 64 k := by decide +kernel
theorem q_shlL (n : Nat) {k : Nat} (hk : k < 64) : lN n <<< ((nI k).toInt64 &&& 63) = lN (n * 2 ^ k) := by
  rw [q_cnt k hk]
  apply Int64.toBitVec_inj.1
  rw [Int64.toBitVec_shiftLeft]
  show BitVec.ofNat 64 n <<< ((BitVec.ofNat 64 k).smod 64) = BitVec.ofNat 64 (n * 2 ^ k)
  rw [q_sm k hk]
  apply BitVec.eq_of_toNat_eq
  rw [BitVec.shiftLeft_eq', BitVec.toNat_shiftLeft, BitVec.toNat_ofNat, BitVec.toNat_ofNat, BitVec.toNat_ofNat, Nat.mod_eq_of_lt (show k < 2 ^ 64 by omega), Nat.shiftLeft_eq, Nat.mul_mod, Nat.mod_mod, ← Nat.mul_mod]
theorem q_negL {n : Nat} (h : n < 2 ^ 64) (h0 : 0 < n) : -lN n = lN (2 ^ 64 - n) := by
  apply Int64.toBitVec_inj.1
  show -(BitVec.ofNat 64 n) = BitVec.ofNat 64 (2 ^ 64 - n)
  apply BitVec.eq_of_toNat_eq
  rw [BitVec.toNat_neg, BitVec.toNat_ofNat, BitVec.toNat_ofNat, Nat.mod_eq_of_lt h]
theorem q_0L {n : Nat} (h : n < 2 ^ 64) : lN n = 0 ↔ n = 0 := by
  constructor
  · intro e
    have e2 : (lN n).toBitVec.toNat = (0 : Int64).toBitVec.toNat := by rw [e]
    have e3 : (BitVec.ofNat 64 n).toNat = 0 := e2
    rw [BitVec.toNat_ofNat, Nat.mod_eq_of_lt h] at e3
    exact e3
  · rintro rfl; rfl
theorem q_low {x : Nat} (h : 0 < x) : ∃ k m : Nat, x = 2 ^ k * (2 * m + 1) := by
  induction x using Nat.strongRecOn with
  | _ x ih =>
    rcases Nat.mod_two_eq_zero_or_one x with q | q
    · obtain ⟨k, m, e⟩ := ih (x / 2) (by omega) (by omega)
      refine ⟨k + 1, m, ?_⟩
      rw [Nat.pow_succ, Nat.mul_comm (2 ^ k) 2, Nat.mul_assoc, ← e]; omega
    · exact ⟨0, x / 2, by omega⟩
/-- the lowest bit by itself -/
theorem q_and_neg {x : Nat} (h0 : 0 < x) (h : x < 2 ^ 64) : ∃ k : Nat, k < 64 ∧ x.testBit k = true ∧ (∀ j, j < k → x.testBit j = false) ∧ x &&& (2 ^ 64 - x) = 2 ^ k := by
  obtain ⟨k, m, e⟩ := q_low h0
  have hk : k < 64 := by
    rcases Nat.lt_or_ge k 64 with q | q
    · exact q
    · have : 2 ^ 64 ≤ 2 ^ k := Nat.pow_le_pow_right (by decide) q
      have : 2 ^ k * 1 ≤ 2 ^ k * (2 * m + 1) := Nat.mul_le_mul_left _ (by omega)
      omega
  have hp : 0 < 2 ^ k := Nat.two_pow_pos k
  have t1 : ∀ j, x.testBit j = (decide (k ≤ j) && (2 * m + 1).testBit (j - k)) := by
    intro j
    rw [e, Nat.testBit_two_pow_mul]
  have e2 : x - 1 = 2 ^ k * (2 * m) + (2 ^ k - 1) := by
    rw [e, Nat.mul_add]; omega
  have t2 : ∀ j, (x - 1).testBit j = if j < k then (2 ^ k - 1).testBit j else (2 * m).testBit (j - k) := by
    intro j
    rw [e2, Nat.testBit_two_pow_mul_add _ (by omega)]
  have t3 : ∀ j, (2 ^ 64 - x).testBit j = (decide (j < 64) && !(x - 1).testBit j) := by
    intro j
    rw [show 2 ^ 64 - x = 2 ^ 64 - ((x - 1) + 1) by omega]
    exact Nat.testBit_two_pow_sub_succ (by omega) j
  have tk : x.testBit k = true := by
    rw [t1, Nat.sub_self]; simp
  have tj : ∀ j, j < k → x.testBit j = false := by
    intro j hj
    rw [t1]; simp; omega
  refine ⟨k, hk, tk, tj, ?_⟩
  apply Nat.eq_of_testBit_eq
  intro j
  rw [Nat.testBit_and, t3, t2, Nat.testBit_two_pow]
  rcases Nat.lt_trichotomy j k with q | q | q
  · rw [tj j q]; simp; omega
  · subst q
    rw [tk, if_neg (Nat.lt_irrefl _), Nat.sub_self]; simp [hk]
  · rw [t1, if_neg (by omega)]
    obtain ⟨i, rfl⟩ : ∃ i, j = k + (i + 1) := ⟨j - k - 1, by omega⟩
    rw [show k + (i + 1) - k = i + 1 by omega, Nat.testBit_succ, Nat.testBit_succ, show (2 * m + 1) / 2 = m by omega, show 2 * m / 2 = m by omega]
    have : ¬ k = k + (i + 1) := by omega
    simp [this]
    exact fun h _ => h
/-- three longs as a set of cells -/
def DB (f : Int → Int) (B : Int → Bool) : Prop := ∀ i : Nat, i < 3 → ∃ N : Nat, N < 2 ^ 64 ∧ f (i : Int) = (N : Int) ∧ ∀ j : Nat, j < 64 → N.testBit j = B ((64 * i + j : Nat) : Int)
def bset (B : Int → Bool) (c : Int) (v : Bool) : Int → Bool := fun d => if d = c then v else B d
theorem DB.ins {f : Int → Int} {B : Int → Bool} (h : DB f B) {i j N : Nat} (hi : i < 3) (hj : j < 64) (hN : N < 2 ^ 64) (hf : f (i : Int) = (N : Int)) (hb : ∀ k : Nat, k < 64 → N.testBit k = B ((64 * i + k : Nat) : Int)) : DB (ui f (i : Int) ((N ||| 2 ^ j : Nat) : Int)) (bset B ((64 * i + j : Nat) : Int) true) := by
  intro a ha
  by_cases e : a = i
  · subst e
    refine ⟨N ||| 2 ^ j, Nat.or_lt_two_pow hN (Nat.pow_lt_pow_right (by decide) hj), ui_s _ _ _, fun k hk => ?_⟩
    rw [Nat.testBit_or, Nat.testBit_two_pow, hb k hk]
    unfold bset
    by_cases q : k = j
    · subst q; simp
    · rw [if_neg (by omega)]; simp; omega
  · obtain ⟨M, h1, h2, h3⟩ := h a ha
    refine ⟨M, h1, by rw [ui_n (by omega)]; exact h2, fun k hk => ?_⟩
    unfold bset
    rw [if_neg (by omega)]; exact h3 k hk
theorem DB.del {f : Int → Int} {B : Int → Bool} (h : DB f B) {i j N : Nat} (hi : i < 3) (hj : j < 64) (hN : N < 2 ^ 64) (hf : f (i : Int) = (N : Int)) (hb : ∀ k : Nat, k < 64 → N.testBit k = B ((64 * i + k : Nat) : Int)) : DB (ui f (i : Int) ((N &&& (2 ^ j ^^^ (2 ^ 64 - 1)) : Nat) : Int)) (bset B ((64 * i + j : Nat) : Int) false) := by
  intro a ha
  by_cases e : a = i
  · subst e
    refine ⟨N &&& (2 ^ j ^^^ (2 ^ 64 - 1)), Nat.lt_of_le_of_lt Nat.and_le_left hN, ui_s _ _ _, fun k hk => ?_⟩
    rw [Nat.testBit_and, Nat.testBit_xor, Nat.testBit_two_pow, Nat.testBit_two_pow_sub_one, hb k hk]
    unfold bset
    by_cases q : k = j
    · subst q; simp [hk]
    · rw [if_neg (by omega)]
      have : ¬ j = k := fun z => q z.symm
      simp [hk, this]
  · obtain ⟨M, h1, h2, h3⟩ := h a ha
    refine ⟨M, h1, by rw [ui_n (by omega)]; exact h2, fun k hk => ?_⟩
    unfold bset
    rw [if_neg (by omega)]; exact h3 k hk
theorem DB.zero {f : Int → Int} (hf : ∀ i : Int, 0 ≤ i → i < 3 → f i = 0) : DB f (fun _ => false) := fun i hi => ⟨0, by decide, by rw [hf _ (by omega) (by omega)]; rfl, fun j _ => by simp⟩
theorem DB.none {f : Int → Int} {B : Int → Bool} (h : DB f B) (hb : ∀ d : Int, 0 ≤ d → d < 192 → B d = false) {i : Int} (h0 : 0 ≤ i) (h1 : i < 3) : f i = 0 := by
  obtain ⟨a, rfl⟩ := Int.eq_ofNat_of_zero_le h0
  obtain ⟨N, h1', h2, h3⟩ := h a (by omega)
  rw [h2]
  have : N = 0 := by
    apply Nat.eq_of_testBit_eq
    intro k
    rw [Nat.zero_testBit]
    rcases Nat.lt_or_ge k 64 with q | q
    · rw [h3 k q]; exact hb _ (by omega) (by omega)
    · exact Nat.testBit_lt_two_pow (Nat.lt_of_lt_of_le h1' (Nat.pow_le_pow_right (by decide) q))
  rw [this]; rfl
section XB
variable {p : Program} {l : Launch} {e : Env} {R : Room} {s : State} {m : MethodId} {args : Array Value} {below : List Frame} {meth : Method} {c : Code} {H : Heap} {locs : List Loc} {cells slots : Nat} {Q : State → Prop} {pc : Nat} {ls : Array Slot} {rest : List Value}
theorem x_rawi {x : Int32} (z : Int) (h : x = jI z) (k : W p l e R s m args below meth c H locs cells slots Q (F0 m pc ls (.int (jI z) :: rest))) : W p l e R s m args below meth c H locs cells slots Q (F0 m pc ls (.int x :: rest)) := by subst h; exact k
theorem x_rawl {x : Int64} (z : Int) (h : x = lI z) (k : W p l e R s m args below meth c H locs cells slots Q (F0 m pc ls (.long (lI z) :: rest))) : W p l e R s m args below meth c H locs cells slots Q (F0 m pc ls (.long x :: rest)) := by subst h; exact k
theorem x_rawL {x : Int64} (y : Int64) (h : x = y) (k : W p l e R s m args below meth c H locs cells slots Q (F0 m pc ls (.long y :: rest))) : W p l e R s m args below meth c H locs cells slots Q (F0 m pc ls (.long x :: rest)) := by subst h; exact k
end XB
end
section
theorem DB.at {f : Int → Int} {B : Int → Bool} (h : DB f B) {i : Int} (h0 : 0 ≤ i) (h1 : i < 3) : ∃ N : Nat, N < 2 ^ 64 ∧ f i = (N : Int) ∧ ∀ j : Nat, j < 64 → N.testBit j = B (64 * i + (j : Int)) := by
  obtain ⟨a, rfl⟩ := Int.eq_ofNat_of_zero_le h0
  obtain ⟨N, q1, q2, q3⟩ := h a (by omega)
  refine ⟨N, q1, q2, fun j hj => ?_⟩
  rw [q3 j hj]; congr 1
theorem q_cmp0 {N : Nat} (h : N < 2 ^ 64) : (lg_cmp (lI (N : Int)) (lN 0)).toInt = 0 ↔ N = 0 := by
  have e : (lg_cmp (lI (N : Int)) (lN 0)).toInt = 0 ↔ lI (N : Int) = lN 0 := by
    unfold lg_cmp
    split
    · rename_i q
      constructor
      · intro z; exact absurd z (by decide)
      · intro z; rw [z] at q; exact absurd q (by decide)
    · split
      · rename_i q; exact ⟨fun _ => q, fun _ => by decide⟩
      · rename_i q
        constructor
        · intro z; exact absurd z (by decide)
        · intro z; exact absurd z q
  rw [e, ← l_nat]
  exact q_0L h
def bc1 (x : Int64) : Int64 := x - ((x.toUInt64 >>> ((jI 1).toInt64.toUInt64 &&& Int64.toUInt64 63)).toInt64 &&& (6148914691236517205))
def bc2 (x : Int64) : Int64 := (x &&& (3689348814741910323)) + ((x.toUInt64 >>> ((jI 2).toInt64.toUInt64 &&& Int64.toUInt64 63)).toInt64 &&& (3689348814741910323))
def bc3 (x : Int64) : Int64 := (x + (x.toUInt64 >>> ((jI 4).toInt64.toUInt64 &&& Int64.toUInt64 63)).toInt64) &&& (1085102592571150095)
def bc4 (y : Int) (x : Int64) : Int64 := x + (x.toUInt64 >>> ((jI y).toInt64.toUInt64 &&& Int64.toUInt64 63)).toInt64
theorem q_bc : ∀ k : Nat, k < 64 → ((bc4 32 (bc4 16 (bc4 8 (bc3 (bc2 (bc1 (lN (2 ^ k - 1)))))))).toInt32 &&& (jI 127)) = jI (k : Int) := by decide +kernel

set_option maxHeartbeats 4000000 in
set_option maxRecDepth 100000 in
theorem c_bitCount (l : Launch) {X : We} (V : Mem) (k : Nat) (hk : k < 64) : Mt l X V yJ13_bitCount_95d88 cJ13_bitCount_95d88 2 (some .int) 0 0 [.long (lN (2 ^ k - 1))] (Qi X (fun z V1 => z = (k : Int) ∧ V1 = V)) := by
  refine Mt.go (by decide) (Nat.le_of_ble_eq_true rfl) ?_
  intro pg ev s0 mi bl mt cd ls Rm ag Qq hR hQ E hI hG hS hl
  have hl : lv_has ls 2 [(0, .long (lN (2 ^ k - 1)))] := hl
  refine x_lload_n E dJ13_bitCount_95d88_0 (lv_at hl 0 rfl) ?_
  refine x_lload_n E dJ13_bitCount_95d88_1 (lv_at hl 0 rfl) ?_
  refine x_iconst E dJ13_bitCount_95d88_2 ?_
  refine lv_lushr E.1 E.2.1 dJ13_bitCount_95d88_3 rfl ?_
  refine lv_ldc2 E.1 E.2.1 E.2.2.2.1 (E.2.2.2.2.1 _ kk_J13_314) dJ13_bitCount_95d88_4 ?_
  refine lv_land E.1 E.2.1 dJ13_bitCount_95d88_7 ?_
  refine lv_lsub E.1 E.2.1 dJ13_bitCount_95d88_8 ?_
  refine x_rawL ((bc1 (lN (2 ^ k - 1)))) (rfl) ?_
  refine x_lstore_n E [(0, .long (bc1 (lN (2 ^ k - 1))))] dJ13_bitCount_95d88_9 hl (by decide) rfl (fun ls hl => ?_)
  refine x_lload_n E dJ13_bitCount_95d88_10 (lv_at hl 0 rfl) ?_
  refine lv_ldc2 E.1 E.2.1 E.2.2.2.1 (E.2.2.2.2.1 _ kk_J13_316) dJ13_bitCount_95d88_11 ?_
  refine lv_land E.1 E.2.1 dJ13_bitCount_95d88_14 ?_
  refine x_lload_n E dJ13_bitCount_95d88_15 (lv_at hl 0 rfl) ?_
  refine x_iconst E dJ13_bitCount_95d88_16 ?_
  refine lv_lushr E.1 E.2.1 dJ13_bitCount_95d88_17 rfl ?_
  refine lv_ldc2 E.1 E.2.1 E.2.2.2.1 (E.2.2.2.2.1 _ kk_J13_316) dJ13_bitCount_95d88_18 ?_
  refine lv_land E.1 E.2.1 dJ13_bitCount_95d88_21 ?_
  refine lv_ladd E.1 E.2.1 dJ13_bitCount_95d88_22 ?_
  refine x_rawL ((bc2 (bc1 (lN (2 ^ k - 1))))) (rfl) ?_
  refine x_lstore_n E [(0, .long (bc2 (bc1 (lN (2 ^ k - 1)))))] dJ13_bitCount_95d88_23 hl (by decide) rfl (fun ls hl => ?_)
  refine x_lload_n E dJ13_bitCount_95d88_24 (lv_at hl 0 rfl) ?_
  refine x_lload_n E dJ13_bitCount_95d88_25 (lv_at hl 0 rfl) ?_
  refine x_iconst E dJ13_bitCount_95d88_26 ?_
  refine lv_lushr E.1 E.2.1 dJ13_bitCount_95d88_27 rfl ?_
  refine lv_ladd E.1 E.2.1 dJ13_bitCount_95d88_28 ?_
  refine lv_ldc2 E.1 E.2.1 E.2.2.2.1 (E.2.2.2.2.1 _ kk_J13_318) dJ13_bitCount_95d88_29 ?_
  refine lv_land E.1 E.2.1 dJ13_bitCount_95d88_32 ?_
  refine x_rawL ((bc3 (bc2 (bc1 (lN (2 ^ k - 1)))))) (rfl) ?_
  refine x_lstore_n E [(0, .long (bc3 (bc2 (bc1 (lN (2 ^ k - 1))))))] dJ13_bitCount_95d88_33 hl (by decide) rfl (fun ls hl => ?_)
  refine x_lload_n E dJ13_bitCount_95d88_34 (lv_at hl 0 rfl) ?_
  refine x_lload_n E dJ13_bitCount_95d88_35 (lv_at hl 0 rfl) ?_
  refine x_bipush E dJ13_bitCount_95d88_36 (by decide) ?_
  refine lv_lushr E.1 E.2.1 dJ13_bitCount_95d88_38 rfl ?_
  refine lv_ladd E.1 E.2.1 dJ13_bitCount_95d88_39 ?_
  refine x_rawL ((bc4 8 (bc3 (bc2 (bc1 (lN (2 ^ k - 1))))))) (rfl) ?_
  refine x_lstore_n E [(0, .long (bc4 8 (bc3 (bc2 (bc1 (lN (2 ^ k - 1)))))))] dJ13_bitCount_95d88_40 hl (by decide) rfl (fun ls hl => ?_)
  refine x_lload_n E dJ13_bitCount_95d88_41 (lv_at hl 0 rfl) ?_
  refine x_lload_n E dJ13_bitCount_95d88_42 (lv_at hl 0 rfl) ?_
  refine x_bipush E dJ13_bitCount_95d88_43 (by decide) ?_
  refine lv_lushr E.1 E.2.1 dJ13_bitCount_95d88_45 rfl ?_
  refine lv_ladd E.1 E.2.1 dJ13_bitCount_95d88_46 ?_
  refine x_rawL ((bc4 16 (bc4 8 (bc3 (bc2 (bc1 (lN (2 ^ k - 1)))))))) (rfl) ?_
  refine x_lstore_n E [(0, .long (bc4 16 (bc4 8 (bc3 (bc2 (bc1 (lN (2 ^ k - 1))))))))] dJ13_bitCount_95d88_47 hl (by decide) rfl (fun ls hl => ?_)
  refine x_lload_n E dJ13_bitCount_95d88_48 (lv_at hl 0 rfl) ?_
  refine x_lload_n E dJ13_bitCount_95d88_49 (lv_at hl 0 rfl) ?_
  refine x_bipush E dJ13_bitCount_95d88_50 (by decide) ?_
  refine lv_lushr E.1 E.2.1 dJ13_bitCount_95d88_52 rfl ?_
  refine lv_ladd E.1 E.2.1 dJ13_bitCount_95d88_53 ?_
  refine x_rawL ((bc4 32 (bc4 16 (bc4 8 (bc3 (bc2 (bc1 (lN (2 ^ k - 1))))))))) (rfl) ?_
  refine x_lstore_n E [(0, .long (bc4 32 (bc4 16 (bc4 8 (bc3 (bc2 (bc1 (lN (2 ^ k - 1)))))))))] dJ13_bitCount_95d88_54 hl (by decide) rfl (fun ls hl => ?_)
  refine x_lload_n E dJ13_bitCount_95d88_55 (lv_at hl 0 rfl) ?_
  refine lv_l2i E.1 E.2.1 dJ13_bitCount_95d88_56 rfl ?_
  refine x_bipush E dJ13_bitCount_95d88_57 (by decide) ?_
  refine lv_iand E.1 E.2.1 dJ13_bitCount_95d88_59 ?_
  refine x_rawi ((k : Int)) (q_bc k hk) ?_
  exact r_i E hQ hG hS dJ13_bitCount_95d88_60 (⟨rfl, rfl⟩)

set_option maxHeartbeats 4000000 in
set_option maxRecDepth 100000 in
theorem c_X0_add (l : Launch) {X : We} {n b : Nat} (hX : isX X n) (hb : isD b) (V : Mem) {B : Int → Bool} (hB : DB (V (b + 9)) B) (c : Int) (hc : 0 ≤ c ∧ c < 192) : Mt l X V yX0_add cX0_add 3 none 0 0 [.ref (wa X (b + 8)), .int (jI c)] (Qv X (fun V1 => ∃ f, V1 = sp V (b + 9) f ∧ DB f (bset B c true))) := by
  refine Mt.go (by decide) (Nat.le_of_ble_eq_true rfl) ?_
  intro pg ev s0 mi bl mt cd ls Rm ag Qq hR hQ E hI hG hS hl
  have hl : lv_has ls 3 [(0, .ref (wa X (b + 8))), (1, .int (jI c))] := hl
  obtain ⟨i, j, hi, hj, hc2⟩ : ∃ i j : Nat, i < 3 ∧ j < 64 ∧ c = 64 * (i : Int) + (j : Int) := ⟨(c / 64).toNat, (c % 64).toNat, by omega, by omega, by omega⟩
  obtain ⟨N, hN, hf, hbt⟩ := hB i hi
  have hc3 : c = ((64 * i + j : Nat) : Int) := by omega
  refine x_iload_n E dX0_add_0 (lv_at hl 1 rfl) ?_
  refine x_bipush E dX0_add_1 (by decide) ?_
  refine lv_ishr E.1 E.2.1 dX0_add_3 ?_
  refine x_rawi ((i : Int)) ((q_shrI (by omega) (by omega) 6 (by decide)).trans (congrArg jI (by omega))) ?_
  refine x_istore_n E [(2, .int (jI (i : Int))), (0, .ref (wa X (b + 8))), (1, .int (jI c))] dX0_add_4 hl (by decide) rfl (fun ls hl => ?_)
  refine x_iload_n E dX0_add_5 (lv_at hl 0 rfl) ?_
  refine x_if_lt E 33 dX0_add_6 (by decide) (by unfold rg; omega) (fun c6 => ?_) (fun c6 => ?_)
  · omega
  · refine x_iload_n E dX0_add_9 (lv_at hl 0 rfl) ?_
    refine x_aload_n E dX0_add_10 (lv_at hl 1 rfl) ?_
    refine x_getr E hI hG (xd8 hX hb) cf0 0 (b + 9) rfl (by decide) kf_X0_9 dX0_add_11 ?_
    refine x_alenL E hI hG (xd9 hX hb) dX0_add_14 ?_
    refine x_icmp_ge E 33 dX0_add_15 (by decide) (by unfold rg; omega) (by unfold rg; omega) (fun c15 => ?_) (fun c15 => ?_)
    · omega
    · refine x_aload_n E dX0_add_18 (lv_at hl 1 rfl) ?_
      refine x_getr E hI hG (xd8 hX hb) cf0 0 (b + 9) rfl (by decide) kf_X0_9 dX0_add_19 ?_
      refine x_iload_n E dX0_add_22 (lv_at hl 0 rfl) ?_
      refine x_dup2 E dX0_add_23 rfl rfl ?_
      refine x_lald E hI hG (xd9 hX hb) ((N : Int)) hf (by omega) dX0_add_24 ?_
      refine lv_lconst (v := lN 1) E.1 E.2.1 dX0_add_25 rfl ?_
      refine x_iload_n E dX0_add_26 (lv_at hl 2 rfl) ?_
      refine x_bipush E dX0_add_27 (by decide) ?_
      refine lv_iand E.1 E.2.1 dX0_add_29 ?_
      refine x_rawi ((j : Int)) ((q_andI (by omega) (by omega) 6 (by decide)).trans (congrArg jI (by omega))) ?_
      refine lv_lshl E.1 E.2.1 dX0_add_30 rfl ?_
      refine x_rawL (lN (2 ^ j)) (by rw [← j_nat, q_shlL 1 hj, Nat.one_mul]) ?_
      refine lv_lor E.1 E.2.1 dX0_add_31 ?_
      refine x_rawl (((N ||| 2 ^ j : Nat) : Int)) (by rw [← l_nat, q_orL, l_nat]) ?_
      refine x_last E hI hG hS (xd9 hX hb) (by omega) dX0_add_32 (fun H locs hG hS => ?_)
      exact r_v E hQ hG hS dX0_add_33 (⟨_, st_sp _ _ _ _, by rw [hc3]; exact DB.ins hB hi hj hN hf hbt⟩)

set_option maxHeartbeats 4000000 in
set_option maxRecDepth 100000 in
theorem c_X0_remove (l : Launch) {X : We} {n b : Nat} (hX : isX X n) (hb : isD b) (V : Mem) {B : Int → Bool} (hB : DB (V (b + 9)) B) (c : Int) (hc : 0 ≤ c ∧ c < 192) : Mt l X V yX0_remove cX0_remove 3 none 0 0 [.ref (wa X (b + 8)), .int (jI c)] (Qv X (fun V1 => ∃ f, V1 = sp V (b + 9) f ∧ DB f (bset B c false))) := by
  refine Mt.go (by decide) (Nat.le_of_ble_eq_true rfl) ?_
  intro pg ev s0 mi bl mt cd ls Rm ag Qq hR hQ E hI hG hS hl
  have hl : lv_has ls 3 [(0, .ref (wa X (b + 8))), (1, .int (jI c))] := hl
  obtain ⟨i, j, hi, hj, hc2⟩ : ∃ i j : Nat, i < 3 ∧ j < 64 ∧ c = 64 * (i : Int) + (j : Int) := ⟨(c / 64).toNat, (c % 64).toNat, by omega, by omega, by omega⟩
  obtain ⟨N, hN, hf, hbt⟩ := hB i hi
  have hc3 : c = ((64 * i + j : Nat) : Int) := by omega
  refine x_iload_n E dX0_remove_0 (lv_at hl 1 rfl) ?_
  refine x_bipush E dX0_remove_1 (by decide) ?_
  refine lv_ishr E.1 E.2.1 dX0_remove_3 ?_
  refine x_rawi ((i : Int)) ((q_shrI (by omega) (by omega) 6 (by decide)).trans (congrArg jI (by omega))) ?_
  refine x_istore_n E [(2, .int (jI (i : Int))), (0, .ref (wa X (b + 8))), (1, .int (jI c))] dX0_remove_4 hl (by decide) rfl (fun ls hl => ?_)
  refine x_iload_n E dX0_remove_5 (lv_at hl 0 rfl) ?_
  refine x_if_lt E 37 dX0_remove_6 (by decide) (by unfold rg; omega) (fun c6 => ?_) (fun c6 => ?_)
  · omega
  · refine x_iload_n E dX0_remove_9 (lv_at hl 0 rfl) ?_
    refine x_aload_n E dX0_remove_10 (lv_at hl 1 rfl) ?_
    refine x_getr E hI hG (xd8 hX hb) cf0 0 (b + 9) rfl (by decide) kf_X0_9 dX0_remove_11 ?_
    refine x_alenL E hI hG (xd9 hX hb) dX0_remove_14 ?_
    refine x_icmp_ge E 37 dX0_remove_15 (by decide) (by unfold rg; omega) (by unfold rg; omega) (fun c15 => ?_) (fun c15 => ?_)
    · omega
    · refine x_aload_n E dX0_remove_18 (lv_at hl 1 rfl) ?_
      refine x_getr E hI hG (xd8 hX hb) cf0 0 (b + 9) rfl (by decide) kf_X0_9 dX0_remove_19 ?_
      refine x_iload_n E dX0_remove_22 (lv_at hl 0 rfl) ?_
      refine x_dup2 E dX0_remove_23 rfl rfl ?_
      refine x_lald E hI hG (xd9 hX hb) ((N : Int)) hf (by omega) dX0_remove_24 ?_
      refine lv_lconst (v := lN 1) E.1 E.2.1 dX0_remove_25 rfl ?_
      refine x_iload_n E dX0_remove_26 (lv_at hl 2 rfl) ?_
      refine x_bipush E dX0_remove_27 (by decide) ?_
      refine lv_iand E.1 E.2.1 dX0_remove_29 ?_
      refine x_rawi ((j : Int)) ((q_andI (by omega) (by omega) 6 (by decide)).trans (congrArg jI (by omega))) ?_
      refine lv_lshl E.1 E.2.1 dX0_remove_30 rfl ?_
      refine x_rawL (lN (2 ^ j)) (by rw [← j_nat, q_shlL 1 hj, Nat.one_mul]) ?_
      refine lv_ldc2 E.1 E.2.1 E.2.2.2.1 (E.2.2.2.2.1 _ kk_X0_15) dX0_remove_31 ?_
      refine lv_lxor E.1 E.2.1 dX0_remove_34 ?_
      refine lv_land E.1 E.2.1 dX0_remove_35 ?_
      refine x_rawl (((N &&& (2 ^ j ^^^ (2 ^ 64 - 1)) : Nat) : Int)) (by rw [← l_nat, show ((-1 : Int64)) = lN (2 ^ 64 - 1) by decide, q_xorL, q_andL, l_nat]) ?_
      refine x_last E hI hG hS (xd9 hX hb) (by omega) dX0_remove_36 (fun H locs hG hS => ?_)
      exact r_v E hQ hG hS dX0_remove_37 (⟨_, st_sp _ _ _ _, by rw [hc3]; exact DB.del hB hi hj hN hf hbt⟩)

set_option maxHeartbeats 4000000 in
set_option maxRecDepth 100000 in
theorem c_X0_lowest (l : Launch) {X : We} {n b : Nat} (hX : isX X n) (hb : isD b) (V : Mem) {B : Int → Bool} (hB : DB (V (b + 9)) B) : Mt l X V yX0_lowest cX0_lowest 4 (some .int) 1 21 [.ref (wa X (b + 8))] (Qi X (fun z V1 => V1 = V ∧ ((z = -1 ∧ ∀ d : Int, 0 ≤ d → d < 192 → B d = false) ∨ (0 ≤ z ∧ z < 192 ∧ B z = true ∧ ∀ d : Int, 0 ≤ d → d < z → B d = false)))) := by
  refine Mt.go (by decide) (Nat.le_of_ble_eq_true rfl) ?_
  intro pg ev s0 mi bl mt cd ls Rm ag Qq hR hQ E hI hG hS hl
  have hl : lv_has ls 4 [(0, .ref (wa X (b + 8)))] := hl
  refine x_iconst E dX0_lowest_0 ?_
  refine x_istore_n E [(1, .int (jI 0)), (0, .ref (wa X (b + 8)))] dX0_lowest_1 hl (by decide) rfl (fun ls hl => ?_)
  have L2_1 : ∀ (N : Nat) (i : Int), (0 ≤ i) → (i ≤ 3) → (∀ d : Int, 0 ≤ d → d < 64 * i → B d = false) → ((3 - i).toNat) < N → ∀ (H : Heap) (locs : List Loc) (ls : Array Slot), GW X V H → va_S (wA X) s0.heap H locs → lv_has ls 4 [(0, .ref (wa X (b + 8))), (1, .int (jI i))] → W pg l ev Rm s0 mi ag bl mt cd H locs 0 0 Qq (F0 mi 2 ls []) := by
    intro N
    induction N with
    | zero => intro i h0 h1 hn hN; exact absurd hN (Nat.not_lt_zero _)
    | succ N ih2 =>
      intro i h0 h1 hn hN H locs ls hG hS hl
      refine x_iload_n E dX0_lowest_2 (lv_at hl 1 rfl) ?_
      refine x_aload_n E dX0_lowest_3 (lv_at hl 0 rfl) ?_
      refine x_getr E hI hG (xd8 hX hb) cf0 0 (b + 9) rfl (by decide) kf_X0_9 dX0_lowest_4 ?_
      refine x_alenL E hI hG (xd9 hX hb) dX0_lowest_7 ?_
      refine x_icmp_ge E 45 dX0_lowest_8 (by decide) (by unfold rg; omega) (by unfold rg; omega) (fun c8 => ?_) (fun c8 => ?_)
      · refine x_iconst E dX0_lowest_45 ?_
        exact r_i E hQ hG hS dX0_lowest_46 (⟨rfl, Or.inl ⟨rfl, fun d d0 d1 => hn d d0 (by omega)⟩⟩)
      · obtain ⟨N, hN, hf, hbt⟩ := hB.at h0 (by omega)
        refine x_aload_n E dX0_lowest_11 (lv_at hl 0 rfl) ?_
        refine x_getr E hI hG (xd8 hX hb) cf0 0 (b + 9) rfl (by decide) kf_X0_9 dX0_lowest_12 ?_
        refine x_iload_n E dX0_lowest_15 (lv_at hl 1 rfl) ?_
        refine x_lald E hI hG (xd9 hX hb) ((N : Int)) hf (by omega) dX0_lowest_16 ?_
        refine x_lstore_n E [(2, .long (lI ((N : Int)))), (0, .ref (wa X (b + 8))), (1, .int (jI i))] dX0_lowest_17 hl (by decide) rfl (fun ls hl => ?_)
        refine x_lload_n E dX0_lowest_18 (lv_at hl 0 rfl) ?_
        refine lv_lconst (v := lN 0) E.1 E.2.1 dX0_lowest_19 rfl ?_
        refine W.lcmp E.1 E.2.1 dX0_lowest_20 ?_
        refine x_rawi ((lg_cmp (lI (N : Int)) (lN 0)).toInt) ((j_of _).symm) ?_
        refine x_if_eq E 39 dX0_lowest_21 (by decide) (j_rg _) (fun c21 => ?_) (fun c21 => ?_)
        · have hz : N = 0 := (q_cmp0 hN).mp c21
          refine x_iinc E (k := 2) [(1, .int (jI (i + 1))), (2, .long (lI ((N : Int)))), (0, .ref (wa X (b + 8)))] dX0_lowest_39 hl rfl (by decide) rfl (fun ls hl => ?_)
          refine x_goto E 2 dX0_lowest_42 (by decide) ?_
          exact ih2 (i + 1) (by omega) (by omega) (fun d d0 d1 => by
                    rcases Int.lt_or_le d (64 * i) with q | q
                    · exact hn d d0 q
                    · have := hbt (d - 64 * i).toNat (by omega)
                      rw [hz, Nat.zero_testBit] at this
                      rw [show d = 64 * i + ((d - 64 * i).toNat : Int) by omega]; exact this.symm) (by omega) _ _ _ hG hS (lv_sub hl [2, 0] rfl)
        · have hz : N ≠ 0 := fun z => c21 ((q_cmp0 hN).mpr z)
          obtain ⟨k, hk, k1, k2, k3⟩ := q_and_neg (Nat.pos_of_ne_zero hz) hN
          refine x_iload_n E dX0_lowest_24 (lv_at hl 2 rfl) ?_
          refine x_bipush E dX0_lowest_25 (by decide) ?_
          refine x_imul E dX0_lowest_27 ?_
          refine x_lload_n E dX0_lowest_28 (lv_at hl 0 rfl) ?_
          refine x_lload_n E dX0_lowest_29 (lv_at hl 0 rfl) ?_
          refine lv_lneg E.1 E.2.1 dX0_lowest_30 ?_
          refine x_rawL (lN (2 ^ 64 - N)) (by rw [← l_nat]; exact q_negL hN (Nat.pos_of_ne_zero hz)) ?_
          refine lv_land E.1 E.2.1 dX0_lowest_31 ?_
          refine x_rawL (lN (2 ^ k)) (by rw [← l_nat, q_andL, k3]) ?_
          refine lv_lconst (v := lN 1) E.1 E.2.1 dX0_lowest_32 rfl ?_
          refine lv_lsub E.1 E.2.1 dX0_lowest_33 ?_
          refine x_rawL (lN (2 ^ k - 1)) (lN_sub (Nat.one_le_two_pow)) ?_
          refine x_ci hG hS (x_runS E hI hG hS (c_bitCount l V k hk) mf_J13_bitCount_95d88 km_X0_17 rfl hl rfl (Nat.le_of_ble_eq_true rfl) (by rw [hR]; exact ⟨Nat.le_of_ble_eq_true rfl, Nat.le_of_ble_eq_true rfl⟩) ⟨Nat.zero_le _, Nat.zero_le _⟩ dX0_lowest_34) (fun z1 V1 H locs hp hG hS => ?_)
          obtain ⟨ez, eV⟩ := hp
          rw [eV] at hG
          rw [ez]
          refine x_iadd E dX0_lowest_37 ?_
          exact r_i E hQ hG hS dX0_lowest_38 (⟨rfl, Or.inr ⟨by omega, by omega, by rw [Int.mul_comm i 64, ← hbt k hk]; exact k1, fun d d0 d1 => by
                    rcases Int.lt_or_le d (64 * i) with q | q
                    · exact hn d d0 q
                    · rw [show d = 64 * i + ((d - 64 * i).toNat : Int) by omega, ← hbt _ (by omega)]; exact k2 _ (by omega)⟩⟩)
  exact L2_1 _ 0 (by omega) (by omega) (fun d d0 d1 => by omega) (Nat.lt_succ_self _) _ _ _ hG hS (lv_sub hl [1, 0] rfl)
end
section
theorem Sh.sp {V : Mem} {n : Nat} {wd hi : Int} (h : Sh V n wd hi) {q : Nat} (hq : 3 ≤ q) (f : Int → Int) : Sh (sp V q f) n wd hi := by
  unfold Sh at *
  rw [sp_n (show 1 ≠ q by omega), sp_n (show 2 ≠ q by omega)]; exact h
theorem Sh.st {V : Mem} {n : Nat} {wd hi : Int} (h : Sh V n wd hi) {q : Nat} (hq : 3 ≤ q) (k v : Int) : Sh (st V q k v) n wd hi := by rw [st_sp]; exact h.sp hq _
theorem isD.ge {b : Nat} (h : isD b) : 3 ≤ b ∧ b ≤ 31 := by unfold isD at h; omega
theorem st_in (V : Mem) {p q : Nat} (h : p ≠ q) (g f : Int → Int) (c v : Int) : st (sp (sp V p g) q f) p c v = sp (sp V p (ui g c v)) q f := by
  rw [st_sp, sp_n h, sp_s, sp_comm _ _ _ (Ne.symm h), sp_sp]
theorem sp_ij (V : Mem) {p q : Nat} (h : p ≠ q) (g f : Int → Int) : sp (sp V p g) q f p = g := by rw [sp_n h, sp_s]
def b2i (q : Bool) : Int := if q then 1 else 0
def cntB (n : Nat) (B : Int → Bool) : Int := su n (fun d => b2i (B d))
theorem cntB_set {n : Nat} {B : Int → Bool} {c : Int} {v : Bool} (h0 : 0 ≤ c) (h1 : c < (n : Int)) : cntB n (bset B c v) = cntB n B - b2i (B c) + b2i v := by
  unfold cntB
  rw [← su_ui n h0 h1]
  apply su_congr
  intro d _ _
  unfold bset ui
  split <;> rfl
theorem b2i_le (q : Bool) : 0 ≤ b2i q ∧ b2i q ≤ 1 := by unfold b2i; split <;> omega
theorem cntB_le (n : Nat) (B : Int → Bool) : 0 ≤ cntB n B ∧ cntB n B ≤ (n : Int) := by
  have a := su_le n (f := fun _ => 0) (g := fun d => b2i (B d)) (fun d _ _ => (b2i_le _).1)
  have b := su_le n (f := fun d => b2i (B d)) (g := fun _ => 1) (fun d _ _ => (b2i_le _).2)
  rw [su_const] at a b
  unfold cntB
  omega
theorem lowK_r {n : Nat} {wd hi c : Int} (hd : dims n wd hi) (h : Int → Int) (h0 : 0 ≤ c) (h1 : c < (n : Int)) (j : Nat) : lowK wd hi h c j = -1 ∨ (0 ≤ lowK wd hi h c j ∧ lowK wd hi h c j < (n : Int)) := by
  rcases lowK_spec wd hi h c j with ⟨a, -⟩ | ⟨a, ⟨i, -, e⟩, -⟩
  · exact Or.inl a
  · exact Or.inr ⟨a, by rw [e]; exact (nb_range hd h0 h1).2⟩
theorem lowK_s {wd hi c w : Int} (h : Int → Int) (h0 : 0 ≤ w) : lowK wd hi h c (w + 1).toNat = lb h (lowK wd hi h c w.toNat) (nb wd hi c w) := by
  rw [show (w + 1).toNat = w.toNat + 1 by omega]
  show lb h _ (nb wd hi c (w.toNat : Int)) = _
  rw [Int.toNat_of_nonneg h0]

set_option maxHeartbeats 4000000 in
set_option maxRecDepth 100000 in
theorem c_X1_lowestBeside (l : Launch) {X : We} {n b : Nat} (hX : isX X n) (hb : isD b) {wd hi : Int} (V : Mem) (hs : Sh V n wd hi) (h : Int → Int) (hV : V (b + 1) = h) (hh : bnd n 0 9500 h) (c : Int) (hc : 0 ≤ c ∧ c < (n : Int)) : Mt l X V yX1_lowestBeside cX1_lowestBeside 5 (some .int) 1 23 [.ref (wa X b), .int (jI c)] (Qi X (fun z V1 => z = lowN wd hi h c ∧ V1 = V)) := by
  refine Mt.go (by decide) (Nat.le_of_ble_eq_true rfl) ?_
  intro pg ev s0 mi bl mt cd ls Rm ag Qq hR hQ E hI hG hS hl
  have hl : lv_has ls 5 [(0, .ref (wa X b)), (1, .int (jI c))] := hl
  have hd := hs.2.2.2.1
  obtain ⟨hn1, hn2⟩ := dims.n hd
  obtain ⟨hb1, hb2⟩ := isD.ge hb
  refine x_iconst E dX1_lowestBeside_0 ?_
  refine x_istore_n E [(2, .int (jI (-1))), (0, .ref (wa X b)), (1, .int (jI c))] dX1_lowestBeside_1 hl (by decide) rfl (fun ls hl => ?_)
  refine x_iconst E dX1_lowestBeside_2 ?_
  refine x_istore_n E [(3, .int (jI 0)), (2, .int (jI (-1))), (0, .ref (wa X b)), (1, .int (jI c))] dX1_lowestBeside_3 hl (by decide) rfl (fun ls hl => ?_)
  have L4_1 : ∀ (N : Nat) (w : Int) (t : Int), (0 ≤ w) → (w ≤ 4) → (t = lowK wd hi h c w.toNat) → ((4 - w).toNat) < N → ∀ (H : Heap) (locs : List Loc) (ls : Array Slot), GW X V H → va_S (wA X) s0.heap H locs → lv_has ls 5 [(0, .ref (wa X b)), (1, .int (jI c)), (2, .int (jI t)), (3, .int (jI w))] → W pg l ev Rm s0 mi ag bl mt cd H locs 0 0 Qq (F0 mi 4 ls []) := by
    intro N
    induction N with
    | zero => intro w t h0 h1 ht hN; exact absurd hN (Nat.not_lt_zero _)
    | succ N ih4 =>
      intro w t h0 h1 ht hN H locs ls hG hS hl
      refine x_iload_n E dX1_lowestBeside_4 (lv_at hl 3 rfl) ?_
      refine x_iconst E dX1_lowestBeside_5 ?_
      refine x_icmp_ge E 56 dX1_lowestBeside_6 (by decide) (by unfold rg; omega) (by unfold rg; omega) (fun c6 => ?_) (fun c6 => ?_)
      · refine x_iload_n E dX1_lowestBeside_56 (lv_at hl 2 rfl) ?_
        exact r_i E hQ hG hS dX1_lowestBeside_57 (⟨by rw [ht, show w.toNat = 4 by omega]; rfl, rfl⟩)
      · have L50_2 : ∀ (u : Int), (u = lowK wd hi h c (w + 1).toNat) → ∀ (H : Heap) (locs : List Loc) (ls : Array Slot), GW X V H → va_S (wA X) s0.heap H locs → lv_has ls 5 [(0, .ref (wa X b)), (1, .int (jI c)), (2, .int (jI u)), (3, .int (jI w))] → W pg l ev Rm s0 mi ag bl mt cd H locs 0 0 Qq (F0 mi 50 ls []) := by
          intro u hu H locs ls hG hS hl
          refine x_iinc E (k := 3) [(3, .int (jI (w + 1))), (0, .ref (wa X b)), (1, .int (jI c)), (2, .int (jI u))] dX1_lowestBeside_50 hl rfl (by decide) rfl (fun ls hl => ?_)
          refine x_goto E 4 dX1_lowestBeside_53 (by decide) ?_
          exact ih4 (w + 1) u (by omega) (by omega) hu (by omega) _ _ _ hG hS (lv_sub hl [1, 2, 3, 0] rfl)
        have hr := nb_range (k := w) hd hc.1 hc.2
        have hr2 : t = -1 ∨ (0 ≤ t ∧ t < (n : Int)) := by rw [ht]; exact lowK_r hd h hc.1 hc.2 _
        refine x_aload_n E dX1_lowestBeside_9 (lv_at hl 0 rfl) ?_
        refine x_getr E hI hG (xd0 hX hb) cf1 0 1 rfl (by decide) kf_X1_36 dX1_lowestBeside_10 ?_
        refine x_iload_n E dX1_lowestBeside_13 (lv_at hl 1 rfl) ?_
        refine x_iload_n E dX1_lowestBeside_14 (lv_at hl 3 rfl) ?_
        refine x_ci hG hS (x_runV E hI hG hS (xs0 hX) cf3 rfl (c_X3_beside l hX V hs c w (by omega) (by omega)) mf_X3_beside km_X1_119 rfl hl rfl (Nat.le_of_ble_eq_true rfl) (by rw [hR]; exact ⟨Nat.le_of_ble_eq_true rfl, Nat.le_of_ble_eq_true rfl⟩) ⟨Nat.zero_le _, Nat.zero_le _⟩ dX1_lowestBeside_15) (fun z1 V1 H locs hp hG hS => ?_)
        obtain ⟨ez, eV⟩ := hp
        rw [if_pos hc.1] at ez
        rw [eV] at hG
        rw [ez]
        refine x_istore E [(4, .int (jI (nb wd hi c w))), (0, .ref (wa X b)), (1, .int (jI c)), (2, .int (jI t)), (3, .int (jI w))] dX1_lowestBeside_18 hl (by decide) rfl (fun ls hl => ?_)
        refine x_iload E dX1_lowestBeside_20 (lv_at hl 0 rfl) ?_
        refine x_iconst E dX1_lowestBeside_22 ?_
        refine x_icmp_eq E 50 dX1_lowestBeside_23 (by decide) (by unfold rg; omega) (by unfold rg; omega) (fun c23 => ?_) (fun c23 => ?_)
        · exact L50_2 t (by rw [lowK_s h h0, ← ht, lb, if_neg (by omega)]) _ _ _ hG hS (lv_sub hl [1, 2, 3, 4] rfl)
        · refine x_iload_n E dX1_lowestBeside_26 (lv_at hl 3 rfl) ?_
          refine x_iconst E dX1_lowestBeside_27 ?_
          refine x_icmp_eq E 47 dX1_lowestBeside_28 (by decide) (by unfold rg; omega) (by unfold rg; omega) (fun c28 => ?_) (fun c28 => ?_)
          · refine x_iload E dX1_lowestBeside_47 (lv_at hl 0 rfl) ?_
            refine x_istore_n E [(2, .int (jI (nb wd hi c w))), (4, .int (jI (nb wd hi c w))), (0, .ref (wa X b)), (1, .int (jI c)), (3, .int (jI w))] dX1_lowestBeside_49 hl (by decide) rfl (fun ls hl => ?_)
            exact L50_2 (nb wd hi c w) (by rw [lowK_s h h0, ← ht, lb, if_pos (by omega)]) _ _ _ hG hS (lv_sub hl [2, 3, 0, 4] rfl)
          · have hv1 := hh (nb wd hi c w) (by omega) (by omega)
            have hv2 := hh t (by omega) (by omega)
            refine x_aload_n E dX1_lowestBeside_31 (lv_at hl 1 rfl) ?_
            refine x_getr E hI hG (xd0 hX hb) cf1 1 (b + 1) rfl (by decide) kf_X1_45 dX1_lowestBeside_32 ?_
            refine x_iload E dX1_lowestBeside_35 (lv_at hl 0 rfl) ?_
            refine x_iald E hI hG (xd1 hX hb) (h (nb wd hi c w)) (by rw [hV]) (by omega) dX1_lowestBeside_37 ?_
            refine x_aload_n E dX1_lowestBeside_38 (lv_at hl 1 rfl) ?_
            refine x_getr E hI hG (xd0 hX hb) cf1 1 (b + 1) rfl (by decide) kf_X1_45 dX1_lowestBeside_39 ?_
            refine x_iload_n E dX1_lowestBeside_42 (lv_at hl 3 rfl) ?_
            refine x_iald E hI hG (xd1 hX hb) (h t) (by rw [hV]) (by omega) dX1_lowestBeside_43 ?_
            refine x_icmp_ge E 50 dX1_lowestBeside_44 (by decide) (by unfold rg; omega) (by unfold rg; omega) (fun c44 => ?_) (fun c44 => ?_)
            · exact L50_2 t (by rw [lowK_s h h0, ← ht, lb, if_neg (by omega)]) _ _ _ hG hS (lv_sub hl [1, 2, 3, 4] rfl)
            · refine x_iload E dX1_lowestBeside_47 (lv_at hl 0 rfl) ?_
              refine x_istore_n E [(2, .int (jI (nb wd hi c w))), (4, .int (jI (nb wd hi c w))), (0, .ref (wa X b)), (1, .int (jI c)), (3, .int (jI w))] dX1_lowestBeside_49 hl (by decide) rfl (fun ls hl => ?_)
              exact L50_2 (nb wd hi c w) (by rw [lowK_s h h0, ← ht, lb, if_pos (by omega)]) _ _ _ hG hS (lv_sub hl [2, 3, 0, 4] rfl)
  exact L4_1 _ 0 (-1) (by omega) (by omega) rfl (Nat.lt_succ_self _) _ _ _ hG hS (lv_sub hl [2, 3, 1, 0] rfl)

set_option maxHeartbeats 4000000 in
set_option maxRecDepth 100000 in
theorem c_X1_doubtAbove (l : Launch) {X : We} {n b : Nat} (hX : isX X n) (hb : isD b) {wd hi : Int} (V : Mem) (hs : Sh V n wd hi) (h : Int → Int) (hV : V (b + 1) = h) (hh : bnd n 0 9500 h) (sl : Int) (hsl : V (b + 10) 3 = sl) (hl9 : 1 ≤ sl ∧ sl ≤ 9) {B : Int → Bool} (hB : DB (V (b + 9)) B) (c : Int) (hc : 0 ≤ c ∧ c < (n : Int)) : Mt l X V yX1_doubtAbove cX1_doubtAbove 4 none 1 23 [.ref (wa X b), .int (jI c)] (Qv X (fun V1 => ∃ f B1, V1 = sp V (b + 9) f ∧ DB f B1 ∧ (∀ d, B d = true → B1 d = true) ∧ (∀ d, B1 d = true → B d = true ∨ (0 ≤ d ∧ d < (n : Int))) ∧ (∀ k : Int, 0 ≤ k → k < 4 → 0 ≤ nb wd hi c k → sl < h (nb wd hi c k) - h c → B1 (nb wd hi c k) = true) ∧ cntB n B1 ≤ cntB n B + 4)) := by
  refine Mt.go (by decide) (Nat.le_of_ble_eq_true rfl) ?_
  intro pg ev s0 mi bl mt cd ls Rm ag Qq hR hQ E hI hG hS hl
  have hl : lv_has ls 4 [(0, .ref (wa X b)), (1, .int (jI c))] := hl
  have hd := hs.2.2.2.1
  obtain ⟨hn1, hn2⟩ := dims.n hd
  obtain ⟨hb1, hb2⟩ := isD.ge hb
  rw [show V = sp V (b + 9) (V (b + 9)) from (sp_self _ _).symm] at hG
  refine x_iconst E dX1_doubtAbove_0 ?_
  refine x_istore_n E [(2, .int (jI 0)), (0, .ref (wa X b)), (1, .int (jI c))] dX1_doubtAbove_1 hl (by decide) rfl (fun ls hl => ?_)
  have L2_1 : ∀ (N : Nat) (w : Int) (f : Int → Int) (B1 : Int → Bool), (0 ≤ w) → (w ≤ 4) → (DB f B1) → (∀ d, B d = true → B1 d = true) → (∀ d, B1 d = true → B d = true ∨ (0 ≤ d ∧ d < (n : Int))) → (∀ k : Int, 0 ≤ k → k < w → 0 ≤ nb wd hi c k → sl < h (nb wd hi c k) - h c → B1 (nb wd hi c k) = true) → (cntB n B1 ≤ cntB n B + w) → ((4 - w).toNat) < N → ∀ (H : Heap) (locs : List Loc) (ls : Array Slot), GW X (sp V (b + 9) f) H → va_S (wA X) s0.heap H locs → lv_has ls 4 [(0, .ref (wa X b)), (1, .int (jI c)), (2, .int (jI w))] → W pg l ev Rm s0 mi ag bl mt cd H locs 0 0 Qq (F0 mi 2 ls []) := by
    intro N
    induction N with
    | zero => intro w f B1 h0 h1 hf g1 g2 g3 g4 hN; exact absurd hN (Nat.not_lt_zero _)
    | succ N ih2 =>
      intro w f B1 h0 h1 hf g1 g2 g3 g4 hN H locs ls hG hS hl
      refine x_iload_n E dX1_doubtAbove_2 (lv_at hl 2 rfl) ?_
      refine x_iconst E dX1_doubtAbove_3 ?_
      refine x_icmp_ge E 58 dX1_doubtAbove_4 (by decide) (by unfold rg; omega) (by unfold rg; omega) (fun c4 => ?_) (fun c4 => ?_)
      · exact r_v E hQ hG hS dX1_doubtAbove_58 (⟨f, B1, rfl, hf, g1, g2, fun k k0 k1 => g3 k k0 (by omega), by omega⟩)
      · have L52_2 : ∀ (f2 : Int → Int) (B2 : Int → Bool), (DB f2 B2) → (∀ d, B d = true → B2 d = true) → (∀ d, B2 d = true → B d = true ∨ (0 ≤ d ∧ d < (n : Int))) → (∀ k : Int, 0 ≤ k → k < w + 1 → 0 ≤ nb wd hi c k → sl < h (nb wd hi c k) - h c → B2 (nb wd hi c k) = true) → (cntB n B2 ≤ cntB n B + (w + 1)) → ∀ (H : Heap) (locs : List Loc) (ls : Array Slot), GW X (sp V (b + 9) f2) H → va_S (wA X) s0.heap H locs → lv_has ls 4 [(0, .ref (wa X b)), (1, .int (jI c)), (2, .int (jI w))] → W pg l ev Rm s0 mi ag bl mt cd H locs 0 0 Qq (F0 mi 52 ls []) := by
          intro f2 B2 hf2 e1 e2 e3 e4 H locs ls hG hS hl
          refine x_iinc E (k := 2) [(2, .int (jI (w + 1))), (0, .ref (wa X b)), (1, .int (jI c))] dX1_doubtAbove_52 hl rfl (by decide) rfl (fun ls hl => ?_)
          refine x_goto E 2 dX1_doubtAbove_55 (by decide) ?_
          exact ih2 (w + 1) f2 B2 (by omega) (by omega) hf2 e1 e2 e3 e4 (by omega) _ _ _ hG hS (lv_sub hl [1, 2, 0] rfl)
        have hr := nb_range (k := w) hd hc.1 hc.2
        have hsm : Sh (sp V (b + 9) f) n wd hi := hs.sp (by omega) _
        refine x_aload_n E dX1_doubtAbove_7 (lv_at hl 0 rfl) ?_
        refine x_getr E hI hG (xd0 hX hb) cf1 0 1 rfl (by decide) kf_X1_36 dX1_doubtAbove_8 ?_
        refine x_iload_n E dX1_doubtAbove_11 (lv_at hl 1 rfl) ?_
        refine x_iload_n E dX1_doubtAbove_12 (lv_at hl 2 rfl) ?_
        refine x_ci hG hS (x_runV E hI hG hS (xs0 hX) cf3 rfl (c_X3_beside l hX (sp V (b + 9) f) hsm c w (by omega) (by omega)) mf_X3_beside km_X1_119 rfl hl rfl (Nat.le_of_ble_eq_true rfl) (by rw [hR]; exact ⟨Nat.le_of_ble_eq_true rfl, Nat.le_of_ble_eq_true rfl⟩) ⟨Nat.zero_le _, Nat.zero_le _⟩ dX1_doubtAbove_13) (fun z1 V1 H locs hp hG hS => ?_)
        obtain ⟨ez, eV⟩ := hp
        rw [if_pos hc.1] at ez
        rw [eV] at hG
        rw [ez]
        refine x_istore_n E [(3, .int (jI (nb wd hi c w))), (0, .ref (wa X b)), (1, .int (jI c)), (2, .int (jI w))] dX1_doubtAbove_16 hl (by decide) rfl (fun ls hl => ?_)
        refine x_iload_n E dX1_doubtAbove_17 (lv_at hl 0 rfl) ?_
        refine x_iconst E dX1_doubtAbove_18 ?_
        refine x_icmp_eq E 52 dX1_doubtAbove_19 (by decide) (by unfold rg; omega) (by unfold rg; omega) (fun c19 => ?_) (fun c19 => ?_)
        · exact L52_2 f B1 hf g1 g2 (fun k k0 k1 kp kq => (by omega : k < w ∨ k = w).elim (fun z => g3 k k0 z kp kq) (fun z => by subst z; omega)) (by omega) _ _ _ hG hS (lv_sub hl [1, 2, 3] rfl)
        · have hv1 := hh (nb wd hi c w) (by omega) (by omega)
          have hv2 := hh c (by omega) (by omega)
          refine x_aload_n E dX1_doubtAbove_22 (lv_at hl 1 rfl) ?_
          refine x_getr E hI hG (xd0 hX hb) cf1 1 (b + 1) rfl (by decide) kf_X1_45 dX1_doubtAbove_23 ?_
          refine x_iload_n E dX1_doubtAbove_26 (lv_at hl 0 rfl) ?_
          refine x_iald E hI hG (xd1 hX hb) (h (nb wd hi c w)) (by rw [sp_n (by omega), hV]) (by omega) dX1_doubtAbove_27 ?_
          refine x_aload_n E dX1_doubtAbove_28 (lv_at hl 1 rfl) ?_
          refine x_getr E hI hG (xd0 hX hb) cf1 1 (b + 1) rfl (by decide) kf_X1_45 dX1_doubtAbove_29 ?_
          refine x_iload_n E dX1_doubtAbove_32 (lv_at hl 2 rfl) ?_
          refine x_iald E hI hG (xd1 hX hb) (h c) (by rw [sp_n (by omega), hV]) (by omega) dX1_doubtAbove_33 ?_
          refine x_isub E dX1_doubtAbove_34 ?_
          refine x_aload_n E dX1_doubtAbove_35 (lv_at hl 1 rfl) ?_
          refine x_getr E hI hG (xd0 hX hb) cf1 9 (b + 10) rfl (by decide) kf_X1_22 dX1_doubtAbove_36 ?_
          refine x_iconst E dX1_doubtAbove_39 ?_
          refine x_iald E hI hG (xd10 hX hb) (sl) (by rw [sp_n (by omega), hsl]) (by omega) dX1_doubtAbove_40 ?_
          refine x_icmp_le E 52 dX1_doubtAbove_41 (by decide) (by unfold rg; omega) (by unfold rg; omega) (fun c41 => ?_) (fun c41 => ?_)
          · exact L52_2 f B1 hf g1 g2 (fun k k0 k1 kp kq => (by omega : k < w ∨ k = w).elim (fun z => g3 k k0 z kp kq) (fun z => by subst z; omega)) (by omega) _ _ _ hG hS (lv_sub hl [1, 2, 3] rfl)
          · refine x_aload_n E dX1_doubtAbove_44 (lv_at hl 1 rfl) ?_
            refine x_getr E hI hG (xd0 hX hb) cf1 8 (b + 8) rfl (by decide) kf_X1_12 dX1_doubtAbove_45 ?_
            refine x_iload_n E dX1_doubtAbove_48 (lv_at hl 0 rfl) ?_
            refine x_cv hG hS (x_runV E hI hG hS (xd8 hX hb) cf0 rfl (c_X0_add l hX hb (sp V (b + 9) f) (by rw [sp_s]; exact hf) (nb wd hi c w) (by omega)) mf_X0_add km_X1_94 rfl hl rfl (Nat.le_of_ble_eq_true rfl) (by rw [hR]; exact ⟨Nat.le_of_ble_eq_true rfl, Nat.le_of_ble_eq_true rfl⟩) ⟨Nat.zero_le _, Nat.zero_le _⟩ dX1_doubtAbove_49) (fun V1 H locs hp hG hS => ?_)
            obtain ⟨f2, eV, hf2⟩ := hp
            rw [sp_sp] at eV
            rw [eV] at hG
            exact L52_2 f2 (bset B1 (nb wd hi c w) true) hf2 (fun d q => by unfold bset; split; rfl; exact g1 d q) (fun d q => by
                      unfold bset at q
                      split at q
                      · exact Or.inr (by omega)
                      · exact g2 d q) (fun k k0 k1 kp kq => by
                      unfold bset
                      split
                      · rfl
                      · rename_i z
                        exact g3 k k0 (by rcases (show k < w ∨ k = w by omega) with y | y; exact y; subst y; exact absurd rfl z) kp kq) (by
                      rw [cntB_set (by omega) (by omega)]
                      have := b2i_le (B1 (nb wd hi c w))
                      have : b2i true = 1 := rfl
                      omega) _ _ _ hG hS (lv_sub hl [1, 2, 3] rfl)
  exact L2_1 _ 0 (V (b + 9)) B (by omega) (by omega) hB (fun _ h => h) (fun _ h => Or.inl h) (fun k k0 k1 => by omega) (by omega) (Nat.lt_succ_self _) _ _ _ hG hS (lv_sub hl [1, 2, 0] rfl)
end
section
theorem b01_ne {q : Prop} [Decidable q] (h : b01 q ≠ 0) : q := Classical.byContradiction (fun z => h (b01_0 z))
theorem sp_3 (V : Mem) {p q r : Nat} (h1 : r ≠ q) (h2 : r ≠ p) (g f : Int → Int) : sp (sp V p g) q f r = V r := by rw [sp_n h1, sp_n h2]
theorem sp_twice (V : Mem) (p q : Nat) (g f f2 : Int → Int) : sp (sp (sp V p g) q f) q f2 = sp (sp V p g) q f2 := sp_sp _ _ _ _

set_option maxHeartbeats 4000000 in
set_option maxRecDepth 100000 in
theorem c_X1_settle (l : Launch) {X : We} {n b : Nat} (hX : isX X n) (hb : isD b) {wd hi : Int} (V : Mem) (hs : Sh V n wd hi) (h0 : Int → Int) (hV : V (b + 1) = h0) (hps : PS n h0) (sl : Int) (hsl : V (b + 10) 3 = sl) (hl9 : 1 ≤ sl ∧ sl ≤ 9) {B : Int → Bool} (hB : DB (V (b + 9)) B) (hB2 : ∀ d, B d = true → 0 ≤ d ∧ d < (n : Int)) (hst : ∀ d : Int, 0 ≤ d → d < (n : Int) → stp wd hi sl h0 d → B d = true) : Mt l X V yX1_settle cX1_settle 4 none 2 47 [.ref (wa X b)] (Qv X (fun V1 => V1 = sp (sp V (b + 1) (stl n wd hi sl h0)) (b + 9) (fun _ => 0))) := by
  refine Mt.go (by decide) (Nat.le_of_ble_eq_true rfl) ?_
  intro pg ev s0 mi bl mt cd ls Rm ag Qq hR hQ E hI hG hS hl
  have hl : lv_has ls 4 [(0, .ref (wa X b))] := hl
  have hd := hs.2.2.2.1
  obtain ⟨hn1, hn2⟩ := dims.n hd
  obtain ⟨hb1, hb2⟩ := isD.ge hb
  obtain ⟨hbn, m0, hm⟩ := hps
  rw [show V = sp (sp V (b + 1) h0) (b + 9) (V (b + 9)) by rw [← hV, sp_self V (b + 1), sp_self V (b + 9)]] at hG
  refine x_iconst E dX1_settle_0 ?_
  refine x_istore_n E [(1, .int (jI 0)), (0, .ref (wa X b))] dX1_settle_1 hl (by decide) rfl (fun ls hl => ?_)
  have L2_1 : ∀ (N : Nat) (step : Int) (h : Int → Int) (f : Int → Int) (B1 : Int → Bool), (0 ≤ step) → (∃ k, h = itr n wd hi sl h0 k) → (DB f B1) → (∀ d, B1 d = true → 0 ≤ d ∧ d < (n : Int)) → (∀ d : Int, 0 ≤ d → d < (n : Int) → stp wd hi sl h d → B1 d = true) → (bnd n 0 9500 h) → (3 * sq n m0 h + cntB n B1 + step ≤ 900000200) → ((2000000000 - step).toNat) < N → ∀ (H : Heap) (locs : List Loc) (ls : Array Slot), GW X (sp (sp V (b + 1) h) (b + 9) f) H → va_S (wA X) s0.heap H locs → lv_has ls 4 [(0, .ref (wa X b)), (1, .int (jI step))] → W pg l ev Rm s0 mi ag bl mt cd H locs 0 0 Qq (F0 mi 2 ls []) := by
    intro N
    induction N with
    | zero => intro step h f B1 sp0 hk hf g2 g3 hh hq hN; exact absurd hN (Nat.not_lt_zero _)
    | succ N ih2 =>
      intro step h f B1 sp0 hk hf g2 g3 hh hq hN H locs ls hG hS hl
      have hcn := cntB_le n B1
      have hsq := sq_nonneg n m0 h
      have hsm : Sh (sp (sp V (b + 1) h) (b + 9) f) n wd hi := (hs.sp (by omega) _).sp (by omega) _
      refine x_iload_n E dX1_settle_2 (lv_at hl 1 rfl) ?_
      refine x_ldc E 2000000000 kk_X1_122 (by decide) dX1_settle_3 ?_
      refine x_icmp_ge E 117 dX1_settle_5 (by decide) (by unfold rg; omega) (by unfold rg; omega) (fun c5 => ?_) (fun c5 => ?_)
      · omega
      · have L111_2 : ∀ (h2 : Int → Int) (f2 : Int → Int) (B2 : Int → Bool), (0 ≤ (step + 1)) → (∃ k, h2 = itr n wd hi sl h0 k) → (DB f2 B2) → (∀ d, B2 d = true → 0 ≤ d ∧ d < (n : Int)) → (∀ d : Int, 0 ≤ d → d < (n : Int) → stp wd hi sl h2 d → B2 d = true) → (bnd n 0 9500 h2) → (3 * sq n m0 h2 + cntB n B2 + (step + 1) ≤ 900000200) → ∀ (H : Heap) (locs : List Loc) (ls : Array Slot), GW X (sp (sp V (b + 1) h2) (b + 9) f2) H → va_S (wA X) s0.heap H locs → lv_has ls 4 [(0, .ref (wa X b)), (1, .int (jI step))] → W pg l ev Rm s0 mi ag bl mt cd H locs 0 0 Qq (F0 mi 111 ls []) := by
          intro h2 f2 B2 sp02 hk2 hf2 g22 g32 hh2 hq2 H locs ls hG hS hl
          refine x_iinc E (k := 1) [(1, .int (jI (step + 1))), (0, .ref (wa X b))] dX1_settle_111 hl rfl (by decide) rfl (fun ls hl => ?_)
          refine x_goto E 2 dX1_settle_114 (by decide) ?_
          exact ih2 (step + 1) h2 f2 B2 sp02 hk2 hf2 g22 g32 hh2 hq2 (by omega) _ _ _ hG hS (lv_sub hl [1, 0] rfl)
        refine x_aload_n E dX1_settle_8 (lv_at hl 0 rfl) ?_
        refine x_getr E hI hG (xd0 hX hb) cf1 8 (b + 8) rfl (by decide) kf_X1_12 dX1_settle_9 ?_
        refine x_ci hG hS (x_runV E hI hG hS (xd8 hX hb) cf0 rfl (c_X0_lowest l hX hb (sp (sp V (b + 1) h) (b + 9) f) (B := B1) (by rw [sp_s]; exact hf)) mf_X0_lowest km_X1_123 rfl hl rfl (Nat.le_of_ble_eq_true rfl) (by rw [hR]; exact ⟨Nat.le_of_ble_eq_true rfl, Nat.le_of_ble_eq_true rfl⟩) ⟨Nat.zero_le _, Nat.zero_le _⟩ dX1_settle_12) (fun c V1 H locs hp hG hS => ?_)
        obtain ⟨eV, hz⟩ := hp
        rw [eV] at hG
        refine x_istore_n E [(2, .int (jI c)), (0, .ref (wa X b)), (1, .int (jI step))] dX1_settle_15 hl (by decide) rfl (fun ls hl => ?_)
        refine x_aload_n E dX1_settle_16 (lv_at hl 1 rfl) ?_
        refine x_getr E hI hG (xd0 hX hb) cf1 0 1 rfl (by decide) kf_X1_36 dX1_settle_17 ?_
        refine x_iload_n E dX1_settle_20 (lv_at hl 0 rfl) ?_
        refine x_ci hG hS (x_runV E hI hG hS (xs0 hX) cf3 rfl (c_X3_has l hX (sp (sp V (b + 1) h) (b + 9) f) hsm c (by unfold rg; omega)) mf_X3_has km_X1_86 rfl hl rfl (Nat.le_of_ble_eq_true rfl) (by rw [hR]; exact ⟨Nat.le_of_ble_eq_true rfl, Nat.le_of_ble_eq_true rfl⟩) ⟨Nat.zero_le _, Nat.zero_le _⟩ dX1_settle_21) (fun z1 V1 H locs hp hG hS => ?_)
        obtain ⟨ez, eV⟩ := hp
        rw [eV] at hG
        rw [ez]
        refine x_if_ne E 28 dX1_settle_24 (by decide) b01_rg (fun c24 => ?_) (fun c24 => ?_)
        · have hc := b01_ne c24
          refine x_aload_n E dX1_settle_28 (lv_at hl 1 rfl) ?_
          refine x_iload_n E dX1_settle_29 (lv_at hl 0 rfl) ?_
          refine x_ci hG hS (x_runV E hI hG hS (xd0 hX hb) cf1 rfl (c_X1_lowestBeside l hX hb (sp (sp V (b + 1) h) (b + 9) f) hsm h (sp_ij V (by omega) _ _) hh c hc) mf_X1_lowestBeside km_X1_127 rfl hl rfl (Nat.le_of_ble_eq_true rfl) (by rw [hR]; exact ⟨Nat.le_of_ble_eq_true rfl, Nat.le_of_ble_eq_true rfl⟩) ⟨Nat.zero_le _, Nat.zero_le _⟩ dX1_settle_30) (fun z1 V1 H locs hp hG hS => ?_)
          obtain ⟨ez, eV⟩ := hp
          rw [eV] at hG
          rw [ez]
          refine x_istore_n E [(3, .int (jI (lowN wd hi h c))), (2, .int (jI c)), (0, .ref (wa X b)), (1, .int (jI step))] dX1_settle_33 hl (by decide) rfl (fun ls hl => ?_)
          obtain ⟨t1, t2, t3, -, -⟩ := lowN_spec hd h hc.1 hc.2
          refine x_aload_n E dX1_settle_34 (lv_at hl 2 rfl) ?_
          refine x_getr E hI hG (xd0 hX hb) cf1 0 1 rfl (by decide) kf_X1_36 dX1_settle_35 ?_
          refine x_iload_n E dX1_settle_38 (lv_at hl 0 rfl) ?_
          refine x_ci hG hS (x_runV E hI hG hS (xs0 hX) cf3 rfl (c_X3_has l hX (sp (sp V (b + 1) h) (b + 9) f) hsm (lowN wd hi h c) (by unfold rg; omega)) mf_X3_has km_X1_86 rfl hl rfl (Nat.le_of_ble_eq_true rfl) (by rw [hR]; exact ⟨Nat.le_of_ble_eq_true rfl, Nat.le_of_ble_eq_true rfl⟩) ⟨Nat.zero_le _, Nat.zero_le _⟩ dX1_settle_39) (fun z1 V1 H locs hp hG hS => ?_)
          obtain ⟨ez, eV⟩ := hp
          rw [eV] at hG
          rw [ez]
          refine x_if_eq E 103 dX1_settle_42 (by decide) b01_rg (fun c42 => ?_) (fun c42 => ?_)
          · exact absurd ⟨t1, t2⟩ (b01_iff0.mp c42)
          · have hv1 := hh c hc.1 hc.2
            have hv2 := hh (lowN wd hi h c) t1 t2
            refine x_aload_n E dX1_settle_45 (lv_at hl 2 rfl) ?_
            refine x_getr E hI hG (xd0 hX hb) cf1 1 (b + 1) rfl (by decide) kf_X1_45 dX1_settle_46 ?_
            refine x_iload_n E dX1_settle_49 (lv_at hl 1 rfl) ?_
            refine x_iald E hI hG (xd1 hX hb) (h c) (by rw [sp_ij V (by omega)]) (by omega) dX1_settle_50 ?_
            refine x_aload_n E dX1_settle_51 (lv_at hl 2 rfl) ?_
            refine x_getr E hI hG (xd0 hX hb) cf1 1 (b + 1) rfl (by decide) kf_X1_45 dX1_settle_52 ?_
            refine x_iload_n E dX1_settle_55 (lv_at hl 0 rfl) ?_
            refine x_iald E hI hG (xd1 hX hb) (h (lowN wd hi h c)) (by rw [sp_ij V (by omega)]) (by omega) dX1_settle_56 ?_
            refine x_isub E dX1_settle_57 ?_
            refine x_aload_n E dX1_settle_58 (lv_at hl 2 rfl) ?_
            refine x_getr E hI hG (xd0 hX hb) cf1 9 (b + 10) rfl (by decide) kf_X1_22 dX1_settle_59 ?_
            refine x_iconst E dX1_settle_62 ?_
            refine x_iald E hI hG (xd10 hX hb) (sl) (by rw [sp_3 V (by omega) (by omega)]; exact hsl) (by omega) dX1_settle_63 ?_
            refine x_icmp_le E 103 dX1_settle_64 (by decide) (by unfold rg; omega) (by unfold rg; omega) (fun c64 => ?_) (fun c64 => ?_)
            · have hns : ¬ stp wd hi sl h c := fun q => by have := (stp_low hd hc.1 hc.2).mp q; omega
              refine x_aload_n E dX1_settle_103 (lv_at hl 2 rfl) ?_
              refine x_getr E hI hG (xd0 hX hb) cf1 8 (b + 8) rfl (by decide) kf_X1_12 dX1_settle_104 ?_
              refine x_iload_n E dX1_settle_107 (lv_at hl 1 rfl) ?_
              refine x_cv hG hS (x_runV E hI hG hS (xd8 hX hb) cf0 rfl (c_X0_remove l hX hb (sp (sp V (b + 1) h) (b + 9) f) (B := B1) (by rw [sp_s]; exact hf) c (by omega)) mf_X0_remove km_X1_131 rfl hl rfl (Nat.le_of_ble_eq_true rfl) (by rw [hR]; exact ⟨Nat.le_of_ble_eq_true rfl, Nat.le_of_ble_eq_true rfl⟩) ⟨Nat.zero_le _, Nat.zero_le _⟩ dX1_settle_108) (fun V1 H locs hp hG hS => ?_)
              obtain ⟨f3, eV, hf3⟩ := hp
              rw [sp_sp] at eV
              rw [eV] at hG
              exact L111_2 h f3 (bset B1 c false) (by omega) hk hf3 (fun d q => by
                        unfold bset at q
                        split at q
                        · cases q
                        · exact g2 d q) (fun d d0 d1 q => by
                        unfold bset
                        split
                        · rename_i z; rw [z] at q; exact absurd q hns
                        · exact g3 d d0 d1 q) hh (by
                        rw [cntB_set hc.1 hc.2]
                        have b1 : B1 c = true := by
                          rcases hz with ⟨z, -⟩ | ⟨-, -, z, -⟩
                          · omega
                          · exact z
                        rw [b1]
                        have b2 : b2i true = 1 := rfl
                        have b3 : b2i false = 0 := rfl
                        omega) _ _ _ hG hS (lv_sub hl [2, 3] rfl)
            · have hstp : stp wd hi sl h c := (stp_low hd hc.1 hc.2).mpr (by omega)
              refine x_aload_n E dX1_settle_67 (lv_at hl 2 rfl) ?_
              refine x_getr E hI hG (xd0 hX hb) cf1 1 (b + 1) rfl (by decide) kf_X1_45 dX1_settle_68 ?_
              refine x_iload_n E dX1_settle_71 (lv_at hl 1 rfl) ?_
              refine x_dup2 E dX1_settle_72 rfl rfl ?_
              refine x_iald E hI hG (xd1 hX hb) (h c) (by rw [sp_ij V (by omega)]) (by omega) dX1_settle_73 ?_
              refine x_iconst E dX1_settle_74 ?_
              refine x_isub E dX1_settle_75 ?_
              refine x_iast E hI hG hS (xd1 hX hb) (by omega) dX1_settle_76 (fun H locs hG hS => ?_)
              rw [show (st (sp (sp V (b + 1) h) (b + 9) f) (b + 1) c ((h c) - 1)) = (sp (sp V (b + 1) (ui h c (h c - 1))) (b + 9) f) from st_in V (by omega) _ _ _ _] at hG
              refine x_aload_n E dX1_settle_77 (lv_at hl 2 rfl) ?_
              refine x_getr E hI hG (xd0 hX hb) cf1 1 (b + 1) rfl (by decide) kf_X1_45 dX1_settle_78 ?_
              refine x_iload_n E dX1_settle_81 (lv_at hl 0 rfl) ?_
              refine x_dup2 E dX1_settle_82 rfl rfl ?_
              refine x_iald E hI hG (xd1 hX hb) (h (lowN wd hi h c)) (by rw [sp_ij V (by omega), ui_n t3]) (by omega) dX1_settle_83 ?_
              refine x_iconst E dX1_settle_84 ?_
              refine x_iadd E dX1_settle_85 ?_
              refine x_iast E hI hG hS (xd1 hX hb) (by omega) dX1_settle_86 (fun H locs hG hS => ?_)
              rw [show (st (sp (sp V (b + 1) (ui h c (h c - 1))) (b + 9) f) (b + 1) (lowN wd hi h c) ((h (lowN wd hi h c)) + 1)) = (sp (sp V (b + 1) (slide wd hi h c)) (b + 9) f) from st_in V (by omega) _ _ _ _] at hG
              have hsm3 : Sh (sp (sp V (b + 1) (slide wd hi h c)) (b + 9) f) n wd hi := (hs.sp (by omega) _).sp (by omega) _
              have hbs : bnd n 0 9500 (slide wd hi h c) := slide_bnd hd hl9.1 hh hc.1 hc.2 hstp
              refine x_aload_n E dX1_settle_87 (lv_at hl 2 rfl) ?_
              refine x_iload_n E dX1_settle_88 (lv_at hl 1 rfl) ?_
              refine x_cv hG hS (x_runV E hI hG hS (xd0 hX hb) cf1 rfl (c_X1_doubtAbove l hX hb (sp (sp V (b + 1) (slide wd hi h c)) (b + 9) f) hsm3 (slide wd hi h c) (sp_ij V (by omega) _ _) hbs sl (by rw [sp_3 V (by omega) (by omega)]; exact hsl) hl9 (B := B1) (by rw [sp_s]; exact hf) c hc) mf_X1_doubtAbove km_X1_90 rfl hl rfl (Nat.le_of_ble_eq_true rfl) (by rw [hR]; exact ⟨Nat.le_of_ble_eq_true rfl, Nat.le_of_ble_eq_true rfl⟩) ⟨Nat.zero_le _, Nat.zero_le _⟩ dX1_settle_89) (fun V1 H locs hp hG hS => ?_)
              obtain ⟨f2, B2, eV, hf2, dd1, d2, d3, d4⟩ := hp
              rw [sp_sp] at eV
              rw [eV] at hG
              refine x_aload_n E dX1_settle_92 (lv_at hl 2 rfl) ?_
              refine x_getr E hI hG (xd0 hX hb) cf1 8 (b + 8) rfl (by decide) kf_X1_12 dX1_settle_93 ?_
              refine x_iload_n E dX1_settle_96 (lv_at hl 0 rfl) ?_
              refine x_cv hG hS (x_runV E hI hG hS (xd8 hX hb) cf0 rfl (c_X0_add l hX hb (sp (sp V (b + 1) (slide wd hi h c)) (b + 9) f2) (B := B2) (by rw [sp_s]; exact hf2) (lowN wd hi h c) (by omega)) mf_X0_add km_X1_94 rfl hl rfl (Nat.le_of_ble_eq_true rfl) (by rw [hR]; exact ⟨Nat.le_of_ble_eq_true rfl, Nat.le_of_ble_eq_true rfl⟩) ⟨Nat.zero_le _, Nat.zero_le _⟩ dX1_settle_97) (fun V1 H locs hp hG hS => ?_)
              obtain ⟨f3, eV, hf3⟩ := hp
              rw [sp_sp] at eV
              rw [eV] at hG
              refine x_goto E 111 dX1_settle_100 (by decide) ?_
              exact L111_2 (slide wd hi h c) f3 (bset B2 (lowN wd hi h c) true) (by omega) (by
                          obtain ⟨k, ek⟩ := hk
                          refine ⟨k + 1, ?_⟩
                          show _ = sstep n wd hi sl (itr n wd hi sl h0 k)
                          rw [← ek]
                          refine (sstep_at ⟨hc.1, hc.2, hstp, fun d d0 d1 q => ?_⟩).symm
                          have a := g3 d d0 (by omega) q
                          rcases hz with ⟨z, -⟩ | ⟨-, -, -, z⟩
                          · omega
                          · rw [z d d0 d1] at a; cases a) hf3 (fun d q => by
                          unfold bset at q
                          split at q
                          · rename_i z; rw [z]; exact ⟨t1, t2⟩
                          · exact (d2 d q).elim (g2 d) id) (fun d d0 d1 q => by
                          unfold bset
                          split
                          · rfl
                          · rename_i z
                            rcases slide_new hd hl9.1 hc.1 hc.2 hstp d0 d1 q with y | y | ⟨k, k0, k1, k2, k3⟩
                            · exact dd1 d (g3 d d0 d1 y)
                            · exact absurd y z
                            · rw [← k2]; exact d3 k k0 k1 (by omega) (by rw [k2]; exact k3)) hbs (by
                          rw [cntB_set t1 t2]
                          have a := slide_sq (m := m0) hd hl9.1 hc.1 hc.2 hstp
                          have b1 := b2i_le (B2 (lowN wd hi h c))
                          have b3 : b2i true = 1 := rfl
                          omega) _ _ _ hG hS (lv_sub hl [2, 3] rfl)
        · have hnc := b01_iff0.mp c24
          have hno : ∀ d : Int, 0 ≤ d → d < 192 → B1 d = false := by
            rcases hz with ⟨-, q⟩ | ⟨q1, q2, q3, -⟩
            · exact q
            · exact absurd (g2 c q3) hnc
          have hset : settled n wd hi sl h := fun d d0 d1 q => by
            have := g3 d d0 d1 q
            rw [hno d d0 (by omega)] at this
            cases this
          obtain ⟨k, ek⟩ := hk
          have est : stl n wd hi sl h0 = h := by rw [ek] at hset ⊢; exact stl_of hset
          have hG := hG.ext (V' := sp (sp V (b + 1) (stl n wd hi sl h0)) (b + 9) (fun _ => 0)) (fun p k hp hk => by
            rw [est]
            by_cases e : p = b + 9
            · subst e
              rw [(xd9 hX hb).1] at hk
              rw [sp_s, sp_s]
              exact (hf.none hno hk.1 hk.2).symm
            · rw [sp_n e, sp_n e])
          exact r_v E hQ hG hS dX1_settle_27 rfl
  exact L2_1 _ 0 h0 (V (b + 9)) B (by omega) (⟨0, rfl⟩) hB hB2 hst hbn (by have := cntB_le n B; omega) (Nat.lt_succ_self _) _ _ _ hG hS (lv_sub hl [1, 0] rfl)
end
section
/-- a heap becomes v, then all slides -/
noncomputable def hput (n : Nat) (wd hi : Int) (b : Nat) (c v : Int) (V : Mem) : Mem := sp V (b + 1) (stl n wd hi (V (b + 10) 3) (ui (V (b + 1)) c v))
noncomputable def hall (n : Nat) (wd hi : Int) (b : Nat) (V : Mem) : Mem := sp V (b + 1) (stl n wd hi (V (b + 10) 3) (V (b + 1)))
/-- a shore that may go on: its shape, its heaps, no doubts -/
def DK (V : Mem) (n : Nat) (wd hi : Int) (b : Nat) (t : Int) : Prop := Sh V n wd hi ∧ HI n wd hi (V (b + 10) 3) t (V (b + 1)) ∧ V (b + 9) = fun _ => 0
theorem sp_back {V : Mem} {p q : Nat} (h : p ≠ q) (g f k z : Int → Int) (hz : V q = z) : sp (sp (sp (sp V p g) q f) p k) q z = sp V p k := by
  rw [sp_comm (sp V p g) f k (Ne.symm h), sp_sp, sp_sp, sp_comm V k z h, ← hz, sp_self]
theorem sp_back2 {V : Mem} {p q : Nat} (h : p ≠ q) (f k z : Int → Int) (hz : V q = z) : sp (sp (sp V q f) p k) q z = sp V p k := by
  rw [sp_comm (sp V q f) k z h, sp_sp, ← hz, sp_self]
theorem B1_ui {n : Nat} {wd hi sl : Int} {g : Int → Int} {c v : Int} (hd : dims n wd hi) (h0 : 0 ≤ c) (h1 : c < (n : Int)) (hg : settled n wd hi sl g) (hv : g c ≤ v) : ∀ d : Int, 0 ≤ d → d < (n : Int) → stp wd hi sl (ui g c v) d → bset (fun _ => false) c true d = true := by
  intro d d0 d1 q
  rcases ui_new hd h0 h1 hg d0 d1 q with ⟨e, -⟩ | ⟨e, -⟩
  · unfold bset; rw [if_pos e]
  · omega

set_option maxHeartbeats 4000000 in
set_option maxRecDepth 100000 in
theorem c_X1_raise (l : Launch) {X : We} {n b : Nat} (hX : isX X n) (hb : isD b) {wd hi t : Int} (V : Mem) (hk : DK V n wd hi b t) (c : Int) (hc : 0 ≤ c ∧ c < (n : Int)) : Mt l X V yX1_raise cX1_raise 2 none 3 70 [.ref (wa X b), .int (jI c)] (Qv X (fun V1 => V1 = hput n wd hi b c (V (b + 1) c + 1) V)) := by
  refine Mt.go (by decide) (Nat.le_of_ble_eq_true rfl) ?_
  intro pg ev s0 mi bl mt cd ls Rm ag Qq hR hQ E hI hG hS hl
  have hl : lv_has ls 2 [(0, .ref (wa X b)), (1, .int (jI c))] := hl
  obtain ⟨hs, hh, hz⟩ := hk
  have hd := hs.2.2.2.1
  obtain ⟨hn1, hn2⟩ := dims.n hd
  obtain ⟨hb1, hb2⟩ := isD.ge hb
  have hl9 : 1 ≤ V (b + 10) 3 ∧ V (b + 10) 3 ≤ 9 := ⟨hh.2.2.2.1, hh.2.2.2.2.1⟩
  refine x_aload_n E dX1_raise_0 (lv_at hl 0 rfl) ?_
  refine x_getr E hI hG (xd0 hX hb) cf1 0 1 rfl (by decide) kf_X1_36 dX1_raise_1 ?_
  refine x_iload_n E dX1_raise_4 (lv_at hl 1 rfl) ?_
  refine x_ci hG hS (x_runV E hI hG hS (xs0 hX) cf3 rfl (c_X3_has l hX V hs c (by unfold rg; omega)) mf_X3_has km_X1_86 rfl hl rfl (Nat.le_of_ble_eq_true rfl) (by rw [hR]; exact ⟨Nat.le_of_ble_eq_true rfl, Nat.le_of_ble_eq_true rfl⟩) ⟨Nat.zero_le _, Nat.zero_le _⟩ dX1_raise_5) (fun z1 V1 H locs hp hG hS => ?_)
  obtain ⟨ez, eV⟩ := hp
  rw [eV] at hG
  rw [ez]
  refine x_if_ne E 12 dX1_raise_8 (by decide) b01_rg (fun c8 => ?_) (fun c8 => ?_)
  · have hv := hh.bnd hd c hc.1 hc.2
    refine x_aload_n E dX1_raise_12 (lv_at hl 0 rfl) ?_
    refine x_getr E hI hG (xd0 hX hb) cf1 1 (b + 1) rfl (by decide) kf_X1_45 dX1_raise_13 ?_
    refine x_iload_n E dX1_raise_16 (lv_at hl 1 rfl) ?_
    refine x_dup2 E dX1_raise_17 rfl rfl ?_
    refine x_iald E hI hG (xd1 hX hb) (V (b + 1) c) rfl (by omega) dX1_raise_18 ?_
    refine x_iconst E dX1_raise_19 ?_
    refine x_iadd E dX1_raise_20 ?_
    refine x_iast E hI hG hS (xd1 hX hb) (by omega) dX1_raise_21 (fun H locs hG hS => ?_)
    rw [show (st V (b + 1) c ((V (b + 1) c) + 1)) = (sp V (b + 1) (ui (V (b + 1)) c (V (b + 1) c + 1))) from st_sp V _ _ _] at hG
    refine x_aload_n E dX1_raise_22 (lv_at hl 0 rfl) ?_
    refine x_getr E hI hG (xd0 hX hb) cf1 8 (b + 8) rfl (by decide) kf_X1_12 dX1_raise_23 ?_
    refine x_iload_n E dX1_raise_26 (lv_at hl 1 rfl) ?_
    refine x_cv hG hS (x_runV E hI hG hS (xd8 hX hb) cf0 rfl (c_X0_add l hX hb (sp V (b + 1) (ui (V (b + 1)) c (V (b + 1) c + 1))) (B := fun _ => false) (DB.zero (fun i _ _ => by rw [sp_n (by omega), hz])) c (by omega)) mf_X0_add km_X1_94 rfl hl rfl (Nat.le_of_ble_eq_true rfl) (by rw [hR]; exact ⟨Nat.le_of_ble_eq_true rfl, Nat.le_of_ble_eq_true rfl⟩) ⟨Nat.zero_le _, Nat.zero_le _⟩ dX1_raise_27) (fun V1 H locs hp hG hS => ?_)
    obtain ⟨f, eV, hf⟩ := hp
    rw [eV] at hG
    refine x_aload_n E dX1_raise_30 (lv_at hl 0 rfl) ?_
    refine x_cv hG hS (x_runV E hI hG hS (xd0 hX hb) cf1 rfl (c_X1_settle l hX hb (sp (sp V (b + 1) (ui (V (b + 1)) c (V (b + 1) c + 1))) (b + 9) f) ((hs.sp (by omega) _).sp (by omega) _) (ui (V (b + 1)) c (V (b + 1) c + 1)) (sp_ij V (by omega) _ _) (HI.put hd hh hc.1 hc.2 (by omega) (by omega)) (V (b + 10) 3) (by rw [sp_3 V (by omega) (by omega)]) hl9 (by rw [sp_s]; exact hf) (fun d q => by unfold bset at q; split at q; omega; cases q) (B1_ui hd hc.1 hc.2 hh.1 (by omega))) mf_X1_settle km_X1_97 rfl hl rfl (Nat.le_of_ble_eq_true rfl) (by rw [hR]; exact ⟨Nat.le_of_ble_eq_true rfl, Nat.le_of_ble_eq_true rfl⟩) ⟨Nat.zero_le _, Nat.zero_le _⟩ dX1_raise_31) (fun V1 H locs hp hG hS => ?_)
    have eV := hp
    rw [eV] at hG
    exact r_v E hQ hG hS dX1_raise_34 (by unfold hput; exact sp_back (by omega) _ _ _ _ hz)
  · exact absurd hc (b01_iff0.mp c8)

set_option maxHeartbeats 4000000 in
set_option maxRecDepth 100000 in
theorem c_X1_lower (l : Launch) {X : We} {n b : Nat} (hX : isX X n) (hb : isD b) {wd hi t : Int} (V : Mem) (hk : DK V n wd hi b t) (c g : Int) (hc : 0 ≤ c ∧ c < (n : Int)) (hg : 0 ≤ g ∧ g ≤ 9999) : Mt l X V yX1_lower cX1_lower 3 none 3 70 [.ref (wa X b), .int (jI c), .int (jI g)] (Qv X (fun V1 => V1 = hput n wd hi b c (V (b + 1) c - min g (V (b + 1) c)) V)) := by
  refine Mt.go (by decide) (Nat.le_of_ble_eq_true rfl) ?_
  intro pg ev s0 mi bl mt cd ls Rm ag Qq hR hQ E hI hG hS hl
  have hl : lv_has ls 3 [(0, .ref (wa X b)), (1, .int (jI c)), (2, .int (jI g))] := hl
  obtain ⟨hs, hh, hz⟩ := hk
  have hd := hs.2.2.2.1
  obtain ⟨hn1, hn2⟩ := dims.n hd
  obtain ⟨hb1, hb2⟩ := isD.ge hb
  have hl9 : 1 ≤ V (b + 10) 3 ∧ V (b + 10) 3 ≤ 9 := ⟨hh.2.2.2.1, hh.2.2.2.2.1⟩
  refine x_aload_n E dX1_lower_0 (lv_at hl 0 rfl) ?_
  refine x_getr E hI hG (xd0 hX hb) cf1 0 1 rfl (by decide) kf_X1_36 dX1_lower_1 ?_
  refine x_iload_n E dX1_lower_4 (lv_at hl 1 rfl) ?_
  refine x_ci hG hS (x_runV E hI hG hS (xs0 hX) cf3 rfl (c_X3_has l hX V hs c (by unfold rg; omega)) mf_X3_has km_X1_86 rfl hl rfl (Nat.le_of_ble_eq_true rfl) (by rw [hR]; exact ⟨Nat.le_of_ble_eq_true rfl, Nat.le_of_ble_eq_true rfl⟩) ⟨Nat.zero_le _, Nat.zero_le _⟩ dX1_lower_5) (fun z1 V1 H locs hp hG hS => ?_)
  obtain ⟨ez, eV⟩ := hp
  rw [eV] at hG
  rw [ez]
  refine x_if_ne E 12 dX1_lower_8 (by decide) b01_rg (fun c8 => ?_) (fun c8 => ?_)
  · have hv := hh.bnd hd c hc.1 hc.2
    have hps : PS n (ui (V (b + 1)) c (V (b + 1) c - min g (V (b + 1) c))) := HI.put hd hh hc.1 hc.2 (by omega) (by omega)
    refine x_aload_n E dX1_lower_12 (lv_at hl 0 rfl) ?_
    refine x_getr E hI hG (xd0 hX hb) cf1 1 (b + 1) rfl (by decide) kf_X1_45 dX1_lower_13 ?_
    refine x_iload_n E dX1_lower_16 (lv_at hl 1 rfl) ?_
    refine x_dup2 E dX1_lower_17 rfl rfl ?_
    refine x_iald E hI hG (xd1 hX hb) (V (b + 1) c) rfl (by omega) dX1_lower_18 ?_
    refine x_iload_n E dX1_lower_19 (lv_at hl 2 rfl) ?_
    refine x_aload_n E dX1_lower_20 (lv_at hl 0 rfl) ?_
    refine x_getr E hI hG (xd0 hX hb) cf1 1 (b + 1) rfl (by decide) kf_X1_45 dX1_lower_21 ?_
    refine x_iload_n E dX1_lower_24 (lv_at hl 1 rfl) ?_
    refine x_iald E hI hG (xd1 hX hb) (V (b + 1) c) rfl (by omega) dX1_lower_25 ?_
    refine x_min E hl km_X1_110 (by rw [hR]; exact ⟨Nat.le_of_ble_eq_true rfl, Nat.le_of_ble_eq_true rfl⟩) ⟨Nat.zero_le _, Nat.zero_le _⟩ (by unfold rg; omega) (by unfold rg; omega) dX1_lower_26 ?_
    refine x_isub E dX1_lower_29 ?_
    refine x_iast E hI hG hS (xd1 hX hb) (by omega) dX1_lower_30 (fun H locs hG hS => ?_)
    rw [show (st V (b + 1) c ((V (b + 1) c) - (min g (V (b + 1) c)))) = (sp V (b + 1) (ui (V (b + 1)) c (V (b + 1) c - min g (V (b + 1) c)))) from st_sp V _ _ _] at hG
    refine x_aload_n E dX1_lower_31 (lv_at hl 0 rfl) ?_
    refine x_iload_n E dX1_lower_32 (lv_at hl 1 rfl) ?_
    refine x_cv hG hS (x_runV E hI hG hS (xd0 hX hb) cf1 rfl (c_X1_doubtAbove l hX hb (sp V (b + 1) (ui (V (b + 1)) c (V (b + 1) c - min g (V (b + 1) c)))) (hs.sp (by omega) _) (ui (V (b + 1)) c (V (b + 1) c - min g (V (b + 1) c))) (sp_s _ _ _) hps.1 (V (b + 10) 3) (by rw [sp_n (by omega)]) hl9 (B := fun _ => false) (DB.zero (fun i _ _ => by rw [sp_n (by omega), hz])) c hc) mf_X1_doubtAbove km_X1_90 rfl hl rfl (Nat.le_of_ble_eq_true rfl) (by rw [hR]; exact ⟨Nat.le_of_ble_eq_true rfl, Nat.le_of_ble_eq_true rfl⟩) ⟨Nat.zero_le _, Nat.zero_le _⟩ dX1_lower_33) (fun V1 H locs hp hG hS => ?_)
    obtain ⟨f, B1, eV, hf, -, d2, d3, -⟩ := hp
    rw [eV] at hG
    refine x_aload_n E dX1_lower_36 (lv_at hl 0 rfl) ?_
    refine x_cv hG hS (x_runV E hI hG hS (xd0 hX hb) cf1 rfl (c_X1_settle l hX hb (sp (sp V (b + 1) (ui (V (b + 1)) c (V (b + 1) c - min g (V (b + 1) c)))) (b + 9) f) ((hs.sp (by omega) _).sp (by omega) _) (ui (V (b + 1)) c (V (b + 1) c - min g (V (b + 1) c))) (sp_ij V (by omega) _ _) hps (V (b + 10) 3) (by rw [sp_3 V (by omega) (by omega)]) hl9 (B := B1) (by rw [sp_s]; exact hf) (fun d q => by rcases d2 d q with z | z; cases z; exact z) (fun d d0 d1 q => by
          rcases ui_new hd hc.1 hc.2 hh.1 d0 d1 q with ⟨-, e⟩ | ⟨-, k, k0, k1, k2, k3⟩
          · omega
          · rw [← k2]; exact d3 k k0 k1 (by omega) (by rw [k2]; exact k3))) mf_X1_settle km_X1_97 rfl hl rfl (Nat.le_of_ble_eq_true rfl) (by rw [hR]; exact ⟨Nat.le_of_ble_eq_true rfl, Nat.le_of_ble_eq_true rfl⟩) ⟨Nat.zero_le _, Nat.zero_le _⟩ dX1_lower_37) (fun V1 H locs hp hG hS => ?_)
    have eV := hp
    rw [eV] at hG
    exact r_v E hQ hG hS dX1_lower_40 (by unfold hput; exact sp_back (by omega) _ _ _ _ hz)
  · exact absurd hc (b01_iff0.mp c8)

set_option maxHeartbeats 4000000 in
set_option maxRecDepth 100000 in
theorem c_X1_pile (l : Launch) {X : We} {n b : Nat} (hX : isX X n) (hb : isD b) {wd hi t : Int} (V : Mem) (hk : DK V n wd hi b t) (c v : Int) (hc : 0 ≤ c ∧ c < (n : Int)) (hv : 0 ≤ v ∧ v ≤ 999) : Mt l X V yX1_pile cX1_pile 3 none 3 70 [.ref (wa X b), .int (jI c), .int (jI v)] (Qv X (fun V1 => V1 = hput n wd hi b c v (sp V (b + 2) (ui (V (b + 2)) c v)))) := by
  refine Mt.go (by decide) (Nat.le_of_ble_eq_true rfl) ?_
  intro pg ev s0 mi bl mt cd ls Rm ag Qq hR hQ E hI hG hS hl
  have hl : lv_has ls 3 [(0, .ref (wa X b)), (1, .int (jI c)), (2, .int (jI v))] := hl
  obtain ⟨hs, hh, hz⟩ := hk
  have hd := hs.2.2.2.1
  obtain ⟨hn1, hn2⟩ := dims.n hd
  obtain ⟨hb1, hb2⟩ := isD.ge hb
  have hl9 : 1 ≤ V (b + 10) 3 ∧ V (b + 10) 3 ≤ 9 := ⟨hh.2.2.2.1, hh.2.2.2.2.1⟩
  refine x_aload_n E dX1_pile_0 (lv_at hl 0 rfl) ?_
  refine x_getr E hI hG (xd0 hX hb) cf1 0 1 rfl (by decide) kf_X1_36 dX1_pile_1 ?_
  refine x_iload_n E dX1_pile_4 (lv_at hl 1 rfl) ?_
  refine x_ci hG hS (x_runV E hI hG hS (xs0 hX) cf3 rfl (c_X3_has l hX V hs c (by unfold rg; omega)) mf_X3_has km_X1_86 rfl hl rfl (Nat.le_of_ble_eq_true rfl) (by rw [hR]; exact ⟨Nat.le_of_ble_eq_true rfl, Nat.le_of_ble_eq_true rfl⟩) ⟨Nat.zero_le _, Nat.zero_le _⟩ dX1_pile_5) (fun z1 V1 H locs hp hG hS => ?_)
  obtain ⟨ez, eV⟩ := hp
  rw [eV] at hG
  rw [ez]
  refine x_if_ne E 12 dX1_pile_8 (by decide) b01_rg (fun c8 => ?_) (fun c8 => ?_)
  · have hps : PS n (ui (V (b + 1)) c v) := HI.put hd hh hc.1 hc.2 (by omega) (by omega)
    refine x_aload_n E dX1_pile_12 (lv_at hl 0 rfl) ?_
    refine x_getr E hI hG (xd0 hX hb) cf1 1 (b + 1) rfl (by decide) kf_X1_45 dX1_pile_13 ?_
    refine x_iload_n E dX1_pile_16 (lv_at hl 1 rfl) ?_
    refine x_iload_n E dX1_pile_17 (lv_at hl 2 rfl) ?_
    refine x_iast E hI hG hS (xd1 hX hb) (by omega) dX1_pile_18 (fun H locs hG hS => ?_)
    rw [show (st V (b + 1) c v) = (sp V (b + 1) (ui (V (b + 1)) c v)) from st_sp V _ _ _] at hG
    refine x_aload_n E dX1_pile_19 (lv_at hl 0 rfl) ?_
    refine x_getr E hI hG (xd0 hX hb) cf1 2 (b + 2) rfl (by decide) kf_X1_48 dX1_pile_20 ?_
    refine x_iload_n E dX1_pile_23 (lv_at hl 1 rfl) ?_
    refine x_iload_n E dX1_pile_24 (lv_at hl 2 rfl) ?_
    refine x_iast E hI hG hS (xd2 hX hb) (by omega) dX1_pile_25 (fun H locs hG hS => ?_)
    rw [show (st (sp V (b + 1) (ui (V (b + 1)) c v)) (b + 2) c v) = (sp (sp V (b + 2) (ui (V (b + 2)) c v)) (b + 1) (ui (V (b + 1)) c v)) from by rw [st_sp, sp_n (by omega)]; exact sp_comm V _ _ (by omega)] at hG
    refine x_aload_n E dX1_pile_26 (lv_at hl 0 rfl) ?_
    refine x_iload_n E dX1_pile_27 (lv_at hl 1 rfl) ?_
    refine x_cv hG hS (x_runV E hI hG hS (xd0 hX hb) cf1 rfl (c_X1_doubtAbove l hX hb (sp (sp V (b + 2) (ui (V (b + 2)) c v)) (b + 1) (ui (V (b + 1)) c v)) ((hs.sp (by omega) _).sp (by omega) _) (ui (V (b + 1)) c v) (sp_s _ _ _) hps.1 (V (b + 10) 3) (by rw [sp_3 V (by omega) (by omega)]) hl9 (B := fun _ => false) (DB.zero (fun i _ _ => by rw [sp_3 V (by omega) (by omega), hz])) c hc) mf_X1_doubtAbove km_X1_90 rfl hl rfl (Nat.le_of_ble_eq_true rfl) (by rw [hR]; exact ⟨Nat.le_of_ble_eq_true rfl, Nat.le_of_ble_eq_true rfl⟩) ⟨Nat.zero_le _, Nat.zero_le _⟩ dX1_pile_28) (fun V1 H locs hp hG hS => ?_)
    obtain ⟨f, B1, eV, hf, -, d2, d3, -⟩ := hp
    rw [eV] at hG
    refine x_aload_n E dX1_pile_31 (lv_at hl 0 rfl) ?_
    refine x_getr E hI hG (xd0 hX hb) cf1 8 (b + 8) rfl (by decide) kf_X1_12 dX1_pile_32 ?_
    refine x_iload_n E dX1_pile_35 (lv_at hl 1 rfl) ?_
    refine x_cv hG hS (x_runV E hI hG hS (xd8 hX hb) cf0 rfl (c_X0_add l hX hb (sp (sp (sp V (b + 2) (ui (V (b + 2)) c v)) (b + 1) (ui (V (b + 1)) c v)) (b + 9) f) (B := B1) (by rw [sp_s]; exact hf) c (by omega)) mf_X0_add km_X1_94 rfl hl rfl (Nat.le_of_ble_eq_true rfl) (by rw [hR]; exact ⟨Nat.le_of_ble_eq_true rfl, Nat.le_of_ble_eq_true rfl⟩) ⟨Nat.zero_le _, Nat.zero_le _⟩ dX1_pile_36) (fun V1 H locs hp hG hS => ?_)
    obtain ⟨f3, eV, hf3⟩ := hp
    rw [sp_sp] at eV
    rw [eV] at hG
    refine x_aload_n E dX1_pile_39 (lv_at hl 0 rfl) ?_
    refine x_cv hG hS (x_runV E hI hG hS (xd0 hX hb) cf1 rfl (c_X1_settle l hX hb (sp (sp (sp V (b + 2) (ui (V (b + 2)) c v)) (b + 1) (ui (V (b + 1)) c v)) (b + 9) f3) (((hs.sp (by omega) _).sp (by omega) _).sp (by omega) _) (ui (V (b + 1)) c v) (sp_ij _ (by omega) _ _) hps (V (b + 10) 3) (by rw [sp_3 _ (by omega) (by omega), sp_n (by omega)]) hl9 (B := bset B1 c true) (by rw [sp_s]; exact hf3) (fun d q => by
          unfold bset at q
          split at q
          · omega
          · rcases d2 d q with z | z
            · cases z
            · exact z) (fun d d0 d1 q => by
          unfold bset
          split
          · rfl
          · rename_i z
            rcases ui_new hd hc.1 hc.2 hh.1 d0 d1 q with ⟨e, -⟩ | ⟨-, k, k0, k1, k2, k3⟩
            · exact absurd e z
            · rw [← k2]; exact d3 k k0 k1 (by omega) (by rw [k2]; exact k3))) mf_X1_settle km_X1_97 rfl hl rfl (Nat.le_of_ble_eq_true rfl) (by rw [hR]; exact ⟨Nat.le_of_ble_eq_true rfl, Nat.le_of_ble_eq_true rfl⟩) ⟨Nat.zero_le _, Nat.zero_le _⟩ dX1_pile_40) (fun V1 H locs hp hG hS => ?_)
    have eV := hp
    rw [eV] at hG
    exact r_v E hQ hG hS dX1_pile_43 (by unfold hput; rw [sp_n (V := V) (p := b + 2) (q := b + 10) (by omega), sp_n (V := V) (p := b + 2) (q := b + 1) (by omega)]; exact sp_back (by omega) _ _ _ _ (by rw [sp_n (by omega)]; exact hz))
  · exact absurd hc (b01_iff0.mp c8)

set_option maxHeartbeats 4000000 in
set_option maxRecDepth 100000 in
theorem c_X1_settleAll (l : Launch) {X : We} {n b : Nat} (hX : isX X n) (hb : isD b) {wd hi : Int} (V : Mem) (hs : Sh V n wd hi) (hps : PS n (V (b + 1))) (hl9 : 1 ≤ V (b + 10) 3 ∧ V (b + 10) 3 ≤ 9) (hz : V (b + 9) = fun _ => 0) : Mt l X V yX1_settleAll cX1_settleAll 2 none 3 70 [.ref (wa X b)] (Qv X (fun V1 => V1 = hall n wd hi b V)) := by
  refine Mt.go (by decide) (Nat.le_of_ble_eq_true rfl) ?_
  intro pg ev s0 mi bl mt cd ls Rm ag Qq hR hQ E hI hG hS hl
  have hl : lv_has ls 2 [(0, .ref (wa X b))] := hl
  have hd := hs.2.2.2.1
  obtain ⟨hn1, hn2⟩ := dims.n hd
  obtain ⟨hb1, hb2⟩ := isD.ge hb
  rw [show V = sp V (b + 9) (V (b + 9)) from (sp_self _ _).symm] at hG
  refine x_iconst E dX1_settleAll_0 ?_
  refine x_istore_n E [(1, .int (jI 0)), (0, .ref (wa X b))] dX1_settleAll_1 hl (by decide) rfl (fun ls hl => ?_)
  have L2_1 : ∀ (N : Nat) (i : Int) (f : Int → Int) (B : Int → Bool), (0 ≤ i) → (i ≤ (n : Int)) → (DB f B) → (∀ d, B d = true → 0 ≤ d ∧ d < (n : Int)) → (∀ d : Int, 0 ≤ d → d < i → B d = true) → (((n : Int) - i).toNat) < N → ∀ (H : Heap) (locs : List Loc) (ls : Array Slot), GW X (sp V (b + 9) f) H → va_S (wA X) s0.heap H locs → lv_has ls 2 [(0, .ref (wa X b)), (1, .int (jI i))] → W pg l ev Rm s0 mi ag bl mt cd H locs 0 0 Qq (F0 mi 2 ls []) := by
    intro N
    induction N with
    | zero => intro i f B h0 h1 hf g2 g3 hN; exact absurd hN (Nat.not_lt_zero _)
    | succ N ih2 =>
      intro i f B h0 h1 hf g2 g3 hN H locs ls hG hS hl
      refine x_iload_n E dX1_settleAll_2 (lv_at hl 1 rfl) ?_
      refine x_aload_n E dX1_settleAll_3 (lv_at hl 0 rfl) ?_
      refine x_getr E hI hG (xd0 hX hb) cf1 1 (b + 1) rfl (by decide) kf_X1_45 dX1_settleAll_4 ?_
      refine x_alen E hI hG (xd1 hX hb) (by decide) dX1_settleAll_7 ?_
      refine x_icmp_ge E 25 dX1_settleAll_8 (by decide) (by unfold rg; omega) (by unfold rg; omega) (fun c8 => ?_) (fun c8 => ?_)
      · refine x_aload_n E dX1_settleAll_25 (lv_at hl 0 rfl) ?_
        refine x_cv hG hS (x_runV E hI hG hS (xd0 hX hb) cf1 rfl (c_X1_settle l hX hb (sp V (b + 9) f) (hs.sp (by omega) _) (V (b + 1)) (sp_n (by omega)) hps (V (b + 10) 3) (by rw [sp_n (by omega)]) hl9 (B := B) (by rw [sp_s]; exact hf) g2 (fun d d0 d1 _ => g3 d d0 (by omega))) mf_X1_settle km_X1_97 rfl hl rfl (Nat.le_of_ble_eq_true rfl) (by rw [hR]; exact ⟨Nat.le_of_ble_eq_true rfl, Nat.le_of_ble_eq_true rfl⟩) ⟨Nat.zero_le _, Nat.zero_le _⟩ dX1_settleAll_26) (fun V1 H locs hp hG hS => ?_)
        have eV := hp
        rw [eV] at hG
        exact r_v E hQ hG hS dX1_settleAll_29 (sp_back2 (by omega) _ _ _ hz)
      · refine x_aload_n E dX1_settleAll_11 (lv_at hl 0 rfl) ?_
        refine x_getr E hI hG (xd0 hX hb) cf1 8 (b + 8) rfl (by decide) kf_X1_12 dX1_settleAll_12 ?_
        refine x_iload_n E dX1_settleAll_15 (lv_at hl 1 rfl) ?_
        refine x_cv hG hS (x_runV E hI hG hS (xd8 hX hb) cf0 rfl (c_X0_add l hX hb (sp V (b + 9) f) (B := B) (by rw [sp_s]; exact hf) i (by omega)) mf_X0_add km_X1_94 rfl hl rfl (Nat.le_of_ble_eq_true rfl) (by rw [hR]; exact ⟨Nat.le_of_ble_eq_true rfl, Nat.le_of_ble_eq_true rfl⟩) ⟨Nat.zero_le _, Nat.zero_le _⟩ dX1_settleAll_16) (fun V1 H locs hp hG hS => ?_)
        obtain ⟨f2, eV, hf2⟩ := hp
        rw [sp_sp] at eV
        rw [eV] at hG
        refine x_iinc E (k := 1) [(1, .int (jI (i + 1))), (0, .ref (wa X b))] dX1_settleAll_19 hl rfl (by decide) rfl (fun ls hl => ?_)
        refine x_goto E 2 dX1_settleAll_22 (by decide) ?_
        exact ih2 (i + 1) f2 (bset B i true) (by omega) (by omega) hf2 (fun d q => by
                unfold bset at q
                split at q
                · omega
                · exact g2 d q) (fun d d0 d1 => by
                unfold bset
                split
                · rfl
                · exact g3 d d0 (by omega)) (by omega) _ _ _ hG hS (lv_sub hl [1, 0] rfl)
  exact L2_1 _ 0 (V (b + 9)) (fun _ => false) (by omega) (by omega) (DB.zero (fun i _ _ => by rw [hz])) (fun d q => by cases q) (fun d d0 d1 => by omega) (Nat.lt_succ_self _) _ _ _ hG hS (lv_sub hl [1, 0] rfl)
end
section
/-! ===== winds, shadows, lots: the words of a day ===== -/
def gow (wd hi w : Int) : Nat → Int → Int
  | 0, c => c
  | k + 1, c => if 0 ≤ gow wd hi w k c then nb wd hi (gow wd hi w k c) w else -1
def opp (w : Int) : Int := if w = 0 then 1 else if w = 1 then 0 else if w = 2 then 3 else 2
def shK (wd hi : Int) (h : Int → Int) (c w : Int) : Nat → Bool
  | 0 => false
  | k + 1 => shK wd hi h c w k || decide (0 ≤ gow wd hi (opp w) (k + 1) c ∧ ((k + 1 : Nat) : Int) ≤ h (gow wd hi (opp w) (k + 1) c) - h c)
def shd (wd hi : Int) (h : Int → Int) (c w : Int) : Bool := shK wd hi h c w 8
def nx (z : Int) : Int := z * 1103515245 + 12345
def du (z : Int) : Int := (((jI z).toBitVec.toNat / 65536 : Nat) : Int)
def dw (z m : Int) : Int := du z % m
theorem du_rg (z : Int) : 0 ≤ du z ∧ du z < 65536 := by
  unfold du
  have := (jI z).toBitVec.isLt
  omega
theorem dw_rg (z : Int) {m : Int} (h : 0 < m) : 0 ≤ dw z m ∧ dw z m < m := ⟨Int.emod_nonneg _ (by omega), Int.emod_lt_of_pos _ h⟩
theorem q_du (z : Int) : ((jI z).toUInt32 >>> ((jI 16).toUInt32 &&& Int32.toUInt32 31)).toInt32 = jI (du z) := by
  apply Int32.toBitVec_inj.1
  apply BitVec.eq_of_toNat_eq
  rw [pk_ushr (jI z) (jI 16) 16 (by decide)]
  unfold du
  rw [← j_nat]
  have := (jI z).toBitVec.isLt
  rw [pk_tn (by omega)]
theorem opp_rg {w : Int} (h0 : 0 ≤ w) (h1 : w < 4) : 0 ≤ opp w ∧ opp w < 4 := by unfold opp; split; omega; split; omega; split <;> omega
theorem q_opp {w : Int} (h0 : 0 ≤ w) (h1 : w < 4) : jI w ^^^ jI 1 = jI (opp w) := by
  rcases (show w = 0 ∨ w = 1 ∨ w = 2 ∨ w = 3 by omega) with rfl | rfl | rfl | rfl <;> decide
theorem gow_rg {n : Nat} {wd hi c w : Int} (hd : dims n wd hi) (h0 : -1 ≤ c) (h1 : c < (n : Int)) : ∀ k : Nat, -1 ≤ gow wd hi w k c ∧ gow wd hi w k c < (n : Int)
  | 0 => ⟨h0, h1⟩
  | k + 1 => by
    have ih := gow_rg (w := w) hd h0 h1 k
    show -1 ≤ (if 0 ≤ gow wd hi w k c then nb wd hi (gow wd hi w k c) w else -1) ∧ (if 0 ≤ gow wd hi w k c then nb wd hi (gow wd hi w k c) w else -1) < (n : Int)
    split
    · exact nb_range hd (by assumption) ih.2
    · have := dims.n hd; omega
theorem gow_no {wd hi w c : Int} {k : Nat} (h : gow wd hi w k c < 0) : ∀ j : Nat, gow wd hi w (k + (j + 1)) c = -1
  | 0 => by show (if 0 ≤ gow wd hi w k c then _ else -1) = -1; rw [if_neg (by omega)]
  | j + 1 => by
    have ih := gow_no h j
    show (if 0 ≤ gow wd hi w (k + (j + 1)) c then _ else -1) = -1
    rw [ih, if_neg (by omega)]
theorem shK_no {wd hi : Int} {h : Int → Int} {c w : Int} {k : Nat} (hk : shK wd hi h c w k = false) (hn : gow wd hi (opp w) (k + 1) c < 0) : ∀ j : Nat, shK wd hi h c w (k + j) = false
  | 0 => hk
  | j + 1 => by
    have ih := shK_no hk hn j
    show (shK wd hi h c w (k + j) || _) = false
    rw [ih, Bool.false_or, decide_eq_false_iff_not]
    intro z
    have e : gow wd hi (opp w) (k + j + 1) c < 0 := by
      cases j with
      | zero => exact hn
      | succ j => have := gow_no hn j; rw [show k + (j + 1) + 1 = k + 1 + (j + 1) by omega, this]; omega
    exact Int.not_le.mpr e z.1
theorem shK_yes {wd hi : Int} {h : Int → Int} {c w : Int} {k : Nat} (hk : shK wd hi h c w k = true) : ∀ j : Nat, shK wd hi h c w (k + j) = true
  | 0 => hk
  | j + 1 => by
    show (shK wd hi h c w (k + j) || _) = true
    rw [shK_yes hk j, Bool.true_or]
/-! the day of a shore at place b: memory to memory -/
def drM (b : Nat) (V : Mem) : Mem := st V b 11 (nx (V b 11))
/-- is the grain of c lifted by w -/
def lfB (wd hi : Int) (b : Nat) (w c : Int) (V : Mem) : Bool := !decide (V (b + 1) c = 0) && !decide (0 < V (b + 6) c) && !shd wd hi (V (b + 1)) c w && (decide (V (b + 3) c = 0) || !decide (dw (nx (V b 11)) 100 < V (b + 3) c))
def lfM (wd hi : Int) (b : Nat) (w c : Int) (V : Mem) : Mem := if V (b + 1) c = 0 ∨ 0 < V (b + 6) c ∨ shd wd hi (V (b + 1)) c w = true ∨ V (b + 3) c = 0 then V else drM b V
/-- is it laid at c -/
def ldB (wd hi : Int) (b : Nat) (w c : Int) (V : Mem) : Bool := shd wd hi (V (b + 1)) c w || decide (V (b + 1) c < V (b + 4) c) || decide (dw (nx (V b 11)) 100 < if V (b + 1) c = 0 then V (b + 10) 2 else V (b + 10) 1)
def ldM (wd hi : Int) (b : Nat) (w c : Int) (V : Mem) : Mem := if shd wd hi (V (b + 1)) c w = true ∨ V (b + 1) c < V (b + 4) c then V else drM b V
def landR (wd hi : Int) (b : Nat) (w : Int) : Nat → Int → Mem → Int × Mem
  | 0, a, V => (a, V)
  | k + 1, a, V => if gow wd hi w (V (b + 10) 0).toNat a < 0 then (-1, V) else if k = 0 then (gow wd hi w (V (b + 10) 0).toNat a, V) else if ldB wd hi b w (gow wd hi w (V (b + 10) 0).toNat a) V = true then (gow wd hi w (V (b + 10) 0).toNat a, ldM wd hi b w (gow wd hi w (V (b + 10) 0).toNat a) V) else landR wd hi b w k (gow wd hi w (V (b + 10) 0).toNat a) (ldM wd hi b w (gow wd hi w (V (b + 10) 0).toNat a) V)
def loseM (b : Nat) (w : Int) (V : Mem) : Mem := if w = 0 then st V b 14 (V b 14 + 1) else st V b 13 (V b 13 + 1)
noncomputable def flyM (n : Nat) (wd hi : Int) (b : Nat) (w c : Int) (V : Mem) : Mem :=
  if (landR wd hi b w 10 c V).1 < 0 then loseM b w (landR wd hi b w 10 c V).2 else hput n wd hi b (landR wd hi b w 10 c V).1 ((landR wd hi b w 10 c V).2 (b + 1) (landR wd hi b w 10 c V).1 + 1) (landR wd hi b w 10 c V).2
noncomputable def liftM (n : Nat) (wd hi : Int) (b : Nat) (w : Int) (V : Mem) : Mem :=
  if lfB wd hi b w (dw (nx (V b 11)) (n : Int)) (drM b V) = true then
    flyM n wd hi b w (dw (nx (V b 11)) (n : Int)) (hput n wd hi b (dw (nx (V b 11)) (n : Int)) (V (b + 1) (dw (nx (V b 11)) (n : Int)) - 1) (lfM wd hi b w (dw (nx (V b 11)) (n : Int)) (drM b V)))
  else lfM wd hi b w (dw (nx (V b 11)) (n : Int)) (drM b V)
def itM (f : Mem → Mem) : Nat → Mem → Mem
  | 0, V => V
  | k + 1, V => f (itM f k V)
noncomputable def supM (n : Nat) (wd hi : Int) (b : Nat) (V : Mem) : Mem := hput n wd hi b (dw (nx (V b 11)) hi * wd) (V (b + 1) (dw (nx (V b 11)) hi * wd) + 1) (drM b (st V b 15 (V b 15 + 1)))
def wnd (w : Nat) (V : Mem) : Int := if V w 2 = 0 then 4 else V (w + 1) (V w 3)
/-- the winds' next day -/
def pdM (w : Nat) (V : Mem) : Mem := if V w 2 = 0 then V else if V w 4 + 1 < V (w + 2) (V w 3) then st V w 4 (V w 4 + 1) else st (st V w 4 0) w 3 (if V w 3 + 1 < V w 2 then V w 3 + 1 else 0)
def reM (n : Nat) (b : Nat) (V : Mem) : Mem := sp V (b + 7) (fun c => if 0 ≤ c ∧ c < (n : Int) ∧ 0 < V (b + 6) c ∧ V (b + 7) c = -1 ∧ V (b + 6) c ≤ V (b + 1) c then V b 12 else V (b + 7) c)
def grw (d : Int) : Int := if d < -2 then -20 else if d < 0 then -5 else if d = 0 then 1 else if d ≤ 3 then 6 else if d ≤ 6 then 2 else -30
def seM (n : Nat) (b : Nat) (V : Mem) : Mem := sp (sp V (b + 3) (fun c => if 0 ≤ c ∧ c < (n : Int) ∧ 0 < V (b + 3) c then max 0 (min 100 (V (b + 3) c + grw (V (b + 1) c - V (b + 2) c) - V (b + 5) c)) else V (b + 3) c)) (b + 2) (fun c => if 0 ≤ c ∧ c < (n : Int) then V (b + 1) c else V (b + 2) c)
noncomputable def blM (n : Nat) (wd hi : Int) (b : Nat) (w : Int) (V : Mem) : Mem := itM (liftM n wd hi b w) n V
noncomputable def dayA (n : Nat) (wd hi : Int) (b : Nat) (V : Mem) : Mem := if wnd (b + 11) V = 0 then itM (supM n wd hi b) (V (b + 10) 4).toNat V else V
noncomputable def dayB (n : Nat) (wd hi : Int) (b : Nat) (w : Int) (V : Mem) : Mem := if w = 4 then V else blM n wd hi b w V
def dayC (n : Nat) (b : Nat) (V : Mem) : Mem := reM n b (st (pdM (b + 11) V) b 12 (pdM (b + 11) V b 12 + 1))
def dayE (n : Nat) (b : Nat) (V : Mem) : Mem := if V b 12 % 30 = 0 then seM n b V else V
noncomputable def dayM (n : Nat) (wd hi : Int) (b : Nat) (V : Mem) : Mem := dayE n b (dayC n b (dayB n wd hi b (wnd (b + 11) V) (dayA n wd hi b V)))
noncomputable def psM (n : Nat) (wd hi : Int) (b : Nat) (k : Nat) (V : Mem) : Mem := itM (dayM n wd hi b) k V
/-! what holds of a shore at place b -/
def DR (V : Mem) (n b : Nat) : Prop := bnd n 0 9500 (V (b + 2)) ∧ bnd n 0 100 (V (b + 3)) ∧ bnd n 0 99 (V (b + 4)) ∧ bnd n 0 20 (V (b + 5)) ∧ bnd n 0 999 (V (b + 6)) ∧ bnd n (-1) 3000 (V (b + 7)) ∧ (1 ≤ V (b + 10) 0 ∧ V (b + 10) 0 ≤ 5) ∧ (0 ≤ V (b + 10) 1 ∧ V (b + 10) 1 ≤ 100) ∧ (0 ≤ V (b + 10) 2 ∧ V (b + 10) 2 ≤ 100) ∧ (0 ≤ V (b + 10) 4 ∧ V (b + 10) 4 ≤ 20)
def SK (V : Mem) (w : Nat) : Prop := 0 ≤ V w 2 ∧ V w 2 ≤ 20 ∧ ((V w 2 = 0 ∧ V w 3 = 0) ∨ (0 ≤ V w 3 ∧ V w 3 < V w 2 ∧ 0 ≤ V w 4 ∧ V w 4 < V (w + 2) (V w 3))) ∧ ∀ k : Int, 0 ≤ k → k < V w 2 → (0 ≤ V (w + 1) k ∧ V (w + 1) k ≤ 4) ∧ 1 ≤ V (w + 2) k ∧ V (w + 2) k ≤ 60
def Inv (V : Mem) (n : Nat) (wd hi : Int) (b : Nat) : Prop := DK V n wd hi b (20 * V b 12) ∧ DR V n b ∧ SK V (b + 11) ∧ 0 ≤ V b 12 ∧ V b 12 ≤ 3000
/-- mid-day: the heaps' bound told apart -/
def Mid (V : Mem) (n : Nat) (wd hi : Int) (b : Nat) (t : Int) : Prop := DK V n wd hi b t ∧ DR V n b ∧ SK V (b + 11) ∧ 0 ≤ V b 12 ∧ V b 12 ≤ 3000
end
section
theorem shK_s {wd hi : Int} {h : Int → Int} {c w k : Int} (h1 : 1 ≤ k) : shK wd hi h c w k.toNat = (shK wd hi h c w (k - 1).toNat || decide (0 ≤ gow wd hi (opp w) k.toNat c ∧ k ≤ h (gow wd hi (opp w) k.toNat c) - h c)) := by
  obtain ⟨j, rfl⟩ : ∃ j : Nat, k = (j : Int) + 1 := ⟨(k - 1).toNat, by omega⟩
  rw [show ((j : Int) + 1).toNat = j + 1 by omega, show ((j : Int) + 1 - 1).toNat = j by omega]
  rfl
theorem gow_s {wd hi w c k : Int} (h0 : 0 ≤ k) : gow wd hi w (k + 1).toNat c = if 0 ≤ gow wd hi w k.toNat c then nb wd hi (gow wd hi w k.toNat c) w else -1 := by
  rw [show (k + 1).toNat = k.toNat + 1 by omega]; rfl
theorem b2i_b01 (q : Bool) : b2i q = b01 (q = true) := by unfold b2i b01; rfl
theorem b2i_c (q : Bool) : b2i q = 0 ∨ b2i q = 1 := by unfold b2i; split <;> simp
theorem b2i_rg (q : Bool) : rg (b2i q) := by unfold b2i rg; split <;> omega
theorem b2i_0 {q : Bool} : b2i q = 0 ↔ q = false := by cases q <;> simp [b2i]
theorem b2i_1 {q : Bool} : b2i q = 1 ↔ q = true := by cases q <;> simp [b2i]
theorem b2i_ne {q : Bool} : b2i q ≠ 0 ↔ q = true := by cases q <;> simp [b2i]

set_option maxHeartbeats 4000000 in
set_option maxRecDepth 100000 in
theorem c_X1_isInShadow (l : Launch) {X : We} {n b : Nat} (hX : isX X n) (hb : isD b) {wd hi : Int} (V : Mem) (hs : Sh V n wd hi) (h : Int → Int) (hV : V (b + 1) = h) (hh : bnd n 0 9500 h) (c w : Int) (hc : 0 ≤ c ∧ c < (n : Int)) (hw : 0 ≤ w ∧ w < 4) : Mt l X V yX1_isInShadow cX1_isInShadow 6 (some .boolean) 1 23 [.ref (wa X b), .int (jI c), .int (jI w)] (Qi X (fun z V1 => z = b2i (shd wd hi h c w) ∧ V1 = V)) := by
  refine Mt.go (by decide) (Nat.le_of_ble_eq_true rfl) ?_
  intro pg ev s0 mi bl mt cd ls Rm ag Qq hR hQ E hI hG hS hl
  have hl : lv_has ls 6 [(0, .ref (wa X b)), (1, .int (jI c)), (2, .int (jI w))] := hl
  have hd := hs.2.2.2.1
  obtain ⟨hn1, hn2⟩ := dims.n hd
  obtain ⟨hb1, hb2⟩ := isD.ge hb
  refine x_iload_n E dX1_isInShadow_0 (lv_at hl 2 rfl) ?_
  refine x_iconst E dX1_isInShadow_1 ?_
  refine lv_ixor E.1 E.2.1 dX1_isInShadow_2 ?_
  refine x_rawi (opp w) (q_opp hw.1 hw.2) ?_
  refine x_istore_n E [(3, .int (jI (opp w))), (0, .ref (wa X b)), (1, .int (jI c)), (2, .int (jI w))] dX1_isInShadow_3 hl (by decide) rfl (fun ls hl => ?_)
  refine x_iload_n E dX1_isInShadow_4 (lv_at hl 2 rfl) ?_
  refine x_istore E [(4, .int (jI c)), (3, .int (jI (opp w))), (0, .ref (wa X b)), (1, .int (jI c)), (2, .int (jI w))] dX1_isInShadow_5 hl (by decide) rfl (fun ls hl => ?_)
  refine x_iconst E dX1_isInShadow_7 ?_
  refine x_istore E [(5, .int (jI 1)), (4, .int (jI c)), (3, .int (jI (opp w))), (0, .ref (wa X b)), (1, .int (jI c)), (2, .int (jI w))] dX1_isInShadow_8 hl (by decide) rfl (fun ls hl => ?_)
  have L10_1 : ∀ (N : Nat) (k : Int) (a : Int), (1 ≤ k) → (k ≤ 9) → (a = gow wd hi (opp w) (k - 1).toNat c) → (0 ≤ a) → (shK wd hi h c w (k - 1).toNat = false) → ((9 - k).toNat) < N → ∀ (H : Heap) (locs : List Loc) (ls : Array Slot), GW X V H → va_S (wA X) s0.heap H locs → lv_has ls 6 [(0, .ref (wa X b)), (1, .int (jI c)), (3, .int (jI (opp w))), (4, .int (jI a)), (5, .int (jI k))] → W pg l ev Rm s0 mi ag bl mt cd H locs 0 0 Qq (F0 mi 10 ls []) := by
    intro N
    induction N with
    | zero => intro k a k1 k2 ea ha hsk hN; exact absurd hN (Nat.not_lt_zero _)
    | succ N ih10 =>
      intro k a k1 k2 ea ha hsk hN H locs ls hG hS hl
      refine x_iload E dX1_isInShadow_10 (lv_at hl 4 rfl) ?_
      refine x_bipush E dX1_isInShadow_12 (by decide) ?_
      refine x_icmp_gt E 64 dX1_isInShadow_14 (by decide) (by unfold rg; omega) (by unfold rg; omega) (fun c14 => ?_) (fun c14 => ?_)
      · refine x_iconst E dX1_isInShadow_64 ?_
        exact r_z E hQ hG hS dX1_isInShadow_65 (Or.inl rfl) (⟨by rw [show (k - 1).toNat = 8 by omega] at hsk; unfold shd; rw [hsk]; rfl, rfl⟩)
      · have hr := gow_rg (w := opp w) hd (show -1 ≤ c by omega) hc.2 (k - 1).toNat
        have hr2 := gow_rg (w := opp w) hd (show -1 ≤ c by omega) hc.2 k.toNat
        have hst := gow_s (wd := wd) (hi := hi) (w := opp w) (c := c) (k := k - 1) (by omega)
        rw [show k - 1 + 1 = k by omega, ← ea, if_pos ha] at hst
        rw [← ea] at hr
        have ho := opp_rg hw.1 hw.2
        have hss := shK_s (wd := wd) (hi := hi) (h := h) (c := c) (w := w) k1
        refine x_aload_n E dX1_isInShadow_17 (lv_at hl 0 rfl) ?_
        refine x_getr E hI hG (xd0 hX hb) cf1 0 1 rfl (by decide) kf_X1_36 dX1_isInShadow_18 ?_
        refine x_iload E dX1_isInShadow_21 (lv_at hl 3 rfl) ?_
        refine x_iload_n E dX1_isInShadow_23 (lv_at hl 2 rfl) ?_
        refine x_ci hG hS (x_runV E hI hG hS (xs0 hX) cf3 rfl (c_X3_beside l hX V hs a (opp w) ⟨hr.1, hr.2⟩ ho) mf_X3_beside km_X1_119 rfl hl rfl (Nat.le_of_ble_eq_true rfl) (by rw [hR]; exact ⟨Nat.le_of_ble_eq_true rfl, Nat.le_of_ble_eq_true rfl⟩) ⟨Nat.zero_le _, Nat.zero_le _⟩ dX1_isInShadow_24) (fun z1 V1 H locs hp hG hS => ?_)
        obtain ⟨ez, eV⟩ := hp
        rw [if_pos ha, ← hst] at ez
        rw [eV] at hG
        rw [ez]
        refine x_istore E [(4, .int (jI (gow wd hi (opp w) k.toNat c))), (0, .ref (wa X b)), (1, .int (jI c)), (3, .int (jI (opp w))), (5, .int (jI k))] dX1_isInShadow_27 hl (by decide) rfl (fun ls hl => ?_)
        refine x_iload E dX1_isInShadow_29 (lv_at hl 0 rfl) ?_
        refine x_iconst E dX1_isInShadow_31 ?_
        refine x_icmp_ne E 37 dX1_isInShadow_32 (by decide) (by unfold rg; omega) (by unfold rg; omega) (fun c32 => ?_) (fun c32 => ?_)
        · have hv1 := hh (gow wd hi (opp w) k.toNat c) (by omega) (by omega)
          have hv2 := hh c hc.1 hc.2
          refine x_aload_n E dX1_isInShadow_37 (lv_at hl 1 rfl) ?_
          refine x_getr E hI hG (xd0 hX hb) cf1 1 (b + 1) rfl (by decide) kf_X1_45 dX1_isInShadow_38 ?_
          refine x_iload E dX1_isInShadow_41 (lv_at hl 0 rfl) ?_
          refine x_iald E hI hG (xd1 hX hb) (h (gow wd hi (opp w) k.toNat c)) (by rw [hV]) (by omega) dX1_isInShadow_43 ?_
          refine x_aload_n E dX1_isInShadow_44 (lv_at hl 1 rfl) ?_
          refine x_getr E hI hG (xd0 hX hb) cf1 1 (b + 1) rfl (by decide) kf_X1_45 dX1_isInShadow_45 ?_
          refine x_iload_n E dX1_isInShadow_48 (lv_at hl 2 rfl) ?_
          refine x_iald E hI hG (xd1 hX hb) (h c) (by rw [hV]) (by omega) dX1_isInShadow_49 ?_
          refine x_isub E dX1_isInShadow_50 ?_
          refine x_iload E dX1_isInShadow_51 (lv_at hl 4 rfl) ?_
          refine x_icmp_lt E 58 dX1_isInShadow_53 (by decide) (by unfold rg; omega) (by unfold rg; omega) (fun c53 => ?_) (fun c53 => ?_)
          · refine x_iinc E (k := 4) [(5, .int (jI (k + 1))), (4, .int (jI (gow wd hi (opp w) k.toNat c))), (0, .ref (wa X b)), (1, .int (jI c)), (3, .int (jI (opp w)))] dX1_isInShadow_58 hl rfl (by decide) rfl (fun ls hl => ?_)
            refine x_goto E 10 dX1_isInShadow_61 (by decide) ?_
            exact ih10 (k + 1) (gow wd hi (opp w) k.toNat c) (by omega) (by omega) (by rw [show k + 1 - 1 = k by omega]) (by omega) (by rw [show k + 1 - 1 = k by omega, hss, hsk, Bool.false_or, decide_eq_false_iff_not]; omega) (by omega) _ _ _ hG hS (lv_sub hl [2, 3, 4, 1, 0] rfl)
          · refine x_iconst E dX1_isInShadow_56 ?_
            exact r_z E hQ hG hS dX1_isInShadow_57 (Or.inr rfl) (⟨by
                      have : shK wd hi h c w k.toNat = true := by rw [hss, hsk, Bool.false_or, decide_eq_true_iff]; omega
                      have := shK_yes this (8 - k.toNat)
                      rw [show k.toNat + (8 - k.toNat) = 8 by omega] at this
                      unfold shd; rw [this]; rfl, rfl⟩)
        · refine x_iconst E dX1_isInShadow_35 ?_
          exact r_z E hQ hG hS dX1_isInShadow_36 (Or.inl rfl) (⟨by
                    have := shK_no (k := (k - 1).toNat) hsk (by rw [show (k - 1).toNat + 1 = k.toNat by omega, c32]; omega) (8 - (k - 1).toNat)
                    rw [show (k - 1).toNat + (8 - (k - 1).toNat) = 8 by omega] at this
                    unfold shd; rw [this]; rfl, rfl⟩)
  exact L10_1 _ 1 c (by omega) (by omega) rfl hc.1 rfl (Nat.lt_succ_self _) _ _ _ hG hS (lv_sub hl [3, 4, 2, 1, 0] rfl)

set_option maxHeartbeats 4000000 in
set_option maxRecDepth 100000 in
theorem c_X1_draw (l : Launch) {X : We} {n b : Nat} (hX : isX X n) (hb : isD b) (V : Mem) (m : Int) (hm : 0 < m ∧ m < 65536) : Mt l X V yX1_draw cX1_draw 2 (some .int) 0 0 [.ref (wa X b), .int (jI m)] (Qi X (fun z V1 => z = dw (nx (V b 11)) m ∧ V1 = drM b V)) := by
  refine Mt.go (by decide) (Nat.le_of_ble_eq_true rfl) ?_
  intro pg ev s0 mi bl mt cd ls Rm ag Qq hR hQ E hI hG hS hl
  have hl : lv_has ls 2 [(0, .ref (wa X b)), (1, .int (jI m))] := hl
  refine x_aload_n E dX1_draw_0 (lv_at hl 0 rfl) ?_
  refine x_aload_n E dX1_draw_1 (lv_at hl 0 rfl) ?_
  refine x_geti E hI hG (xd0 hX hb) cf1 11 (V b 11) rfl (by decide) rfl kf_X1_32 dX1_draw_2 ?_
  refine x_ldc E 1103515245 kk_X1_134 (by decide) dX1_draw_5 ?_
  refine x_imul E dX1_draw_7 ?_
  refine x_sipush E dX1_draw_8 (by decide) ?_
  refine x_iadd E dX1_draw_11 ?_
  refine x_puti E hI hG hS (xd0 hX hb) cf1 11 11 rfl rfl (by decide) rfl rfl kf_X1_32 dX1_draw_12 (fun H locs hG hS => ?_)
  rw [show (st V b 11 (((V b 11) * 1103515245) + 12345)) = (drM b V) from rfl] at hG
  refine x_iload_n E dX1_draw_15 (lv_at hl 1 rfl) ?_
  refine x_if_le E 31 dX1_draw_16 (by decide) (by unfold rg; omega) (fun c16 => ?_) (fun c16 => ?_)
  · omega
  · refine x_aload_n E dX1_draw_19 (lv_at hl 0 rfl) ?_
    refine x_geti E hI hG (xd0 hX hb) cf1 11 ((nx (V b 11))) rfl (by decide) (st_s _ _ _ _) kf_X1_32 dX1_draw_20 ?_
    refine x_bipush E dX1_draw_23 (by decide) ?_
    refine lv_iushr E.1 E.2.1 dX1_draw_25 rfl ?_
    refine x_rawi (du (nx (V b 11))) (q_du _) ?_
    have hdu := du_rg (nx (V b 11))
    refine x_iload_n E dX1_draw_26 (lv_at hl 1 rfl) ?_
    refine x_irem E (by omega) (by omega) dX1_draw_27 ?_
    refine x_goto E 32 dX1_draw_28 (by decide) ?_
    exact r_i E hQ hG hS dX1_draw_32 (⟨rfl, rfl⟩)

set_option maxHeartbeats 4000000 in
set_option maxRecDepth 100000 in
theorem c_X1_afterHop (l : Launch) {X : We} {n b : Nat} (hX : isX X n) (hb : isD b) {wd hi : Int} (V : Mem) (hs : Sh V n wd hi) (c w : Int) (hc : 0 ≤ c ∧ c < (n : Int)) (hw : 0 ≤ w ∧ w < 4) (hho : 1 ≤ V (b + 10) 0 ∧ V (b + 10) 0 ≤ 5) : Mt l X V yX1_afterHop cX1_afterHop 5 (some .int) 1 23 [.ref (wa X b), .int (jI c), .int (jI w)] (Qi X (fun z V1 => z = gow wd hi w (V (b + 10) 0).toNat c ∧ V1 = V)) := by
  refine Mt.go (by decide) (Nat.le_of_ble_eq_true rfl) ?_
  intro pg ev s0 mi bl mt cd ls Rm ag Qq hR hQ E hI hG hS hl
  have hl : lv_has ls 5 [(0, .ref (wa X b)), (1, .int (jI c)), (2, .int (jI w))] := hl
  have hd := hs.2.2.2.1
  obtain ⟨hn1, hn2⟩ := dims.n hd
  obtain ⟨hb1, hb2⟩ := isD.ge hb
  refine x_iload_n E dX1_afterHop_0 (lv_at hl 1 rfl) ?_
  refine x_istore_n E [(3, .int (jI c)), (0, .ref (wa X b)), (1, .int (jI c)), (2, .int (jI w))] dX1_afterHop_1 hl (by decide) rfl (fun ls hl => ?_)
  refine x_iconst E dX1_afterHop_2 ?_
  refine x_istore E [(4, .int (jI 0)), (3, .int (jI c)), (0, .ref (wa X b)), (1, .int (jI c)), (2, .int (jI w))] dX1_afterHop_3 hl (by decide) rfl (fun ls hl => ?_)
  have L5_1 : ∀ (N : Nat) (i : Int), (0 ≤ i) → (i ≤ V (b + 10) 0) → ((V (b + 10) 0 - i).toNat) < N → ∀ (H : Heap) (locs : List Loc) (ls : Array Slot), GW X V H → va_S (wA X) s0.heap H locs → lv_has ls 5 [(0, .ref (wa X b)), (2, .int (jI w)), (3, .int (jI (gow wd hi w i.toNat c))), (4, .int (jI i))] → W pg l ev Rm s0 mi ag bl mt cd H locs 0 0 Qq (F0 mi 5 ls []) := by
    intro N
    induction N with
    | zero => intro i i0 i1 hN; exact absurd hN (Nat.not_lt_zero _)
    | succ N ih5 =>
      intro i i0 i1 hN H locs ls hG hS hl
      refine x_iload E dX1_afterHop_5 (lv_at hl 3 rfl) ?_
      refine x_aload_n E dX1_afterHop_7 (lv_at hl 0 rfl) ?_
      refine x_getr E hI hG (xd0 hX hb) cf1 9 (b + 10) rfl (by decide) kf_X1_22 dX1_afterHop_8 ?_
      refine x_iconst E dX1_afterHop_11 ?_
      refine x_iald E hI hG (xd10 hX hb) (V (b + 10) 0) rfl (by omega) dX1_afterHop_12 ?_
      refine x_icmp_ge E 32 dX1_afterHop_13 (by decide) (by unfold rg; omega) (by unfold rg; omega) (fun c13 => ?_) (fun c13 => ?_)
      · refine x_iload_n E dX1_afterHop_32 (lv_at hl 2 rfl) ?_
        exact r_i E hQ hG hS dX1_afterHop_33 (⟨by rw [show i = V (b + 10) 0 by omega], rfl⟩)
      · have hr := gow_rg (w := w) hd (show -1 ≤ c by omega) hc.2 i.toNat
        have hst := gow_s (wd := wd) (hi := hi) (w := w) (c := c) i0
        refine x_aload_n E dX1_afterHop_16 (lv_at hl 0 rfl) ?_
        refine x_getr E hI hG (xd0 hX hb) cf1 0 1 rfl (by decide) kf_X1_36 dX1_afterHop_17 ?_
        refine x_iload_n E dX1_afterHop_20 (lv_at hl 2 rfl) ?_
        refine x_iload_n E dX1_afterHop_21 (lv_at hl 1 rfl) ?_
        refine x_ci hG hS (x_runV E hI hG hS (xs0 hX) cf3 rfl (c_X3_beside l hX V hs (gow wd hi w i.toNat c) w ⟨hr.1, hr.2⟩ hw) mf_X3_beside km_X1_119 rfl hl rfl (Nat.le_of_ble_eq_true rfl) (by rw [hR]; exact ⟨Nat.le_of_ble_eq_true rfl, Nat.le_of_ble_eq_true rfl⟩) ⟨Nat.zero_le _, Nat.zero_le _⟩ dX1_afterHop_22) (fun z1 V1 H locs hp hG hS => ?_)
        obtain ⟨ez, eV⟩ := hp
        rw [← hst] at ez
        rw [eV] at hG
        rw [ez]
        refine x_istore_n E [(3, .int (jI (gow wd hi w (i + 1).toNat c))), (0, .ref (wa X b)), (2, .int (jI w)), (4, .int (jI i))] dX1_afterHop_25 hl (by decide) rfl (fun ls hl => ?_)
        refine x_iinc E (k := 3) [(4, .int (jI (i + 1))), (3, .int (jI (gow wd hi w (i + 1).toNat c))), (0, .ref (wa X b)), (2, .int (jI w))] dX1_afterHop_26 hl rfl (by decide) rfl (fun ls hl => ?_)
        refine x_goto E 5 dX1_afterHop_29 (by decide) ?_
        exact ih5 (i + 1) (by omega) (by omega) (by omega) _ _ _ hG hS (lv_sub hl [2, 3, 1, 0] rfl)
  exact L5_1 _ 0 (by omega) (by omega) (Nat.lt_succ_self _) _ _ _ hG hS (lv_sub hl [2, 4, 1, 0] rfl)

set_option maxHeartbeats 4000000 in
set_option maxRecDepth 100000 in
theorem c_X1_isLaid (l : Launch) {X : We} {n b : Nat} (hX : isX X n) (hb : isD b) {wd hi t : Int} (V : Mem) (hk : Mid V n wd hi b t) (c w : Int) (hc : 0 ≤ c ∧ c < (n : Int)) (hw : 0 ≤ w ∧ w < 4) : Mt l X V yX1_isLaid cX1_isLaid 3 (some .boolean) 2 48 [.ref (wa X b), .int (jI c), .int (jI w)] (Qi X (fun z V1 => z = b2i (ldB wd hi b w c V) ∧ V1 = ldM wd hi b w c V)) := by
  refine Mt.go (by decide) (Nat.le_of_ble_eq_true rfl) ?_
  intro pg ev s0 mi bl mt cd ls Rm ag Qq hR hQ E hI hG hS hl
  have hl : lv_has ls 3 [(0, .ref (wa X b)), (1, .int (jI c)), (2, .int (jI w))] := hl
  obtain ⟨⟨hs, hh, hz⟩, ⟨r2, r3, r4, r5, r6, r7, r8, r9, r10, r11⟩, hsk, hday⟩ := hk
  have hd := hs.2.2.2.1
  have hbn : bnd n 0 9500 (V (b + 1)) := hh.ps hd |>.1
  obtain ⟨hn1, hn2⟩ := dims.n hd
  obtain ⟨hb1, hb2⟩ := isD.ge hb
  have L24_1 : (shd wd hi (V (b + 1)) c w = true ∨ V (b + 1) c < V (b + 4) c) → ∀ (H : Heap) (locs : List Loc) (ls : Array Slot), GW X V H → va_S (wA X) s0.heap H locs → lv_has ls 3 [] → W pg l ev Rm s0 mi ag bl mt cd H locs 0 0 Qq (F0 mi 24 ls []) := by
    intro  hy H locs ls hG hS hl
    refine x_iconst E dX1_isLaid_24 ?_
    exact r_z E hQ hG hS dX1_isLaid_25 (Or.inr rfl) (⟨by
          unfold ldB
          rcases hy with q | q
          · rw [q]; rfl
          · rw [decide_eq_true q, Bool.or_true, Bool.true_or]; rfl, by unfold ldM; rw [if_pos hy]⟩)
  refine x_aload_n E dX1_isLaid_0 (lv_at hl 0 rfl) ?_
  refine x_iload_n E dX1_isLaid_1 (lv_at hl 1 rfl) ?_
  refine x_iload_n E dX1_isLaid_2 (lv_at hl 2 rfl) ?_
  refine x_ci hG hS (x_runV E hI hG hS (xd0 hX hb) cf1 rfl (c_X1_isInShadow l hX hb V hs (V (b + 1)) rfl hbn c w hc hw) mf_X1_isInShadow km_X1_100 rfl hl rfl (Nat.le_of_ble_eq_true rfl) (by rw [hR]; exact ⟨Nat.le_of_ble_eq_true rfl, Nat.le_of_ble_eq_true rfl⟩) ⟨Nat.zero_le _, Nat.zero_le _⟩ dX1_isLaid_3) (fun z1 V1 H locs hp hG hS => ?_)
  obtain ⟨ez, eV⟩ := hp
  rw [eV] at hG
  rw [ez]
  refine x_if_ne E 24 dX1_isLaid_6 (by decide) (b2i_rg _) (fun c6 => ?_) (fun c6 => ?_)
  · exact L24_1  (Or.inl (b2i_ne.mp c6)) _ _ _ hG hS (lv_sub hl [] rfl)
  · have hv1 := hbn c hc.1 hc.2
    have hv2 := r4 c hc.1 hc.2
    have hsf : shd wd hi (V (b + 1)) c w = false := b2i_0.mp c6
    refine x_aload_n E dX1_isLaid_9 (lv_at hl 0 rfl) ?_
    refine x_getr E hI hG (xd0 hX hb) cf1 1 (b + 1) rfl (by decide) kf_X1_45 dX1_isLaid_10 ?_
    refine x_iload_n E dX1_isLaid_13 (lv_at hl 1 rfl) ?_
    refine x_iald E hI hG (xd1 hX hb) (V (b + 1) c) rfl (by omega) dX1_isLaid_14 ?_
    refine x_aload_n E dX1_isLaid_15 (lv_at hl 0 rfl) ?_
    refine x_getr E hI hG (xd0 hX hb) cf1 4 (b + 4) rfl (by decide) kf_X1_54 dX1_isLaid_16 ?_
    refine x_iload_n E dX1_isLaid_19 (lv_at hl 1 rfl) ?_
    refine x_iald E hI hG (xd4 hX hb) (V (b + 4) c) rfl (by omega) dX1_isLaid_20 ?_
    refine x_icmp_ge E 26 dX1_isLaid_21 (by decide) (by unfold rg; omega) (by unfold rg; omega) (fun c21 => ?_) (fun c21 => ?_)
    · refine x_aload_n E dX1_isLaid_26 (lv_at hl 0 rfl) ?_
      refine x_bipush E dX1_isLaid_27 (by decide) ?_
      refine x_ci hG hS (x_runV E hI hG hS (xd0 hX hb) cf1 rfl (c_X1_draw l hX hb V 100 (by omega)) mf_X1_draw km_X1_157 rfl hl rfl (Nat.le_of_ble_eq_true rfl) (by rw [hR]; exact ⟨Nat.le_of_ble_eq_true rfl, Nat.le_of_ble_eq_true rfl⟩) ⟨Nat.zero_le _, Nat.zero_le _⟩ dX1_isLaid_29) (fun z1 V1 H locs hp hG hS => ?_)
      obtain ⟨ez, eV⟩ := hp
      rw [eV] at hG
      rw [ez]
      have hdw := dw_rg (nx (V b 11)) (show (0 : Int) < 100 by omega)
      have hno : ¬ (shd wd hi (V (b + 1)) c w = true ∨ V (b + 1) c < V (b + 4) c) := by rw [hsf]; simp; omega
      have L56_2 : ∀ (y : Int), (y = if V (b + 1) c = 0 then V (b + 10) 2 else V (b + 10) 1) → ∀ (H : Heap) (locs : List Loc) (ls : Array Slot), GW X (drM b V) H → va_S (wA X) s0.heap H locs → lv_has ls 3 [] → W pg l ev Rm s0 mi ag bl mt cd H locs 0 0 Qq (F0 mi 56 ls [.int (jI y), .int (jI (dw (nx (V b 11)) 100))]) := by
        intro y hy H locs ls hG hS hl
        refine x_icmp_ge E 63 dX1_isLaid_56 (by decide) (by unfold rg; omega) (by unfold rg; omega) (fun c56 => ?_) (fun c56 => ?_)
        · refine x_iconst E dX1_isLaid_63 ?_
          exact r_z E hQ hG hS dX1_isLaid_64 (by omega) (⟨by
          unfold ldB
          rw [hsf, decide_eq_false (p := V (b + 1) c < _) (by omega), decide_eq_false (p := dw (nx (V b 11)) 100 < _) (by rw [← hy]; omega)]; rfl, by unfold ldM; rw [if_neg hno]⟩)
        · refine x_iconst E dX1_isLaid_59 ?_
          refine x_goto E 64 dX1_isLaid_60 (by decide) ?_
          exact r_z E hQ hG hS dX1_isLaid_64 (by omega) (⟨by
          unfold ldB
          rw [decide_eq_true (p := dw (nx (V b 11)) 100 < _) (by rw [← hy]; omega), Bool.or_true]; rfl, by unfold ldM; rw [if_neg hno]⟩)
      refine x_aload_n E dX1_isLaid_32 (lv_at hl 0 rfl) ?_
      refine x_getr E hI hG (xd0 hX hb) cf1 1 (b + 1) rfl (by decide) kf_X1_45 dX1_isLaid_33 ?_
      refine x_iload_n E dX1_isLaid_36 (lv_at hl 1 rfl) ?_
      refine x_iald E hI hG (xd1 hX hb) (V (b + 1) c) (by unfold drM; rw [st_p (by omega)]) (by omega) dX1_isLaid_37 ?_
      refine x_if_ne E 50 dX1_isLaid_38 (by decide) (by unfold rg; omega) (fun c38 => ?_) (fun c38 => ?_)
      · refine x_aload_n E dX1_isLaid_50 (lv_at hl 0 rfl) ?_
        refine x_getr E hI hG (xd0 hX hb) cf1 9 (b + 10) rfl (by decide) kf_X1_22 dX1_isLaid_51 ?_
        refine x_iconst E dX1_isLaid_54 ?_
        refine x_iald E hI hG (xd10 hX hb) (V (b + 10) 1) (by unfold drM; rw [st_p (by omega)]) (by omega) dX1_isLaid_55 ?_
        exact L56_2 (V (b + 10) 1) (by rw [if_neg c38]) _ _ _ hG hS (lv_sub hl [] rfl)
      · refine x_aload_n E dX1_isLaid_41 (lv_at hl 0 rfl) ?_
        refine x_getr E hI hG (xd0 hX hb) cf1 9 (b + 10) rfl (by decide) kf_X1_22 dX1_isLaid_42 ?_
        refine x_iconst E dX1_isLaid_45 ?_
        refine x_iald E hI hG (xd10 hX hb) (V (b + 10) 2) (by unfold drM; rw [st_p (by omega)]) (by omega) dX1_isLaid_46 ?_
        refine x_goto E 56 dX1_isLaid_47 (by decide) ?_
        exact L56_2 (V (b + 10) 2) (by rw [if_pos c38]) _ _ _ hG hS (lv_sub hl [] rfl)
    · exact L24_1  (Or.inr (by omega)) _ _ _ hG hS (lv_sub hl [] rfl)
end
section
section MD
variable {n b : Nat} {wd hi t : Int} {V : Mem}
theorem SK.of {V V1 : Mem} {w : Nat} (h : SK V w) (h0 : V1 w = V w) (h1 : V1 (w + 1) = V (w + 1)) (h2 : V1 (w + 2) = V (w + 2)) : SK V1 w := by
  unfold SK at *; rw [h0, h1, h2]; exact h
theorem DR.of {V V1 : Mem} (h : DR V n b) (h2 : V1 (b + 2) = V (b + 2)) (h3 : V1 (b + 3) = V (b + 3)) (h4 : V1 (b + 4) = V (b + 4)) (h5 : V1 (b + 5) = V (b + 5)) (h6 : V1 (b + 6) = V (b + 6)) (h7 : V1 (b + 7) = V (b + 7)) (h10 : V1 (b + 10) = V (b + 10)) : DR V1 n b := by
  unfold DR at *; rw [h2, h3, h4, h5, h6, h7, h10]; exact h
theorem Sh.of {V V1 : Mem} (h : Sh V n wd hi) (h1 : V1 1 = V 1) (h2 : V1 2 = V 2) : Sh V1 n wd hi := by
  unfold Sh at *; rw [h1, h2]; exact h
theorem Mid.of {V1 : Mem} (hb : 3 ≤ b) (h : Mid V n wd hi b t) (h1 : ∀ p, p ≠ b → V1 p = V p) (h12 : V1 b 12 = V b 12) : Mid V1 n wd hi b t := by
  obtain ⟨⟨a1, a2, a3⟩, a4, a5, a6⟩ := h
  refine ⟨⟨a1.of (h1 _ (by omega)) (h1 _ (by omega)), ?_, ?_⟩, a4.of (h1 _ (by omega)) (h1 _ (by omega)) (h1 _ (by omega)) (h1 _ (by omega)) (h1 _ (by omega)) (h1 _ (by omega)) (h1 _ (by omega)), a5.of (h1 _ (by omega)) (h1 _ (by omega)) (h1 _ (by omega)), by rw [h12]; exact a6⟩
  · rw [h1 _ (by omega), h1 _ (by omega)]; exact a2
  · rw [h1 _ (by omega)]; exact a3
theorem Mid.scal (hb : 3 ≤ b) (h : Mid V n wd hi b t) {k : Int} (v : Int) (hk : k ≠ 12) : Mid (st V b k v) n wd hi b t := h.of hb (fun p hp => st_p hp) (st_k (Ne.symm hk))
theorem Mid.dr (hb : 3 ≤ b) (h : Mid V n wd hi b t) : Mid (drM b V) n wd hi b t := h.scal hb _ (by decide)
theorem drM_p {p : Nat} (h : p ≠ b) : drM b V p = V p := st_p h
theorem lfM_p (wd hi w c : Int) {p : Nat} (h : p ≠ b) : lfM wd hi b w c V p = V p := by unfold lfM; split; rfl; exact drM_p h
theorem ldM_p (wd hi w c : Int) {p : Nat} (h : p ≠ b) : ldM wd hi b w c V p = V p := by unfold ldM; split; rfl; exact drM_p h
theorem drM_k {k : Int} (h : k ≠ 11) : drM b V b k = V b k := st_k h
theorem lfM_k (wd hi w c : Int) {k : Int} (h : k ≠ 11) : lfM wd hi b w c V b k = V b k := by unfold lfM; split; rfl; exact drM_k h
theorem ldM_k (wd hi w c : Int) {k : Int} (h : k ≠ 11) : ldM wd hi b w c V b k = V b k := by unfold ldM; split; rfl; exact drM_k h
theorem Mid.lf (hb : 3 ≤ b) (h : Mid V n wd hi b t) (w c : Int) : Mid (lfM wd hi b w c V) n wd hi b t := h.of hb (fun p hp => lfM_p _ _ _ _ hp) (lfM_k _ _ _ _ (by decide))
theorem Mid.ld (hb : 3 ≤ b) (h : Mid V n wd hi b t) (w c : Int) : Mid (ldM wd hi b w c V) n wd hi b t := h.of hb (fun p hp => ldM_p _ _ _ _ hp) (ldM_k _ _ _ _ (by decide))
theorem landR_p (w : Int) : ∀ (k : Nat) (a : Int) (V : Mem) {p : Nat}, p ≠ b → (landR wd hi b w k a V).2 p = V p
  | 0, _, _, _, _ => rfl
  | k + 1, a, V, p, hp => by
    unfold landR
    split
    · rfl
    · split
      · rfl
      · split
        · exact ldM_p _ _ _ _ hp
        · rw [landR_p w k _ _ hp]; exact ldM_p _ _ _ _ hp
theorem landR_k (w : Int) : ∀ (k : Nat) (a : Int) (V : Mem) {j : Int}, j ≠ 11 → (landR wd hi b w k a V).2 b j = V b j
  | 0, _, _, _, _ => rfl
  | k + 1, a, V, p, hp => by
    unfold landR
    split
    · rfl
    · split
      · rfl
      · split
        · exact ldM_k _ _ _ _ hp
        · rw [landR_k w k _ _ hp]; exact ldM_k _ _ _ _ hp
theorem landR_r (hd : dims n wd hi) (w : Int) : ∀ (k : Nat) (a : Int) (V : Mem), 0 ≤ a → a < (n : Int) → -1 ≤ (landR wd hi b w k a V).1 ∧ (landR wd hi b w k a V).1 < (n : Int)
  | 0, a, _, h0, h1 => ⟨by show -1 ≤ a; omega, h1⟩
  | k + 1, a, V, h0, h1 => by
    have hr := gow_rg (w := w) hd (show -1 ≤ a by omega) h1 (V (b + 10) 0).toNat
    unfold landR
    split
    · have := dims.n hd
      show -1 ≤ -1 ∧ -1 < (n : Int)
      omega
    · split
      · exact hr
      · split
        · exact hr
        · exact landR_r hd w k _ _ (by omega) hr.2
theorem Mid.land (hb : 3 ≤ b) (h : Mid V n wd hi b t) (w : Int) (k : Nat) (a : Int) : Mid (landR wd hi b w k a V).2 n wd hi b t := h.of hb (fun p hp => landR_p w k a V hp) (landR_k w k a V (by decide))
theorem Mid.heap (hb : 3 ≤ b) (h : Mid V n wd hi b t) {h1 : Int → Int} {t1 : Int} (hh : HI n wd hi (V (b + 10) 3) t1 h1) : Mid (sp V (b + 1) h1) n wd hi b t1 := by
  obtain ⟨⟨a1, a2, a3⟩, a4, a5, a6⟩ := h
  refine ⟨⟨a1.sp (by omega) _, ?_, ?_⟩, a4.of (sp_n (by omega)) (sp_n (by omega)) (sp_n (by omega)) (sp_n (by omega)) (sp_n (by omega)) (sp_n (by omega)) (sp_n (by omega)), a5.of (sp_n (by omega)) (sp_n (by omega)) (sp_n (by omega)), by rw [sp_n (by omega)]; exact a6⟩
  · rw [sp_n (by omega), sp_s]; exact hh
  · rw [sp_n (by omega)]; exact a3
theorem Mid.raise (hb : 3 ≤ b) (h : Mid V n wd hi b t) {c : Int} (h0 : 0 ≤ c) (h1 : c < (n : Int)) (ht : t + 1 ≤ 60100) : Mid (hput n wd hi b c (V (b + 1) c + 1) V) n wd hi b (t + 1) := h.heap hb (HI.raise h.1.1.2.2.2.1 h.1.2.1 h0 h1 ht)
theorem Mid.raise2 (hb : 3 ≤ b) (h : Mid V n wd hi b t) {c : Int} (h0 : 0 ≤ c) (h1 : c < (n : Int)) (hs : su n (V (b + 1)) + 1 ≤ 1430 * (n : Int) + t) : Mid (hput n wd hi b c (V (b + 1) c + 1) V) n wd hi b t := by
  have hh := h.1.2.1
  have hd := h.1.1.2.2.2.1
  have hp := hh.2.1 c h0 h1
  refine h.heap hb (HI.after hd (fun d d0 d1 => ?_) ?_ hh.2.2.2.1 hh.2.2.2.2.1 hh.2.2.2.2.2.1 hh.2.2.2.2.2.2)
  · have := hh.2.1 d d0 d1
    unfold ui; split <;> omega
  · rw [su_ui n h0 h1]; omega
theorem Mid.lower (hb : 3 ≤ b) (h : Mid V n wd hi b t) {c v : Int} (h0 : 0 ≤ c) (h1 : c < (n : Int)) (v0 : 0 ≤ v) (v1 : v ≤ V (b + 1) c) : Mid (hput n wd hi b c v V) n wd hi b t ∧ su n (hput n wd hi b c v V (b + 1)) = su n (V (b + 1)) - V (b + 1) c + v := by
  have a := HI.lower h.1.1.2.2.2.1 h.1.2.1 h0 h1 v0 v1
  refine ⟨h.heap hb a.1, ?_⟩
  unfold hput; rw [sp_s]; exact a.2
theorem hput_p {p : Nat} (c v : Int) (h : p ≠ b + 1) : hput n wd hi b c v V p = V p := sp_n h
theorem lfB_pos {wd hi w c : Int} (h : lfB wd hi b w c V = true) : V (b + 1) c ≠ 0 := by
  unfold lfB at h
  simp only [Bool.and_eq_true, Bool.not_eq_true', decide_eq_false_iff_not] at h
  exact h.1.1.1
theorem loseM_p (w : Int) {p : Nat} (h : p ≠ b) : loseM b w V p = V p := by unfold loseM; split <;> exact st_p h
theorem loseM_k (w : Int) : loseM b w V b 12 = V b 12 := by unfold loseM; split <;> exact st_k (by decide)
theorem Mid.fly (hb : 3 ≤ b) (h : Mid V n wd hi b t) (w : Int) {c : Int} (h0 : 0 ≤ c) (h1 : c < (n : Int)) (hs : su n (V (b + 1)) + 1 ≤ 1430 * (n : Int) + t) : Mid (flyM n wd hi b w c V) n wd hi b t := by
  have hl := h.land hb w 10 c
  have hr := landR_r (b := b) h.1.1.2.2.2.1 w 10 c V h0 h1
  unfold flyM
  split
  · exact hl.of hb (fun p hp => loseM_p w hp) (loseM_k w)
  · exact hl.raise2 hb (by omega) hr.2 (by rw [landR_p w 10 c V (by omega)]; exact hs)
theorem Mid.lift (hb : 3 ≤ b) (h : Mid V n wd hi b t) (w : Int) : Mid (liftM n wd hi b w V) n wd hi b t := by
  have hd := h.1.1.2.2.2.1
  obtain ⟨n1, n2⟩ := dims.n hd
  have hc := dw_rg (nx (V b 11)) (m := (n : Int)) (by omega)
  unfold liftM
  split
  · rename_i q
    have hp := lfB_pos q
    rw [drM_p (by omega)] at hp
    have hq := h.1.2.1.2.1 _ hc.1 hc.2
    have h2 := (h.dr hb).lf hb w (dw (nx (V b 11)) (n : Int))
    have e : lfM wd hi b w (dw (nx (V b 11)) (n : Int)) (drM b V) (b + 1) = V (b + 1) := by rw [lfM_p _ _ _ _ (by omega), drM_p (by omega)]
    obtain ⟨h3, h4⟩ := h2.lower hb (v := V (b + 1) (dw (nx (V b 11)) (n : Int)) - 1) hc.1 hc.2 (by omega) (by rw [e]; omega)
    refine h3.fly hb w hc.1 hc.2 ?_
    rw [h4, e]
    have := h.1.2.1.2.2.1
    omega
  · exact (h.dr hb).lf hb w _
theorem Mid.blow (hb : 3 ≤ b) (h : Mid V n wd hi b t) (w : Int) : ∀ k : Nat, Mid (itM (liftM n wd hi b w) k V) n wd hi b t
  | 0 => h
  | k + 1 => (Mid.blow hb h w k).lift hb w
theorem Mid.sup (hb : 3 ≤ b) (h : Mid V n wd hi b t) (ht : t + 1 ≤ 60100) : Mid (supM n wd hi b V) n wd hi b (t + 1) := by
  have hd := h.1.1.2.2.2.1
  have hw := dw_rg (nx (V b 11)) (m := hi) (by have := hd.2.2.2.1; omega)
  have hc := cell_of hd (x := 0) hw.1 hw.2 (by omega) (by have := hd.2.1; omega)
  simp only [Int.add_zero] at hc
  have h2 := (h.scal hb (k := 15) (V b 15 + 1) (by decide)).dr hb
  have e : drM b (st V b 15 (V b 15 + 1)) (b + 1) = V (b + 1) := by rw [drM_p (by omega), st_p (by omega)]
  have := h2.raise hb hc.1 hc.2.1 ht
  rw [e] at this
  exact this
theorem Mid.sups (hb : 3 ≤ b) (h : Mid V n wd hi b t) : ∀ k : Nat, t + (k : Int) ≤ 60100 → Mid (itM (supM n wd hi b) k V) n wd hi b (t + (k : Int))
  | 0, _ => by
    show Mid V n wd hi b (t + 0)
    rw [Int.add_zero]; exact h
  | k + 1, hk => by
    have := (Mid.sups hb h k (by omega)).sup hb (by omega)
    rw [show t + ((k + 1 : Nat) : Int) = t + (k : Int) + 1 by omega]
    exact this
end MD
end
section
theorem landR_s {wd hi : Int} {b : Nat} {w : Int} {k : Nat} {a : Int} {V : Mem} : landR wd hi b w (k + 1) a V = if gow wd hi w (V (b + 10) 0).toNat a < 0 then (-1, V) else if k = 0 then (gow wd hi w (V (b + 10) 0).toNat a, V) else if ldB wd hi b w (gow wd hi w (V (b + 10) 0).toNat a) V = true then (gow wd hi w (V (b + 10) 0).toNat a, ldM wd hi b w (gow wd hi w (V (b + 10) 0).toNat a) V) else landR wd hi b w k (gow wd hi w (V (b + 10) 0).toNat a) (ldM wd hi b w (gow wd hi w (V (b + 10) 0).toNat a) V) := rfl

set_option maxHeartbeats 4000000 in
set_option maxRecDepth 100000 in
theorem c_X1_isLifted (l : Launch) {X : We} {n b : Nat} (hX : isX X n) (hb : isD b) {wd hi t : Int} (V : Mem) (hk : Mid V n wd hi b t) (c w : Int) (hc : 0 ≤ c ∧ c < (n : Int)) (hw : 0 ≤ w ∧ w < 4) : Mt l X V yX1_isLifted cX1_isLifted 3 (some .boolean) 2 48 [.ref (wa X b), .int (jI c), .int (jI w)] (Qi X (fun z V1 => z = b2i (lfB wd hi b w c V) ∧ V1 = lfM wd hi b w c V)) := by
  refine Mt.go (by decide) (Nat.le_of_ble_eq_true rfl) ?_
  intro pg ev s0 mi bl mt cd ls Rm ag Qq hR hQ E hI hG hS hl
  have hl : lv_has ls 3 [(0, .ref (wa X b)), (1, .int (jI c)), (2, .int (jI w))] := hl
  obtain ⟨⟨hs, hh, hz⟩, ⟨r2, r3, r4, r5, r6, r7, r8, r9, r10, r11⟩, hsk, hday⟩ := id hk
  have hd := hs.2.2.2.1
  have hbn : bnd n 0 9500 (V (b + 1)) := hh.ps hd |>.1
  obtain ⟨hn1, hn2⟩ := dims.n hd
  obtain ⟨hb1, hb2⟩ := isD.ge hb
  have L38_1 : (V (b + 1) c = 0 ∨ 0 < V (b + 6) c ∨ shd wd hi (V (b + 1)) c w = true) → ∀ (H : Heap) (locs : List Loc) (ls : Array Slot), GW X V H → va_S (wA X) s0.heap H locs → lv_has ls 3 [] → W pg l ev Rm s0 mi ag bl mt cd H locs 0 0 Qq (F0 mi 38 ls []) := by
    intro  hy H locs ls hG hS hl
    refine x_iconst E dX1_isLifted_38 ?_
    exact r_z E hQ hG hS dX1_isLifted_39 (Or.inl rfl) (⟨by
          unfold lfB
          rcases hy with q | q | q
          · rw [decide_eq_true q]; rfl
          · rw [decide_eq_true q]; simp; rfl
          · rw [q]; simp; rfl, by unfold lfM; rw [if_pos (by rcases hy with q | q | q; exact Or.inl q; exact Or.inr (Or.inl q); exact Or.inr (Or.inr (Or.inl q)))]⟩)
  have L69_2 : ∀ (z : Int) (V1 : Mem), (z = b2i (lfB wd hi b w c V)) → (V1 = lfM wd hi b w c V) → ∀ (H : Heap) (locs : List Loc) (ls : Array Slot), GW X V1 H → va_S (wA X) s0.heap H locs → lv_has ls 3 [] → W pg l ev Rm s0 mi ag bl mt cd H locs 0 0 Qq (F0 mi 69 ls [.int (jI z)]) := by
    intro z V1 hz1 hz2 H locs ls hG hS hl
    exact r_z E hQ hG hS dX1_isLifted_69 (by rw [hz1]; exact b2i_c _) (⟨hz1, hz2⟩)
  refine x_aload_n E dX1_isLifted_0 (lv_at hl 0 rfl) ?_
  refine x_getr E hI hG (xd0 hX hb) cf1 0 1 rfl (by decide) kf_X1_36 dX1_isLifted_1 ?_
  refine x_iload_n E dX1_isLifted_4 (lv_at hl 1 rfl) ?_
  refine x_ci hG hS (x_runV E hI hG hS (xs0 hX) cf3 rfl (c_X3_has l hX V hs c (by unfold rg; omega)) mf_X3_has km_X1_86 rfl hl rfl (Nat.le_of_ble_eq_true rfl) (by rw [hR]; exact ⟨Nat.le_of_ble_eq_true rfl, Nat.le_of_ble_eq_true rfl⟩) ⟨Nat.zero_le _, Nat.zero_le _⟩ dX1_isLifted_5) (fun z1 V1 H locs hp hG hS => ?_)
  obtain ⟨ez, eV⟩ := hp
  rw [eV] at hG
  rw [ez]
  refine x_if_eq E 38 dX1_isLifted_8 (by decide) b01_rg (fun c8 => ?_) (fun c8 => ?_)
  · exact absurd hc (b01_iff0.mp c8)
  · have hv1 := hbn c hc.1 hc.2
    have hv2 := r6 c hc.1 hc.2
    have hv3 := r3 c hc.1 hc.2
    refine x_aload_n E dX1_isLifted_11 (lv_at hl 0 rfl) ?_
    refine x_getr E hI hG (xd0 hX hb) cf1 1 (b + 1) rfl (by decide) kf_X1_45 dX1_isLifted_12 ?_
    refine x_iload_n E dX1_isLifted_15 (lv_at hl 1 rfl) ?_
    refine x_iald E hI hG (xd1 hX hb) (V (b + 1) c) rfl (by omega) dX1_isLifted_16 ?_
    refine x_if_eq E 38 dX1_isLifted_17 (by decide) (by unfold rg; omega) (fun c17 => ?_) (fun c17 => ?_)
    · exact L38_1  (Or.inl c17) _ _ _ hG hS (lv_sub hl [] rfl)
    · refine x_aload_n E dX1_isLifted_20 (lv_at hl 0 rfl) ?_
      refine x_getr E hI hG (xd0 hX hb) cf1 6 (b + 6) rfl (by decide) kf_X1_60 dX1_isLifted_21 ?_
      refine x_iload_n E dX1_isLifted_24 (lv_at hl 1 rfl) ?_
      refine x_iald E hI hG (xd6 hX hb) (V (b + 6) c) rfl (by omega) dX1_isLifted_25 ?_
      refine x_if_gt E 38 dX1_isLifted_26 (by decide) (by unfold rg; omega) (fun c26 => ?_) (fun c26 => ?_)
      · exact L38_1  (Or.inr (Or.inl c26)) _ _ _ hG hS (lv_sub hl [] rfl)
      · refine x_aload_n E dX1_isLifted_29 (lv_at hl 0 rfl) ?_
        refine x_iload_n E dX1_isLifted_30 (lv_at hl 1 rfl) ?_
        refine x_iload_n E dX1_isLifted_31 (lv_at hl 2 rfl) ?_
        refine x_ci hG hS (x_runV E hI hG hS (xd0 hX hb) cf1 rfl (c_X1_isInShadow l hX hb V hs (V (b + 1)) rfl hbn c w hc hw) mf_X1_isInShadow km_X1_100 rfl hl rfl (Nat.le_of_ble_eq_true rfl) (by rw [hR]; exact ⟨Nat.le_of_ble_eq_true rfl, Nat.le_of_ble_eq_true rfl⟩) ⟨Nat.zero_le _, Nat.zero_le _⟩ dX1_isLifted_32) (fun z1 V1 H locs hp hG hS => ?_)
        obtain ⟨ez, eV⟩ := hp
        rw [eV] at hG
        rw [ez]
        refine x_if_eq E 40 dX1_isLifted_35 (by decide) (b2i_rg _) (fun c35 => ?_) (fun c35 => ?_)
        · have hsf : shd wd hi (V (b + 1)) c w = false := b2i_0.mp c35
          refine x_aload_n E dX1_isLifted_40 (lv_at hl 0 rfl) ?_
          refine x_getr E hI hG (xd0 hX hb) cf1 3 (b + 3) rfl (by decide) kf_X1_51 dX1_isLifted_41 ?_
          refine x_iload_n E dX1_isLifted_44 (lv_at hl 1 rfl) ?_
          refine x_iald E hI hG (xd3 hX hb) (V (b + 3) c) rfl (by omega) dX1_isLifted_45 ?_
          refine x_if_eq E 64 dX1_isLifted_46 (by decide) (by unfold rg; omega) (fun c46 => ?_) (fun c46 => ?_)
          · refine x_iconst E dX1_isLifted_64 ?_
            refine x_goto E 69 dX1_isLifted_65 (by decide) ?_
            exact L69_2 1 V (by unfold lfB; rw [decide_eq_false (p := V (b + 1) c = 0) c17, decide_eq_false (p := 0 < V (b + 6) c) (by omega), hsf, decide_eq_true (p := V (b + 3) c = 0) c46]; rfl) (by unfold lfM; rw [if_pos (Or.inr (Or.inr (Or.inr c46)))]) _ _ _ hG hS (lv_sub hl [] rfl)
          · refine x_aload_n E dX1_isLifted_49 (lv_at hl 0 rfl) ?_
            refine x_bipush E dX1_isLifted_50 (by decide) ?_
            refine x_ci hG hS (x_runV E hI hG hS (xd0 hX hb) cf1 rfl (c_X1_draw l hX hb V 100 (by omega)) mf_X1_draw km_X1_157 rfl hl rfl (Nat.le_of_ble_eq_true rfl) (by rw [hR]; exact ⟨Nat.le_of_ble_eq_true rfl, Nat.le_of_ble_eq_true rfl⟩) ⟨Nat.zero_le _, Nat.zero_le _⟩ dX1_isLifted_52) (fun z1 V1 H locs hp hG hS => ?_)
            obtain ⟨ez, eV⟩ := hp
            rw [eV] at hG
            rw [ez]
            have hdw := dw_rg (nx (V b 11)) (show (0 : Int) < 100 by omega)
            refine x_aload_n E dX1_isLifted_55 (lv_at hl 0 rfl) ?_
            refine x_getr E hI hG (xd0 hX hb) cf1 3 (b + 3) rfl (by decide) kf_X1_51 dX1_isLifted_56 ?_
            refine x_iload_n E dX1_isLifted_59 (lv_at hl 1 rfl) ?_
            refine x_iald E hI hG (xd3 hX hb) (V (b + 3) c) (by rw [drM_p (by omega)]) (by omega) dX1_isLifted_60 ?_
            refine x_icmp_lt E 68 dX1_isLifted_61 (by decide) (by unfold rg; omega) (by unfold rg; omega) (fun c61 => ?_) (fun c61 => ?_)
            · refine x_iconst E dX1_isLifted_68 ?_
              exact L69_2 0 (drM b V) (by unfold lfB; rw [decide_eq_false (p := V (b + 3) c = 0) c46, decide_eq_true (p := dw (nx (V b 11)) 100 < V (b + 3) c) c61]; simp; rfl) (by unfold lfM; rw [if_neg (by rw [hsf]; simp; omega)]) _ _ _ hG hS (lv_sub hl [] rfl)
            · refine x_iconst E dX1_isLifted_64 ?_
              refine x_goto E 69 dX1_isLifted_65 (by decide) ?_
              exact L69_2 1 (drM b V) (by unfold lfB; rw [decide_eq_false (p := V (b + 1) c = 0) c17, decide_eq_false (p := 0 < V (b + 6) c) (by omega), hsf, decide_eq_false (p := dw (nx (V b 11)) 100 < V (b + 3) c) c61]; simp; rfl) (by unfold lfM; rw [if_neg (by rw [hsf]; simp; omega)]) _ _ _ hG hS (lv_sub hl [] rfl)
        · exact L38_1  (Or.inr (Or.inr (b2i_ne.mp c35))) _ _ _ hG hS (lv_sub hl [] rfl)

set_option maxHeartbeats 4000000 in
set_option maxRecDepth 100000 in
theorem c_X1_landing (l : Launch) {X : We} {n b : Nat} (hX : isX X n) (hb : isD b) {wd hi t : Int} (V : Mem) (hk : Mid V n wd hi b t) (c w : Int) (hc : 0 ≤ c ∧ c < (n : Int)) (hw : 0 ≤ w ∧ w < 4) : Mt l X V yX1_landing cX1_landing 5 (some .int) 3 70 [.ref (wa X b), .int (jI c), .int (jI w)] (Qi X (fun z V1 => z = (landR wd hi b w 10 c V).1 ∧ V1 = (landR wd hi b w 10 c V).2)) := by
  refine Mt.go (by decide) (Nat.le_of_ble_eq_true rfl) ?_
  intro pg ev s0 mi bl mt cd ls Rm ag Qq hR hQ E hI hG hS hl
  have hl : lv_has ls 5 [(0, .ref (wa X b)), (1, .int (jI c)), (2, .int (jI w))] := hl
  obtain ⟨⟨hs, hh, hz⟩, ⟨r2, r3, r4, r5, r6, r7, r8, r9, r10, r11⟩, hsk, hday⟩ := id hk
  have hd := hs.2.2.2.1
  have hbn : bnd n 0 9500 (V (b + 1)) := hh.ps hd |>.1
  obtain ⟨hn1, hn2⟩ := dims.n hd
  obtain ⟨hb1, hb2⟩ := isD.ge hb
  refine x_iload_n E dX1_landing_0 (lv_at hl 1 rfl) ?_
  refine x_istore_n E [(3, .int (jI c)), (0, .ref (wa X b)), (1, .int (jI c)), (2, .int (jI w))] dX1_landing_1 hl (by decide) rfl (fun ls hl => ?_)
  refine x_iconst E dX1_landing_2 ?_
  refine x_istore E [(4, .int (jI 1)), (3, .int (jI c)), (0, .ref (wa X b)), (1, .int (jI c)), (2, .int (jI w))] dX1_landing_3 hl (by decide) rfl (fun ls hl => ?_)
  have L5_1 : ∀ (N : Nat) (k : Int) (a : Int) (U : Mem), (1 ≤ k) → (k ≤ 10) → (0 ≤ a) → (a < (n : Int)) → (Mid U n wd hi b t) → (landR wd hi b w (11 - k).toNat a U = landR wd hi b w 10 c V) → ((11 - k).toNat) < N → ∀ (H : Heap) (locs : List Loc) (ls : Array Slot), GW X U H → va_S (wA X) s0.heap H locs → lv_has ls 5 [(0, .ref (wa X b)), (2, .int (jI w)), (3, .int (jI a)), (4, .int (jI k))] → W pg l ev Rm s0 mi ag bl mt cd H locs 0 0 Qq (F0 mi 5 ls []) := by
    intro N
    induction N with
    | zero => intro k a U k1 k2 a0 a1 hU eU hN; exact absurd hN (Nat.not_lt_zero _)
    | succ N ih5 =>
      intro k a U k1 k2 a0 a1 hU eU hN H locs ls hG hS hl
      refine x_iload E dX1_landing_5 (lv_at hl 3 rfl) ?_
      refine x_bipush E dX1_landing_7 (by decide) ?_
      refine x_icmp_gt E 48 dX1_landing_9 (by decide) (by unfold rg; omega) (by unfold rg; omega) (fun c9 => ?_) (fun c9 => ?_)
      · omega
      · obtain ⟨⟨us, uh, uz⟩, ⟨-, -, -, -, -, -, u8, -, -, -⟩, -, -⟩ := id hU
        have hr := gow_rg (w := w) hd (show -1 ≤ a by omega) a1 (U (b + 10) 0).toNat
        refine x_aload_n E dX1_landing_12 (lv_at hl 0 rfl) ?_
        refine x_iload_n E dX1_landing_13 (lv_at hl 2 rfl) ?_
        refine x_iload_n E dX1_landing_14 (lv_at hl 1 rfl) ?_
        refine x_ci hG hS (x_runV E hI hG hS (xd0 hX hb) cf1 rfl (c_X1_afterHop l hX hb U us a w ⟨a0, a1⟩ hw u8) mf_X1_afterHop km_X1_176 rfl hl rfl (Nat.le_of_ble_eq_true rfl) (by rw [hR]; exact ⟨Nat.le_of_ble_eq_true rfl, Nat.le_of_ble_eq_true rfl⟩) ⟨Nat.zero_le _, Nat.zero_le _⟩ dX1_landing_15) (fun z1 V1 H locs hp hG hS => ?_)
        obtain ⟨ez, eV⟩ := hp
        rw [eV] at hG
        rw [ez]
        refine x_istore_n E [(3, .int (jI (gow wd hi w (U (b + 10) 0).toNat a))), (0, .ref (wa X b)), (2, .int (jI w)), (4, .int (jI k))] dX1_landing_18 hl (by decide) rfl (fun ls hl => ?_)
        obtain ⟨j, ej⟩ : ∃ j : Nat, (11 - k).toNat = j + 1 := ⟨(10 - k).toNat, by omega⟩
        rw [ej, landR_s] at eU
        have L40_2 : ∀ (z : Int) (U2 : Mem), (landR wd hi b w 10 c V = (z, U2)) → ∀ (H : Heap) (locs : List Loc) (ls : Array Slot), GW X U2 H → va_S (wA X) s0.heap H locs → lv_has ls 5 [(3, .int (jI z))] → W pg l ev Rm s0 mi ag bl mt cd H locs 0 0 Qq (F0 mi 40 ls []) := by
          intro z U2 hz1 H locs ls hG hS hl
          refine x_iload_n E dX1_landing_40 (lv_at hl 0 rfl) ?_
          exact r_i E hQ hG hS dX1_landing_41 (⟨by rw [hz1], by rw [hz1]⟩)
        refine x_iload_n E dX1_landing_19 (lv_at hl 0 rfl) ?_
        refine x_iconst E dX1_landing_20 ?_
        refine x_icmp_eq E 40 dX1_landing_21 (by decide) (by unfold rg; omega) (by unfold rg; omega) (fun c21 => ?_) (fun c21 => ?_)
        · exact L40_2 (gow wd hi w (U (b + 10) 0).toNat a) U (by rw [← eU, if_pos (by omega), c21]) _ _ _ hG hS (lv_sub hl [0] rfl)
        · refine x_iload E dX1_landing_24 (lv_at hl 3 rfl) ?_
          refine x_bipush E dX1_landing_26 (by decide) ?_
          refine x_icmp_eq E 40 dX1_landing_28 (by decide) (by unfold rg; omega) (by unfold rg; omega) (fun c28 => ?_) (fun c28 => ?_)
          · exact L40_2 (gow wd hi w (U (b + 10) 0).toNat a) U (by rw [← eU, if_neg (by omega), if_pos (by omega)]) _ _ _ hG hS (lv_sub hl [0] rfl)
          · refine x_aload_n E dX1_landing_31 (lv_at hl 1 rfl) ?_
            refine x_iload_n E dX1_landing_32 (lv_at hl 0 rfl) ?_
            refine x_iload_n E dX1_landing_33 (lv_at hl 2 rfl) ?_
            refine x_ci hG hS (x_runV E hI hG hS (xd0 hX hb) cf1 rfl (c_X1_isLaid l hX hb U hU (gow wd hi w (U (b + 10) 0).toNat a) w (by omega) hw) mf_X1_isLaid km_X1_179 rfl hl rfl (Nat.le_of_ble_eq_true rfl) (by rw [hR]; exact ⟨Nat.le_of_ble_eq_true rfl, Nat.le_of_ble_eq_true rfl⟩) ⟨Nat.zero_le _, Nat.zero_le _⟩ dX1_landing_34) (fun z1 V1 H locs hp hG hS => ?_)
            obtain ⟨ez, eV⟩ := hp
            rw [eV] at hG
            rw [ez]
            refine x_if_eq E 42 dX1_landing_37 (by decide) (b2i_rg _) (fun c37 => ?_) (fun c37 => ?_)
            · refine x_iinc E (k := 3) [(4, .int (jI (k + 1))), (3, .int (jI (gow wd hi w (U (b + 10) 0).toNat a))), (0, .ref (wa X b)), (2, .int (jI w))] dX1_landing_42 hl rfl (by decide) rfl (fun ls hl => ?_)
              refine x_goto E 5 dX1_landing_45 (by decide) ?_
              exact ih5 (k + 1) (gow wd hi w (U (b + 10) 0).toNat a) (ldM wd hi b w (gow wd hi w (U (b + 10) 0).toNat a) U) (by omega) (by omega) (by omega) hr.2 (hU.ld hb1 w _) (by rw [← eU, if_neg (by omega), if_neg (by omega), if_neg (by rw [b2i_0.mp c37]; decide), show (11 - (k + 1)).toNat = j by omega]) (by omega) _ _ _ hG hS (lv_sub hl [2, 3, 1, 0] rfl)
            · exact L40_2 (gow wd hi w (U (b + 10) 0).toNat a) (ldM wd hi b w (gow wd hi w (U (b + 10) 0).toNat a) U) (by rw [← eU, if_neg (by omega), if_neg (by omega), if_pos (b2i_ne.mp c37)]) _ _ _ hG hS (lv_sub hl [0] rfl)
  exact L5_1 _ 1 c V (by omega) (by omega) hc.1 hc.2 hk rfl (Nat.lt_succ_self _) _ _ _ hG hS (lv_sub hl [2, 4, 1, 0] rfl)

set_option maxHeartbeats 4000000 in
set_option maxRecDepth 100000 in
theorem c_X1_lose (l : Launch) {X : We} {n b : Nat} (hX : isX X n) (hb : isD b) (V : Mem) (w : Int) (hw : 0 ≤ w ∧ w < 4) : Mt l X V yX1_lose cX1_lose 2 none 0 0 [.ref (wa X b), .int (jI w)] (Qv X (fun V1 => V1 = loseM b w V)) := by
  refine Mt.go (by decide) (Nat.le_of_ble_eq_true rfl) ?_
  intro pg ev s0 mi bl mt cd ls Rm ag Qq hR hQ E hI hG hS hl
  have hl : lv_has ls 2 [(0, .ref (wa X b)), (1, .int (jI w))] := hl
  refine x_iload_n E dX1_lose_0 (lv_at hl 1 rfl) ?_
  refine x_if_ne E 17 dX1_lose_1 (by decide) (by unfold rg; omega) (fun c1 => ?_) (fun c1 => ?_)
  · refine x_aload_n E dX1_lose_17 (lv_at hl 0 rfl) ?_
    refine x_dup E dX1_lose_18 rfl ?_
    refine x_geti E hI hG (xd0 hX hb) cf1 13 (V b 13) rfl (by decide) rfl kf_X1_77 dX1_lose_19 ?_
    refine x_iconst E dX1_lose_22 ?_
    refine x_iadd E dX1_lose_23 ?_
    refine x_puti E hI hG hS (xd0 hX hb) cf1 13 13 rfl rfl (by decide) rfl rfl kf_X1_77 dX1_lose_24 (fun H locs hG hS => ?_)
    exact r_v E hQ hG hS dX1_lose_27 (by unfold loseM; rw [if_neg c1])
  · refine x_aload_n E dX1_lose_4 (lv_at hl 0 rfl) ?_
    refine x_dup E dX1_lose_5 rfl ?_
    refine x_geti E hI hG (xd0 hX hb) cf1 14 (V b 14) rfl (by decide) rfl kf_X1_80 dX1_lose_6 ?_
    refine x_iconst E dX1_lose_9 ?_
    refine x_iadd E dX1_lose_10 ?_
    refine x_puti E hI hG hS (xd0 hX hb) cf1 14 14 rfl rfl (by decide) rfl rfl kf_X1_80 dX1_lose_11 (fun H locs hG hS => ?_)
    refine x_goto E 27 dX1_lose_14 (by decide) ?_
    exact r_v E hQ hG hS dX1_lose_27 (by unfold loseM; rw [if_pos c1])

set_option maxHeartbeats 4000000 in
set_option maxRecDepth 100000 in
theorem c_X1_blow (l : Launch) {X : We} {n b : Nat} (hX : isX X n) (hb : isD b) {wd hi t : Int} (V : Mem) (hk : Mid V n wd hi b t) (w : Int) (hw : 0 ≤ w ∧ w < 4) : Mt l X V yX1_blow cX1_blow 5 none 4 94 [.ref (wa X b), .int (jI w)] (Qv X (fun V1 => V1 = blM n wd hi b w V)) := by
  refine Mt.go (by decide) (Nat.le_of_ble_eq_true rfl) ?_
  intro pg ev s0 mi bl mt cd ls Rm ag Qq hR hQ E hI hG hS hl
  have hl : lv_has ls 5 [(0, .ref (wa X b)), (1, .int (jI w))] := hl
  obtain ⟨⟨hs, hh, hz⟩, ⟨r2, r3, r4, r5, r6, r7, r8, r9, r10, r11⟩, hsk, hday⟩ := id hk
  have hd := hs.2.2.2.1
  have hbn : bnd n 0 9500 (V (b + 1)) := hh.ps hd |>.1
  obtain ⟨hn1, hn2⟩ := dims.n hd
  obtain ⟨hb1, hb2⟩ := isD.ge hb
  refine x_iconst E dX1_blow_0 ?_
  refine x_istore_n E [(2, .int (jI 0)), (0, .ref (wa X b)), (1, .int (jI w))] dX1_blow_1 hl (by decide) rfl (fun ls hl => ?_)
  have L2_1 : ∀ (N : Nat) (i : Int) (U : Mem), (0 ≤ i) → (i ≤ (n : Int)) → (U = itM (liftM n wd hi b w) i.toNat V) → (Mid U n wd hi b t) → (((n : Int) - i).toNat) < N → ∀ (H : Heap) (locs : List Loc) (ls : Array Slot), GW X U H → va_S (wA X) s0.heap H locs → lv_has ls 5 [(0, .ref (wa X b)), (1, .int (jI w)), (2, .int (jI i))] → W pg l ev Rm s0 mi ag bl mt cd H locs 0 0 Qq (F0 mi 2 ls []) := by
    intro N
    induction N with
    | zero => intro i U i0 i1 eU hU hN; exact absurd hN (Nat.not_lt_zero _)
    | succ N ih2 =>
      intro i U i0 i1 eU hU hN H locs ls hG hS hl
      refine x_iload_n E dX1_blow_2 (lv_at hl 2 rfl) ?_
      refine x_aload_n E dX1_blow_3 (lv_at hl 0 rfl) ?_
      refine x_getr E hI hG (xd0 hX hb) cf1 1 (b + 1) rfl (by decide) kf_X1_45 dX1_blow_4 ?_
      refine x_alen E hI hG (xd1 hX hb) (by decide) dX1_blow_7 ?_
      refine x_icmp_ge E 70 dX1_blow_8 (by decide) (by unfold rg; omega) (by unfold rg; omega) (fun c8 => ?_) (fun c8 => ?_)
      · exact r_v E hQ hG hS dX1_blow_70 (by rw [eU, show i.toNat = n by omega]; rfl)
      · have hcc := dw_rg (nx (U b 11)) (m := (n : Int)) (by omega)
        have hM2 := (hU.dr hb1).lf hb1 w (dw (nx (U b 11)) (n : Int))
        have eH : (lfM wd hi b w (dw (nx (U b 11)) (n : Int)) (drM b U)) (b + 1) = U (b + 1) := by rw [lfM_p _ _ _ _ (by omega), drM_p (by omega)]
        have L64_2 : ∀ (U2 : Mem), (U2 = liftM n wd hi b w U) → ∀ (H : Heap) (locs : List Loc) (ls : Array Slot), GW X U2 H → va_S (wA X) s0.heap H locs → lv_has ls 5 [(0, .ref (wa X b)), (1, .int (jI w)), (2, .int (jI i))] → W pg l ev Rm s0 mi ag bl mt cd H locs 0 0 Qq (F0 mi 64 ls []) := by
          intro U2 e2 H locs ls hG hS hl
          refine x_iinc E (k := 2) [(2, .int (jI (i + 1))), (0, .ref (wa X b)), (1, .int (jI w))] dX1_blow_64 hl rfl (by decide) rfl (fun ls hl => ?_)
          refine x_goto E 2 dX1_blow_67 (by decide) ?_
          exact ih2 (i + 1) U2 (by omega) (by omega) (by rw [e2, eU, show (i + 1).toNat = i.toNat + 1 by omega]; rfl) (by rw [e2]; exact hU.lift hb1 w) (by omega) _ _ _ hG hS (lv_sub hl [1, 2, 0] rfl)
        refine x_aload_n E dX1_blow_11 (lv_at hl 0 rfl) ?_
        refine x_aload_n E dX1_blow_12 (lv_at hl 0 rfl) ?_
        refine x_getr E hI hG (xd0 hX hb) cf1 1 (b + 1) rfl (by decide) kf_X1_45 dX1_blow_13 ?_
        refine x_alen E hI hG (xd1 hX hb) (by decide) dX1_blow_16 ?_
        refine x_ci hG hS (x_runV E hI hG hS (xd0 hX hb) cf1 rfl (c_X1_draw l hX hb U (n : Int) (by omega)) mf_X1_draw km_X1_157 rfl hl rfl (Nat.le_of_ble_eq_true rfl) (by rw [hR]; exact ⟨Nat.le_of_ble_eq_true rfl, Nat.le_of_ble_eq_true rfl⟩) ⟨Nat.zero_le _, Nat.zero_le _⟩ dX1_blow_17) (fun z1 V1 H locs hp hG hS => ?_)
        obtain ⟨ez, eV⟩ := hp
        rw [eV] at hG
        rw [ez]
        refine x_istore_n E [(3, .int (jI (dw (nx (U b 11)) (n : Int)))), (0, .ref (wa X b)), (1, .int (jI w)), (2, .int (jI i))] dX1_blow_20 hl (by decide) rfl (fun ls hl => ?_)
        refine x_aload_n E dX1_blow_21 (lv_at hl 1 rfl) ?_
        refine x_iload_n E dX1_blow_22 (lv_at hl 0 rfl) ?_
        refine x_iload_n E dX1_blow_23 (lv_at hl 2 rfl) ?_
        refine x_ci hG hS (x_runV E hI hG hS (xd0 hX hb) cf1 rfl (c_X1_isLifted l hX hb (drM b U) (hU.dr hb1) (dw (nx (U b 11)) (n : Int)) w hcc hw) mf_X1_isLifted km_X1_163 rfl hl rfl (Nat.le_of_ble_eq_true rfl) (by rw [hR]; exact ⟨Nat.le_of_ble_eq_true rfl, Nat.le_of_ble_eq_true rfl⟩) ⟨Nat.zero_le _, Nat.zero_le _⟩ dX1_blow_24) (fun z1 V1 H locs hp hG hS => ?_)
        obtain ⟨ez, eV⟩ := hp
        rw [eV] at hG
        rw [ez]
        refine x_if_eq E 64 dX1_blow_27 (by decide) (b2i_rg _) (fun c27 => ?_) (fun c27 => ?_)
        · exact L64_2 (lfM wd hi b w (dw (nx (U b 11)) (n : Int)) (drM b U)) (by unfold liftM; rw [if_neg (by rw [b2i_0.mp c27]; decide)]) _ _ _ hG hS (lv_sub hl [1, 2, 3] rfl)
        · have hlf : lfB wd hi b w (dw (nx (U b 11)) (n : Int)) (drM b U) = true := b2i_ne.mp c27
          have hp0 := lfB_pos hlf
          rw [drM_p (by omega)] at hp0
          have hp1 := hU.1.2.1.2.1 _ hcc.1 hcc.2
          have hM3 := (hM2.lower hb1 (c := (dw (nx (U b 11)) (n : Int))) (v := U (b + 1) (dw (nx (U b 11)) (n : Int)) - 1) hcc.1 hcc.2 (by omega) (by rw [eH]; omega)).1
          refine x_aload_n E dX1_blow_30 (lv_at hl 1 rfl) ?_
          refine x_iload_n E dX1_blow_31 (lv_at hl 0 rfl) ?_
          refine x_iconst E dX1_blow_32 ?_
          refine x_cv hG hS (x_runV E hI hG hS (xd0 hX hb) cf1 rfl (c_X1_lower l hX hb (lfM wd hi b w (dw (nx (U b 11)) (n : Int)) (drM b U)) hM2.1 (dw (nx (U b 11)) (n : Int)) 1 hcc (by omega)) mf_X1_lower km_X1_166 rfl hl rfl (Nat.le_of_ble_eq_true rfl) (by rw [hR]; exact ⟨Nat.le_of_ble_eq_true rfl, Nat.le_of_ble_eq_true rfl⟩) ⟨Nat.zero_le _, Nat.zero_le _⟩ dX1_blow_33) (fun V1 H locs hp hG hS => ?_)
          have eV := hp
          rw [eH, show min 1 (U (b + 1) (dw (nx (U b 11)) (n : Int))) = 1 by omega] at eV
          rw [eV] at hG
          refine x_aload_n E dX1_blow_36 (lv_at hl 1 rfl) ?_
          refine x_iload_n E dX1_blow_37 (lv_at hl 0 rfl) ?_
          refine x_iload_n E dX1_blow_38 (lv_at hl 2 rfl) ?_
          refine x_ci hG hS (x_runV E hI hG hS (xd0 hX hb) cf1 rfl (c_X1_landing l hX hb (hput n wd hi b (dw (nx (U b 11)) (n : Int)) (U (b + 1) (dw (nx (U b 11)) (n : Int)) - 1) (lfM wd hi b w (dw (nx (U b 11)) (n : Int)) (drM b U))) hM3 (dw (nx (U b 11)) (n : Int)) w hcc hw) mf_X1_landing km_X1_170 rfl hl rfl (Nat.le_of_ble_eq_true rfl) (by rw [hR]; exact ⟨Nat.le_of_ble_eq_true rfl, Nat.le_of_ble_eq_true rfl⟩) ⟨Nat.zero_le _, Nat.zero_le _⟩ dX1_blow_39) (fun z1 V1 H locs hp hG hS => ?_)
          obtain ⟨ez, eV⟩ := hp
          rw [eV] at hG
          rw [ez]
          refine x_istore E [(4, .int (jI ((landR wd hi b w 10 (dw (nx (U b 11)) (n : Int)) (hput n wd hi b (dw (nx (U b 11)) (n : Int)) (U (b + 1) (dw (nx (U b 11)) (n : Int)) - 1) (lfM wd hi b w (dw (nx (U b 11)) (n : Int)) (drM b U)))).1))), (3, .int (jI (dw (nx (U b 11)) (n : Int)))), (0, .ref (wa X b)), (1, .int (jI w)), (2, .int (jI i))] dX1_blow_42 hl (by decide) rfl (fun ls hl => ?_)
          have hr := landR_r (b := b) hd w 10 (dw (nx (U b 11)) (n : Int)) (hput n wd hi b (dw (nx (U b 11)) (n : Int)) (U (b + 1) (dw (nx (U b 11)) (n : Int)) - 1) (lfM wd hi b w (dw (nx (U b 11)) (n : Int)) (drM b U))) hcc.1 hcc.2
          refine x_iload E dX1_blow_44 (lv_at hl 0 rfl) ?_
          refine x_iconst E dX1_blow_46 ?_
          refine x_icmp_ne E 58 dX1_blow_47 (by decide) (by unfold rg; omega) (by unfold rg; omega) (fun c47 => ?_) (fun c47 => ?_)
          · refine x_aload_n E dX1_blow_58 (lv_at hl 2 rfl) ?_
            refine x_iload E dX1_blow_59 (lv_at hl 0 rfl) ?_
            refine x_cv hG hS (x_runV E hI hG hS (xd0 hX hb) cf1 rfl (c_X1_raise l hX hb (landR wd hi b w 10 (dw (nx (U b 11)) (n : Int)) (hput n wd hi b (dw (nx (U b 11)) (n : Int)) (U (b + 1) (dw (nx (U b 11)) (n : Int)) - 1) (lfM wd hi b w (dw (nx (U b 11)) (n : Int)) (drM b U)))).2 (hM3.land hb1 w 10 _).1 (landR wd hi b w 10 (dw (nx (U b 11)) (n : Int)) (hput n wd hi b (dw (nx (U b 11)) (n : Int)) (U (b + 1) (dw (nx (U b 11)) (n : Int)) - 1) (lfM wd hi b w (dw (nx (U b 11)) (n : Int)) (drM b U)))).1 (by omega)) mf_X1_raise km_X1_160 rfl hl rfl (Nat.le_of_ble_eq_true rfl) (by rw [hR]; exact ⟨Nat.le_of_ble_eq_true rfl, Nat.le_of_ble_eq_true rfl⟩) ⟨Nat.zero_le _, Nat.zero_le _⟩ dX1_blow_61) (fun V1 H locs hp hG hS => ?_)
            have eV := hp
            rw [eV] at hG
            exact L64_2 (hput n wd hi b (landR wd hi b w 10 (dw (nx (U b 11)) (n : Int)) (hput n wd hi b (dw (nx (U b 11)) (n : Int)) (U (b + 1) (dw (nx (U b 11)) (n : Int)) - 1) (lfM wd hi b w (dw (nx (U b 11)) (n : Int)) (drM b U)))).1 ((landR wd hi b w 10 (dw (nx (U b 11)) (n : Int)) (hput n wd hi b (dw (nx (U b 11)) (n : Int)) (U (b + 1) (dw (nx (U b 11)) (n : Int)) - 1) (lfM wd hi b w (dw (nx (U b 11)) (n : Int)) (drM b U)))).2 (b + 1) (landR wd hi b w 10 (dw (nx (U b 11)) (n : Int)) (hput n wd hi b (dw (nx (U b 11)) (n : Int)) (U (b + 1) (dw (nx (U b 11)) (n : Int)) - 1) (lfM wd hi b w (dw (nx (U b 11)) (n : Int)) (drM b U)))).1 + 1) (landR wd hi b w 10 (dw (nx (U b 11)) (n : Int)) (hput n wd hi b (dw (nx (U b 11)) (n : Int)) (U (b + 1) (dw (nx (U b 11)) (n : Int)) - 1) (lfM wd hi b w (dw (nx (U b 11)) (n : Int)) (drM b U)))).2) (by unfold liftM; rw [if_pos hlf]; unfold flyM; rw [if_neg (by omega)]) _ _ _ hG hS (lv_sub hl [2, 3, 4] rfl)
          · refine x_aload_n E dX1_blow_50 (lv_at hl 2 rfl) ?_
            refine x_iload_n E dX1_blow_51 (lv_at hl 3 rfl) ?_
            refine x_cv hG hS (x_runV E hI hG hS (xd0 hX hb) cf1 rfl (c_X1_lose l hX hb (landR wd hi b w 10 (dw (nx (U b 11)) (n : Int)) (hput n wd hi b (dw (nx (U b 11)) (n : Int)) (U (b + 1) (dw (nx (U b 11)) (n : Int)) - 1) (lfM wd hi b w (dw (nx (U b 11)) (n : Int)) (drM b U)))).2 w hw) mf_X1_lose km_X1_173 rfl hl rfl (Nat.le_of_ble_eq_true rfl) (by rw [hR]; exact ⟨Nat.le_of_ble_eq_true rfl, Nat.le_of_ble_eq_true rfl⟩) ⟨Nat.zero_le _, Nat.zero_le _⟩ dX1_blow_52) (fun V1 H locs hp hG hS => ?_)
            have eV := hp
            rw [eV] at hG
            refine x_goto E 64 dX1_blow_55 (by decide) ?_
            exact L64_2 (loseM b w (landR wd hi b w 10 (dw (nx (U b 11)) (n : Int)) (hput n wd hi b (dw (nx (U b 11)) (n : Int)) (U (b + 1) (dw (nx (U b 11)) (n : Int)) - 1) (lfM wd hi b w (dw (nx (U b 11)) (n : Int)) (drM b U)))).2) (by unfold liftM; rw [if_pos hlf]; unfold flyM; rw [if_pos (by omega)]) _ _ _ hG hS (lv_sub hl [2, 3, 4] rfl)
  exact L2_1 _ 0 V (by omega) (by omega) rfl hk (Nat.lt_succ_self _) _ _ _ hG hS (lv_sub hl [1, 2, 0] rfl)

set_option maxHeartbeats 4000000 in
set_option maxRecDepth 100000 in
theorem c_X1_bringSupply (l : Launch) {X : We} {n b : Nat} (hX : isX X n) (hb : isD b) {wd hi t : Int} (V : Mem) (hk : Mid V n wd hi b t) (ht : t + 20 ≤ 60100) : Mt l X V yX1_bringSupply cX1_bringSupply 2 none 4 91 [.ref (wa X b)] (Qv X (fun V1 => V1 = itM (supM n wd hi b) (V (b + 10) 4).toNat V)) := by
  refine Mt.go (by decide) (Nat.le_of_ble_eq_true rfl) ?_
  intro pg ev s0 mi bl mt cd ls Rm ag Qq hR hQ E hI hG hS hl
  have hl : lv_has ls 2 [(0, .ref (wa X b))] := hl
  obtain ⟨⟨hs, hh, hz⟩, ⟨r2, r3, r4, r5, r6, r7, r8, r9, r10, r11⟩, hsk, hday⟩ := id hk
  have hd := hs.2.2.2.1
  have hbn : bnd n 0 9500 (V (b + 1)) := hh.ps hd |>.1
  obtain ⟨hn1, hn2⟩ := dims.n hd
  obtain ⟨hb1, hb2⟩ := isD.ge hb
  refine x_iconst E dX1_bringSupply_0 ?_
  refine x_istore_n E [(1, .int (jI 0)), (0, .ref (wa X b))] dX1_bringSupply_1 hl (by decide) rfl (fun ls hl => ?_)
  have L2_1 : ∀ (N : Nat) (i : Int) (U : Mem), (0 ≤ i) → (i ≤ V (b + 10) 4) → (U = itM (supM n wd hi b) i.toNat V) → (Mid U n wd hi b (t + i)) → (U (b + 10) = V (b + 10)) → ((V (b + 10) 4 - i).toNat) < N → ∀ (H : Heap) (locs : List Loc) (ls : Array Slot), GW X U H → va_S (wA X) s0.heap H locs → lv_has ls 2 [(0, .ref (wa X b)), (1, .int (jI i))] → W pg l ev Rm s0 mi ag bl mt cd H locs 0 0 Qq (F0 mi 2 ls []) := by
    intro N
    induction N with
    | zero => intro i U i0 i1 eU hU e4 hN; exact absurd hN (Nat.not_lt_zero _)
    | succ N ih2 =>
      intro i U i0 i1 eU hU e4 hN H locs ls hG hS hl
      refine x_iload_n E dX1_bringSupply_2 (lv_at hl 1 rfl) ?_
      refine x_aload_n E dX1_bringSupply_3 (lv_at hl 0 rfl) ?_
      refine x_getr E hI hG (xd0 hX hb) cf1 9 (b + 10) rfl (by decide) kf_X1_22 dX1_bringSupply_4 ?_
      refine x_iconst E dX1_bringSupply_7 ?_
      refine x_iald E hI hG (xd10 hX hb) (V (b + 10) 4) (by rw [e4]) (by omega) dX1_bringSupply_8 ?_
      refine x_icmp_ge E 51 dX1_bringSupply_9 (by decide) (by unfold rg; omega) (by unfold rg; omega) (fun c9 => ?_) (fun c9 => ?_)
      · exact r_v E hQ hG hS dX1_bringSupply_51 (by rw [eU, show i = V (b + 10) 4 by omega])
      · have hw1 : U 1 1 = hi := hU.1.1.2.1
        have hw0 : U 1 0 = wd := hU.1.1.1
        have hw := dw_rg (nx (U b 11)) (m := hi) (by have := hd.2.2.2.1; omega)
        have hc := cell_of hd (x := 0) hw.1 hw.2 (by omega) (by have := hd.2.1; omega)
        simp only [Int.add_zero] at hc
        have h15 := (hU.scal hb1 (k := 15) (U b 15 + 1) (by decide)).dr hb1
        have e15 : (st U b 15 (U b 15 + 1)) b 11 = U b 11 := st_k (by decide)
        have eH : (drM b (st U b 15 (U b 15 + 1))) (b + 1) = U (b + 1) := by rw [drM_p (by omega), st_p (by omega)]
        have hd2 := hd.2.2.2
        have hd3 := hd.2.1
        have hd4 := hd.2.2.1
        refine x_aload_n E dX1_bringSupply_12 (lv_at hl 0 rfl) ?_
        refine x_dup E dX1_bringSupply_13 rfl ?_
        refine x_geti E hI hG (xd0 hX hb) cf1 15 (U b 15) rfl (by decide) rfl kf_X1_83 dX1_bringSupply_14 ?_
        refine x_iconst E dX1_bringSupply_17 ?_
        refine x_iadd E dX1_bringSupply_18 ?_
        refine x_puti E hI hG hS (xd0 hX hb) cf1 15 15 rfl rfl (by decide) rfl rfl kf_X1_83 dX1_bringSupply_19 (fun H locs hG hS => ?_)
        refine x_aload_n E dX1_bringSupply_22 (lv_at hl 0 rfl) ?_
        refine x_aload_n E dX1_bringSupply_23 (lv_at hl 0 rfl) ?_
        refine x_aload_n E dX1_bringSupply_24 (lv_at hl 0 rfl) ?_
        refine x_getr E hI hG (xd0 hX hb) cf1 0 1 rfl (by decide) kf_X1_36 dX1_bringSupply_25 ?_
        refine x_geti E hI hG (xs0 hX) cf3 1 (hi) rfl (by decide) (by rw [st_p (by omega)]; exact hw1) kf_X1_104 dX1_bringSupply_28 ?_
        refine x_ci hG hS (x_runV E hI hG hS (xd0 hX hb) cf1 rfl (c_X1_draw l hX hb (st U b 15 (U b 15 + 1)) hi (by omega)) mf_X1_draw km_X1_157 rfl hl rfl (Nat.le_of_ble_eq_true rfl) (by rw [hR]; exact ⟨Nat.le_of_ble_eq_true rfl, Nat.le_of_ble_eq_true rfl⟩) ⟨Nat.zero_le _, Nat.zero_le _⟩ dX1_bringSupply_31) (fun z1 V1 H locs hp hG hS => ?_)
        obtain ⟨ez, eV⟩ := hp
        rw [e15] at ez
        rw [eV] at hG
        rw [ez]
        refine x_aload_n E dX1_bringSupply_34 (lv_at hl 0 rfl) ?_
        refine x_getr E hI hG (xd0 hX hb) cf1 0 1 rfl (by decide) kf_X1_36 dX1_bringSupply_35 ?_
        refine x_geti E hI hG (xs0 hX) cf3 0 (wd) rfl (by decide) (by rw [drM_p (by omega), st_p (by omega)]; exact hw0) kf_X1_107 dX1_bringSupply_38 ?_
        refine x_imul E dX1_bringSupply_41 ?_
        refine x_cv hG hS (x_runV E hI hG hS (xd0 hX hb) cf1 rfl (c_X1_raise l hX hb (drM b (st U b 15 (U b 15 + 1))) h15.1 (dw (nx (U b 11)) hi * wd) ⟨hc.1, hc.2.1⟩) mf_X1_raise km_X1_160 rfl hl rfl (Nat.le_of_ble_eq_true rfl) (by rw [hR]; exact ⟨Nat.le_of_ble_eq_true rfl, Nat.le_of_ble_eq_true rfl⟩) ⟨Nat.zero_le _, Nat.zero_le _⟩ dX1_bringSupply_42) (fun V1 H locs hp hG hS => ?_)
        have eV := hp
        rw [eH] at eV
        rw [eV] at hG
        refine x_iinc E (k := 1) [(1, .int (jI (i + 1))), (0, .ref (wa X b))] dX1_bringSupply_45 hl rfl (by decide) rfl (fun ls hl => ?_)
        refine x_goto E 2 dX1_bringSupply_48 (by decide) ?_
        exact ih2 (i + 1) (supM n wd hi b U) (by omega) (by omega) (by rw [eU, show (i + 1).toNat = i.toNat + 1 by omega]; rfl) (by rw [← Int.add_assoc]; exact hU.sup hb1 (by omega)) (by unfold supM; rw [hput_p _ _ (by omega), drM_p (by omega), st_p (by omega)]; exact e4) (by omega) _ _ _ hG hS (lv_sub hl [1, 0] rfl)
  exact L2_1 _ 0 V (by omega) (by omega) rfl (by rw [Int.add_zero]; exact hk) rfl (Nat.lt_succ_self _) _ _ _ hG hS (lv_sub hl [1, 0] rfl)
end
section
section DY
variable {n b : Nat} {wd hi t : Int} {V : Mem}
theorem SK.pd {w : Nat} (h : SK V w) : SK (pdM w V) w := by
  obtain ⟨a1, a2, a3, a4⟩ := id h
  unfold pdM
  split
  · exact h
  · rename_i q0
    rcases a3 with ⟨z, -⟩ | ⟨c1, c2, c3, c4⟩
    · exact absurd z q0
    · split
      · rename_i q
        unfold SK
        rw [st_k (by decide), st_k (by decide), st_s, st_p (by omega), st_p (by omega)]
        exact ⟨a1, a2, Or.inr ⟨c1, c2, by omega, q⟩, a4⟩
      · have e2 : ∀ x : Int, st (st V w 4 0) w 3 x w 2 = V w 2 := fun x => by rw [st_k (by decide), st_k (by decide)]
        have e3 : ∀ x : Int, st (st V w 4 0) w 3 x w 3 = x := fun x => st_s _ _ _ _
        have e4 : ∀ x : Int, st (st V w 4 0) w 3 x w 4 = 0 := fun x => by rw [st_k (by decide), st_s]
        have e5 : ∀ x : Int, st (st V w 4 0) w 3 x (w + 1) = V (w + 1) := fun x => by rw [st_p (by omega), st_p (by omega)]
        have e6 : ∀ x : Int, st (st V w 4 0) w 3 x (w + 2) = V (w + 2) := fun x => by rw [st_p (by omega), st_p (by omega)]
        unfold SK
        rw [e2, e3, e4, e5, e6]
        refine ⟨a1, a2, Or.inr ?_, a4⟩
        split
        · have := a4 (V w 3 + 1) (by omega) (by assumption); omega
        · have := a4 0 (by omega) (by omega); omega
theorem pdM_p {w p : Nat} (h : p ≠ w) : pdM w V p = V p := by
  unfold pdM; split
  · rfl
  · split
    · exact st_p h
    · rw [st_p h, st_p h]
theorem Mid.pd (hb : 3 ≤ b) (h : Mid V n wd hi b t) : Mid (pdM (b + 11) V) n wd hi b t := by
  obtain ⟨⟨a1, a2, a3⟩, a4, a5, a6⟩ := h
  refine ⟨⟨a1.of (pdM_p (by omega)) (pdM_p (by omega)), ?_, ?_⟩, a4.of (pdM_p (by omega)) (pdM_p (by omega)) (pdM_p (by omega)) (pdM_p (by omega)) (pdM_p (by omega)) (pdM_p (by omega)) (pdM_p (by omega)), a5.pd, by rw [pdM_p (by omega)]; exact a6⟩
  · rw [pdM_p (by omega), pdM_p (by omega)]; exact a2
  · rw [pdM_p (by omega)]; exact a3
theorem Mid.day (hb : 3 ≤ b) (h : Mid V n wd hi b t) {d : Int} (h0 : 0 ≤ d) (h1 : d ≤ 3000) : Mid (st V b 12 d) n wd hi b t := by
  obtain ⟨⟨a1, a2, a3⟩, a4, a5, a6⟩ := h
  refine ⟨⟨a1.of (st_p (by omega)) (st_p (by omega)), ?_, ?_⟩, a4.of (st_p (by omega)) (st_p (by omega)) (st_p (by omega)) (st_p (by omega)) (st_p (by omega)) (st_p (by omega)) (st_p (by omega)), a5.of (st_p (by omega)) (st_p (by omega)) (st_p (by omega)), by rw [st_s]; exact ⟨h0, h1⟩⟩
  · rw [st_p (by omega), st_p (by omega)]; exact a2
  · rw [st_p (by omega)]; exact a3
theorem Mid.re (hb : 3 ≤ b) (h : Mid V n wd hi b t) : Mid (reM n b V) n wd hi b t := by
  obtain ⟨⟨a1, a2, a3⟩, ⟨r2, r3, r4, r5, r6, r7, r8⟩, a5, a6⟩ := h
  unfold reM
  refine ⟨⟨a1.sp (by omega) _, ?_, ?_⟩, ?_, a5.of (sp_n (by omega)) (sp_n (by omega)) (sp_n (by omega)), by rw [sp_n (by omega)]; exact a6⟩
  · rw [sp_n (by omega), sp_n (by omega)]; exact a2
  · rw [sp_n (by omega)]; exact a3
  · unfold DR
    rw [sp_n (by omega), sp_n (by omega), sp_n (by omega), sp_n (by omega), sp_n (by omega), sp_s, sp_n (by omega)]
    refine ⟨r2, r3, r4, r5, r6, fun c c0 c1 => ?_, r8⟩
    have := r7 c c0 c1
    dsimp only
    split <;> omega
theorem Mid.se (hb : 3 ≤ b) (h : Mid V n wd hi b t) : Mid (seM n b V) n wd hi b t := by
  obtain ⟨⟨a1, a2, a3⟩, ⟨r2, r3, r4, r5, r6, r7, r8⟩, a5, a6⟩ := h
  have hbn := (a2.ps a1.2.2.2.1).1
  unfold seM
  refine ⟨⟨(a1.sp (by omega) _).sp (by omega) _, ?_, ?_⟩, ?_, a5.of (sp_3 V (by omega) (by omega) _ _) (sp_3 V (by omega) (by omega) _ _) (sp_3 V (by omega) (by omega) _ _), by rw [sp_3 V (by omega) (by omega)]; exact a6⟩
  · rw [sp_3 V (by omega) (by omega), sp_3 V (by omega) (by omega)]; exact a2
  · rw [sp_3 V (by omega) (by omega)]; exact a3
  · unfold DR
    rw [sp_s, sp_ij V (by omega), sp_3 V (by omega) (by omega), sp_3 V (by omega) (by omega), sp_3 V (by omega) (by omega), sp_3 V (by omega) (by omega), sp_3 V (by omega) (by omega)]
    refine ⟨fun c c0 c1 => ?_, fun c c0 c1 => ?_, r4, r5, r6, r7, r8⟩
    · have := hbn c c0 c1
      dsimp only
      rw [if_pos ⟨c0, c1⟩]; exact this
    · have := r3 c c0 c1
      dsimp only
      split <;> omega
theorem reM_p {p : Nat} (h : p ≠ b + 7) : reM n b V p = V p := sp_n h
theorem seM_p {p : Nat} (h2 : p ≠ b + 2) (h3 : p ≠ b + 3) : seM n b V p = V p := by unfold seM; rw [sp_n h2, sp_n h3]
theorem SK.w {w : Nat} (h : SK V w) : 0 ≤ wnd w V ∧ wnd w V ≤ 4 := by
  obtain ⟨a1, a2, a3, a4⟩ := h
  unfold wnd
  split
  · omega
  · rcases a3 with ⟨z, -⟩ | ⟨c1, c2, -⟩
    · omega
    · exact (a4 _ c1 c2).1
theorem Inv.mid (h : Inv V n wd hi b) : Mid V n wd hi b (20 * V b 12) := h
theorem sups_p {p : Nat} (h0 : p ≠ b) (h1 : p ≠ b + 1) : ∀ k : Nat, itM (supM n wd hi b) k V p = V p
  | 0 => rfl
  | k + 1 => by
    show supM n wd hi b (itM (supM n wd hi b) k V) p = V p
    unfold supM
    rw [hput_p _ _ h1, drM_p h0, st_p h0]; exact sups_p h0 h1 k
theorem sups_12 : ∀ k : Nat, itM (supM n wd hi b) k V b 12 = V b 12
  | 0 => rfl
  | k + 1 => by
    show supM n wd hi b (itM (supM n wd hi b) k V) b 12 = V b 12
    unfold supM
    rw [hput_p _ _ (by omega), drM_k (by decide), st_k (by decide)]; exact sups_12 k
theorem lift_12 (w : Int) : liftM n wd hi b w V b 12 = V b 12 := by
  unfold liftM
  split
  · unfold flyM
    split
    · rw [loseM_k, landR_k _ _ _ _ (by decide), hput_p _ _ (by omega), lfM_k _ _ _ _ (by decide), drM_k (by decide)]
    · rw [hput_p _ _ (by omega), landR_k _ _ _ _ (by decide), hput_p _ _ (by omega), lfM_k _ _ _ _ (by decide), drM_k (by decide)]
  · rw [lfM_k _ _ _ _ (by decide), drM_k (by decide)]
theorem lifts_12 (w : Int) : ∀ k : Nat, itM (liftM n wd hi b w) k V b 12 = V b 12
  | 0 => rfl
  | k + 1 => (lift_12 w).trans (lifts_12 w k)
theorem Mid.A (hb : 3 ≤ b) (h : Inv V n wd hi b) (hd : V b 12 < 3000) : Mid (dayA n wd hi b V) n wd hi b (20 * (V b 12 + 1)) ∧ dayA n wd hi b V b 12 = V b 12 := by
  have hm := h.mid
  have r := hm.2.1.2.2.2.2.2.2.2.2.2
  have hdy := h.2.2.2
  unfold dayA
  split
  · refine ⟨?_, sups_12 _⟩
    have a := hm.sups hb (V (b + 10) 4).toNat (by omega)
    exact ⟨⟨a.1.1, a.1.2.1.more (by omega) (by omega), a.1.2.2⟩, a.2⟩
  · exact ⟨⟨⟨hm.1.1, hm.1.2.1.more (by omega) (by omega), hm.1.2.2⟩, hm.2⟩, rfl⟩
theorem Mid.B (hb : 3 ≤ b) (h : Mid V n wd hi b t) (w : Int) : Mid (dayB n wd hi b w V) n wd hi b t ∧ dayB n wd hi b w V b 12 = V b 12 := by
  unfold dayB
  split
  · exact ⟨h, rfl⟩
  · exact ⟨h.blow hb w n, lifts_12 w n⟩
theorem Mid.C (hb : 3 ≤ b) (h : Mid V n wd hi b t) (hd : V b 12 < 3000) : Mid (dayC n b V) n wd hi b t ∧ dayC n b V b 12 = V b 12 + 1 := by
  have e : pdM (b + 11) V b 12 = V b 12 := by rw [pdM_p (by omega)]
  have hdy := h.2.2.2
  refine ⟨((h.pd hb).day hb (by rw [e]; omega) (by rw [e]; omega)).re hb, ?_⟩
  unfold dayC
  rw [reM_p (by omega), st_s, e]
theorem Mid.E (hb : 3 ≤ b) (h : Mid V n wd hi b t) : Mid (dayE n b V) n wd hi b t ∧ dayE n b V b 12 = V b 12 := by
  unfold dayE
  split
  · exact ⟨h.se hb, by rw [seM_p (by omega) (by omega)]⟩
  · exact ⟨h, rfl⟩
theorem Inv.day (hb : 3 ≤ b) (h : Inv V n wd hi b) (hd : V b 12 < 3000) : Inv (dayM n wd hi b V) n wd hi b ∧ dayM n wd hi b V b 12 = V b 12 + 1 := by
  obtain ⟨a1, a2⟩ := Mid.A hb h hd
  obtain ⟨b1, b2⟩ := a1.B hb (wnd (b + 11) V)
  obtain ⟨c1, c2⟩ := b1.C hb (by omega)
  obtain ⟨d1, d2⟩ := c1.E hb
  have e : dayM n wd hi b V b 12 = V b 12 + 1 := by unfold dayM; rw [d2, c2, b2, a2]
  refine ⟨?_, e⟩
  unfold Inv
  rw [e]
  have q := d1.2.2.2
  exact ⟨d1.1, d1.2.1, d1.2.2.1, by rw [← e]; exact q⟩
theorem Inv.pass (hb : 3 ≤ b) (h : Inv V n wd hi b) : ∀ k : Nat, V b 12 + (k : Int) ≤ 3000 → Inv (psM n wd hi b k V) n wd hi b ∧ psM n wd hi b k V b 12 = V b 12 + (k : Int)
  | 0, _ => ⟨h, by show V b 12 = V b 12 + 0; omega⟩
  | k + 1, hk => by
    obtain ⟨a, e⟩ := Inv.pass hb h k (by omega)
    have := a.day hb (by omega)
    refine ⟨this.1, ?_⟩
    show dayM n wd hi b (psM n wd hi b k V) b 12 = _
    rw [this.2, e]; omega
/-! loops over the cells -/
def reF (V : Mem) (b : Nat) (i : Int) : Int → Int := fun c => if 0 ≤ c ∧ c < i ∧ 0 < V (b + 6) c ∧ V (b + 7) c = -1 ∧ V (b + 6) c ≤ V (b + 1) c then V b 12 else V (b + 7) c
theorem reF_0 : reF V b 0 = V (b + 7) := by funext c; unfold reF; rw [if_neg (by omega)]
theorem reF_yes {i : Int} (h0 : 0 ≤ i) (hq : 0 < V (b + 6) i ∧ V (b + 7) i = -1 ∧ V (b + 6) i ≤ V (b + 1) i) : ui (reF V b i) i (V b 12) = reF V b (i + 1) := by
  funext c; unfold ui reF
  by_cases e : c = i
  · subst e; rw [if_pos rfl, if_pos ⟨h0, by omega, hq⟩]
  · rw [if_neg e]
    by_cases q : 0 ≤ c ∧ c < i ∧ 0 < V (b + 6) c ∧ V (b + 7) c = -1 ∧ V (b + 6) c ≤ V (b + 1) c
    · rw [if_pos q, if_pos ⟨q.1, by omega, q.2.2⟩]
    · rw [if_neg q, if_neg (fun z => q ⟨z.1, by omega, z.2.2⟩)]
theorem reF_no {i : Int} (hq : ¬ (0 < V (b + 6) i ∧ V (b + 7) i = -1 ∧ V (b + 6) i ≤ V (b + 1) i)) : reF V b i = reF V b (i + 1) := by
  funext c; unfold reF
  by_cases e : c = i
  · subst e; rw [if_neg (by omega), if_neg (fun z => hq z.2.2)]
  · by_cases q : 0 ≤ c ∧ c < i ∧ 0 < V (b + 6) c ∧ V (b + 7) c = -1 ∧ V (b + 6) c ≤ V (b + 1) c
    · rw [if_pos q, if_pos ⟨q.1, by omega, q.2.2⟩]
    · rw [if_neg q, if_neg (fun z => q ⟨z.1, by omega, z.2.2⟩)]
theorem reF_i {i : Int} : reF V b i i = V (b + 7) i := by unfold reF; rw [if_neg (by omega)]
def seV (V : Mem) (b : Nat) (c : Int) : Int := max 0 (min 100 (V (b + 3) c + grw (V (b + 1) c - V (b + 2) c) - V (b + 5) c))
def seG (V : Mem) (b : Nat) (i : Int) : Int → Int := fun c => if 0 ≤ c ∧ c < i ∧ 0 < V (b + 3) c then seV V b c else V (b + 3) c
def seL (V : Mem) (b : Nat) (i : Int) : Int → Int := fun c => if 0 ≤ c ∧ c < i then V (b + 1) c else V (b + 2) c
theorem seG_0 : seG V b 0 = V (b + 3) := by funext c; unfold seG; rw [if_neg (by omega)]
theorem seL_0 : seL V b 0 = V (b + 2) := by funext c; unfold seL; rw [if_neg (by omega)]
theorem seG_i {i : Int} : seG V b i i = V (b + 3) i := by unfold seG; rw [if_neg (by omega)]
theorem seL_i {i : Int} : seL V b i i = V (b + 2) i := by unfold seL; rw [if_neg (by omega)]
theorem seG_yes {i : Int} (h0 : 0 ≤ i) (hq : 0 < V (b + 3) i) : ui (seG V b i) i (seV V b i) = seG V b (i + 1) := by
  funext c; unfold ui seG
  by_cases e : c = i
  · subst e; rw [if_pos rfl, if_pos ⟨h0, by omega, hq⟩]
  · rw [if_neg e]
    by_cases q : 0 ≤ c ∧ c < i ∧ 0 < V (b + 3) c
    · rw [if_pos q, if_pos ⟨q.1, by omega, q.2.2⟩]
    · rw [if_neg q, if_neg (fun z => q ⟨z.1, by omega, z.2.2⟩)]
theorem seG_no {i : Int} (hq : ¬ 0 < V (b + 3) i) : seG V b i = seG V b (i + 1) := by
  funext c; unfold seG
  by_cases e : c = i
  · subst e; rw [if_neg (by omega), if_neg (fun z => hq z.2.2)]
  · by_cases q : 0 ≤ c ∧ c < i ∧ 0 < V (b + 3) c
    · rw [if_pos q, if_pos ⟨q.1, by omega, q.2.2⟩]
    · rw [if_neg q, if_neg (fun z => q ⟨z.1, by omega, z.2.2⟩)]
theorem seL_s {i : Int} (h0 : 0 ≤ i) : ui (seL V b i) i (V (b + 1) i) = seL V b (i + 1) := by
  funext c; unfold ui seL
  by_cases e : c = i
  · subst e; rw [if_pos rfl, if_pos ⟨h0, by omega⟩]
  · rw [if_neg e]
    by_cases q : 0 ≤ c ∧ c < i
    · rw [if_pos q, if_pos ⟨q.1, by omega⟩]
    · rw [if_neg q, if_neg (fun z => q ⟨z.1, by omega⟩)]
theorem grw_rg (d : Int) : -30 ≤ grw d ∧ grw d ≤ 6 := by
  unfold grw
  split; omega
  split; omega
  split; omega
  split; omega
  split <;> omega
end DY

set_option maxHeartbeats 4000000 in
set_option maxRecDepth 100000 in
theorem c_X1_growth (l : Launch) {X : We} (V : Mem) (d : Int) (hd : rg d) : Mt l X V yX1_growth cX1_growth 1 (some .int) 0 0 [.int (jI d)] (Qi X (fun z V1 => z = grw d ∧ V1 = V)) := by
  refine Mt.go (by decide) (Nat.le_of_ble_eq_true rfl) ?_
  intro pg ev s0 mi bl mt cd ls Rm ag Qq hR hQ E hI hG hS hl
  have hl : lv_has ls 1 [(0, .int (jI d))] := hl
  unfold rg at hd
  have L42_1 : ∀ (z : Int), (z = grw d) → ∀ (H : Heap) (locs : List Loc) (ls : Array Slot), GW X V H → va_S (wA X) s0.heap H locs → lv_has ls 1 [] → W pg l ev Rm s0 mi ag bl mt cd H locs 0 0 Qq (F0 mi 42 ls [.int (jI z)]) := by
    intro z hz H locs ls hG hS hl
    exact r_i E hQ hG hS dX1_growth_42 (⟨hz, rfl⟩)
  refine x_iload_n E dX1_growth_0 (lv_at hl 0 rfl) ?_
  refine x_bipush E dX1_growth_1 (by decide) ?_
  refine x_icmp_ge E 9 dX1_growth_3 (by decide) (by unfold rg; omega) (by unfold rg; omega) (fun c3 => ?_) (fun c3 => ?_)
  · refine x_iload_n E dX1_growth_9 (lv_at hl 0 rfl) ?_
    refine x_if_ge E 16 dX1_growth_10 (by decide) (by unfold rg; omega) (fun c10 => ?_) (fun c10 => ?_)
    · refine x_iload_n E dX1_growth_16 (lv_at hl 0 rfl) ?_
      refine x_if_ne E 22 dX1_growth_17 (by decide) (by unfold rg; omega) (fun c17 => ?_) (fun c17 => ?_)
      · refine x_iload_n E dX1_growth_22 (lv_at hl 0 rfl) ?_
        refine x_iconst E dX1_growth_23 ?_
        refine x_icmp_gt E 30 dX1_growth_24 (by decide) (by unfold rg; omega) (by unfold rg; omega) (fun c24 => ?_) (fun c24 => ?_)
        · refine x_iload_n E dX1_growth_30 (lv_at hl 0 rfl) ?_
          refine x_bipush E dX1_growth_31 (by decide) ?_
          refine x_icmp_gt E 40 dX1_growth_33 (by decide) (by unfold rg; omega) (by unfold rg; omega) (fun c33 => ?_) (fun c33 => ?_)
          · refine x_bipush E dX1_growth_40 (by decide) ?_
            exact L42_1 (-30) (by unfold grw; rw [if_neg (by omega), if_neg (by omega), if_neg (by omega), if_neg (by omega), if_neg (by omega)]) _ _ _ hG hS (lv_sub hl [] rfl)
          · refine x_iconst E dX1_growth_36 ?_
            refine x_goto E 42 dX1_growth_37 (by decide) ?_
            exact L42_1 2 (by unfold grw; rw [if_neg (by omega), if_neg (by omega), if_neg (by omega), if_neg (by omega), if_pos (by omega)]) _ _ _ hG hS (lv_sub hl [] rfl)
        · refine x_bipush E dX1_growth_27 (by decide) ?_
          exact r_i E hQ hG hS dX1_growth_29 (⟨by unfold grw; rw [if_neg (by omega), if_neg (by omega), if_neg (by omega), if_pos (by omega)], rfl⟩)
      · refine x_iconst E dX1_growth_20 ?_
        exact r_i E hQ hG hS dX1_growth_21 (⟨by unfold grw; rw [if_neg (by omega), if_neg (by omega), if_pos (by omega)], rfl⟩)
    · refine x_bipush E dX1_growth_13 (by decide) ?_
      exact r_i E hQ hG hS dX1_growth_15 (⟨by unfold grw; rw [if_neg (by omega), if_pos (by omega)], rfl⟩)
  · refine x_bipush E dX1_growth_6 (by decide) ?_
    exact r_i E hQ hG hS dX1_growth_8 (⟨by unfold grw; rw [if_pos (by omega)], rfl⟩)

set_option maxHeartbeats 4000000 in
set_option maxRecDepth 100000 in
theorem c_X7_isWithin (l : Launch) {X : We} (V : Mem) (v lo up : Int) (h1 : rg v) (h2 : rg lo) (h3 : rg up) : Mt l X V yX7_isWithin cX7_isWithin 3 (some .boolean) 0 0 [.int (jI v), .int (jI lo), .int (jI up)] (Qi X (fun z V1 => z = b01 (lo ≤ v ∧ v ≤ up) ∧ V1 = V)) := by
  refine Mt.go (by decide) (Nat.le_of_ble_eq_true rfl) ?_
  intro pg ev s0 mi bl mt cd ls Rm ag Qq hR hQ E hI hG hS hl
  have hl : lv_has ls 3 [(0, .int (jI v)), (1, .int (jI lo)), (2, .int (jI up))] := hl
  unfold rg at h1 h2 h3
  have L15_1 : ∀ (z : Int), (z = b01 (lo ≤ v ∧ v ≤ up)) → ∀ (H : Heap) (locs : List Loc) (ls : Array Slot), GW X V H → va_S (wA X) s0.heap H locs → lv_has ls 3 [] → W pg l ev Rm s0 mi ag bl mt cd H locs 0 0 Qq (F0 mi 15 ls [.int (jI z)]) := by
    intro z hz H locs ls hG hS hl
    exact r_z E hQ hG hS dX7_isWithin_15 (by rw [hz]; exact b01_c) (⟨hz, rfl⟩)
  refine x_iload_n E dX7_isWithin_0 (lv_at hl 0 rfl) ?_
  refine x_iload_n E dX7_isWithin_1 (lv_at hl 1 rfl) ?_
  refine x_icmp_lt E 14 dX7_isWithin_2 (by decide) (by unfold rg; omega) (by unfold rg; omega) (fun c2 => ?_) (fun c2 => ?_)
  · refine x_iconst E dX7_isWithin_14 ?_
    exact L15_1 0 ((b01_0 (by omega)).symm) _ _ _ hG hS (lv_sub hl [] rfl)
  · refine x_iload_n E dX7_isWithin_5 (lv_at hl 0 rfl) ?_
    refine x_iload_n E dX7_isWithin_6 (lv_at hl 2 rfl) ?_
    refine x_icmp_gt E 14 dX7_isWithin_7 (by decide) (by unfold rg; omega) (by unfold rg; omega) (fun c7 => ?_) (fun c7 => ?_)
    · refine x_iconst E dX7_isWithin_14 ?_
      exact L15_1 0 ((b01_0 (by omega)).symm) _ _ _ hG hS (lv_sub hl [] rfl)
    · refine x_iconst E dX7_isWithin_10 ?_
      refine x_goto E 15 dX7_isWithin_11 (by decide) ?_
      exact L15_1 1 ((b01_1 (by omega)).symm) _ _ _ hG hS (lv_sub hl [] rfl)

set_option maxHeartbeats 4000000 in
set_option maxRecDepth 100000 in
theorem c_X7_nearest (l : Launch) {X : We} (V : Mem) (v lo up : Int) (h1 : rg v) (h2 : rg lo) (h3 : rg up) : Mt l X V yX7_nearest cX7_nearest 3 (some .int) 1 24 [.int (jI v), .int (jI lo), .int (jI up)] (Qi X (fun z V1 => z = max lo (min up v) ∧ V1 = V)) := by
  refine Mt.go (by decide) (Nat.le_of_ble_eq_true rfl) ?_
  intro pg ev s0 mi bl mt cd ls Rm ag Qq hR hQ E hI hG hS hl
  have hl : lv_has ls 3 [(0, .int (jI v)), (1, .int (jI lo)), (2, .int (jI up))] := hl
  unfold rg at h1 h2 h3
  refine x_iload_n E dX7_nearest_0 (lv_at hl 1 rfl) ?_
  refine x_iload_n E dX7_nearest_1 (lv_at hl 2 rfl) ?_
  refine x_iload_n E dX7_nearest_2 (lv_at hl 0 rfl) ?_
  refine x_min E hl km_X7_190 (by rw [hR]; exact ⟨Nat.le_of_ble_eq_true rfl, Nat.le_of_ble_eq_true rfl⟩) ⟨Nat.zero_le _, Nat.zero_le _⟩ (by unfold rg; omega) (by unfold rg; omega) dX7_nearest_3 ?_
  refine x_max E hl km_X7_195 (by rw [hR]; exact ⟨Nat.le_of_ble_eq_true rfl, Nat.le_of_ble_eq_true rfl⟩) ⟨Nat.zero_le _, Nat.zero_le _⟩ (by unfold rg; omega) (by unfold rg; omega) dX7_nearest_6 ?_
  exact r_i E hQ hG hS dX7_nearest_9 (⟨rfl, rfl⟩)

set_option maxHeartbeats 4000000 in
set_option maxRecDepth 100000 in
theorem c_X5_next (l : Launch) {X : We} {n w : Nat} (hX : isX X n) (hw : isW w) (V : Mem) (hk : SK V w) : Mt l X V yX5_next cX5_next 1 (some .int) 0 0 [.ref (wa X w)] (Qi X (fun z V1 => z = wnd w V ∧ V1 = V)) := by
  refine Mt.go (by decide) (Nat.le_of_ble_eq_true rfl) ?_
  intro pg ev s0 mi bl mt cd ls Rm ag Qq hR hQ E hI hG hS hl
  have hl : lv_has ls 1 [(0, .ref (wa X w))] := hl
  obtain ⟨a1, a2, a3, a4⟩ := id hk
  have L43_1 : ∀ (z : Int), (z = wnd w V) → ∀ (H : Heap) (locs : List Loc) (ls : Array Slot), GW X V H → va_S (wA X) s0.heap H locs → lv_has ls 1 [] → W pg l ev Rm s0 mi ag bl mt cd H locs 0 0 Qq (F0 mi 43 ls [.int (jI z)]) := by
    intro z hz H locs ls hG hS hl
    exact r_i E hQ hG hS dX5_next_43 (⟨hz, rfl⟩)
  have L42_2 : (V w 2 = 0) → ∀ (H : Heap) (locs : List Loc) (ls : Array Slot), GW X V H → va_S (wA X) s0.heap H locs → lv_has ls 1 [] → W pg l ev Rm s0 mi ag bl mt cd H locs 0 0 Qq (F0 mi 42 ls []) := by
    intro  hy H locs ls hG hS hl
    refine x_iconst E dX5_next_42 ?_
    exact L43_1 4 (by unfold wnd; rw [if_pos hy]) _ _ _ hG hS (lv_sub hl [] rfl)
  refine x_aload_n E dX5_next_0 (lv_at hl 0 rfl) ?_
  refine x_geti E hI hG (xw0 hX hw) cf5 3 (V w 3) rfl (by decide) rfl kf_X5_22 dX5_next_1 ?_
  refine x_if_lt E 42 dX5_next_4 (by decide) (by unfold rg; omega) (fun c4 => ?_) (fun c4 => ?_)
  · exact L42_2  (by omega) _ _ _ hG hS (lv_sub hl [] rfl)
  · refine x_aload_n E dX5_next_7 (lv_at hl 0 rfl) ?_
    refine x_geti E hI hG (xw0 hX hw) cf5 3 (V w 3) rfl (by decide) rfl kf_X5_22 dX5_next_8 ?_
    refine x_aload_n E dX5_next_11 (lv_at hl 0 rfl) ?_
    refine x_geti E hI hG (xw0 hX hw) cf5 2 (V w 2) rfl (by decide) rfl kf_X5_18 dX5_next_12 ?_
    refine x_icmp_ge E 42 dX5_next_15 (by decide) (by unfold rg; omega) (by unfold rg; omega) (fun c15 => ?_) (fun c15 => ?_)
    · exact L42_2  (by omega) _ _ _ hG hS (lv_sub hl [] rfl)
    · refine x_aload_n E dX5_next_18 (lv_at hl 0 rfl) ?_
      refine x_geti E hI hG (xw0 hX hw) cf5 3 (V w 3) rfl (by decide) rfl kf_X5_22 dX5_next_19 ?_
      refine x_aload_n E dX5_next_22 (lv_at hl 0 rfl) ?_
      refine x_getr E hI hG (xw0 hX hw) cf5 0 (w + 1) rfl (by decide) kf_X5_9 dX5_next_23 ?_
      refine x_alen E hI hG (xw1 hX hw) (by decide) dX5_next_26 ?_
      refine x_icmp_ge E 42 dX5_next_27 (by decide) (by unfold rg; omega) (by unfold rg; omega) (fun c27 => ?_) (fun c27 => ?_)
      · exact L42_2  (by omega) _ _ _ hG hS (lv_sub hl [] rfl)
      · refine x_aload_n E dX5_next_30 (lv_at hl 0 rfl) ?_
        refine x_getr E hI hG (xw0 hX hw) cf5 0 (w + 1) rfl (by decide) kf_X5_9 dX5_next_31 ?_
        refine x_aload_n E dX5_next_34 (lv_at hl 0 rfl) ?_
        refine x_geti E hI hG (xw0 hX hw) cf5 3 (V w 3) rfl (by decide) rfl kf_X5_22 dX5_next_35 ?_
        refine x_iald E hI hG (xw1 hX hw) (V (w + 1) (V w 3)) rfl (by omega) dX5_next_38 ?_
        refine x_goto E 43 dX5_next_39 (by decide) ?_
        exact L43_1 (V (w + 1) (V w 3)) (by unfold wnd; rw [if_neg (by omega)]) _ _ _ hG hS (lv_sub hl [] rfl)

set_option maxHeartbeats 4000000 in
set_option maxRecDepth 100000 in
theorem c_X5_passDay (l : Launch) {X : We} {n w : Nat} (hX : isX X n) (hw : isW w) (V : Mem) (hk : SK V w) : Mt l X V yX5_passDay cX5_passDay 1 none 0 0 [.ref (wa X w)] (Qv X (fun V1 => V1 = pdM w V)) := by
  refine Mt.go (by decide) (Nat.le_of_ble_eq_true rfl) ?_
  intro pg ev s0 mi bl mt cd ls Rm ag Qq hR hQ E hI hG hS hl
  have hl : lv_has ls 1 [(0, .ref (wa X w))] := hl
  obtain ⟨a1, a2, a3, a4⟩ := id hk
  have L30_1 : (V w 2 = 0) → ∀ (H : Heap) (locs : List Loc) (ls : Array Slot), GW X V H → va_S (wA X) s0.heap H locs → lv_has ls 1 [] → W pg l ev Rm s0 mi ag bl mt cd H locs 0 0 Qq (F0 mi 30 ls []) := by
    intro  hy H locs ls hG hS hl
    exact r_v E hQ hG hS dX5_passDay_30 (by unfold pdM; rw [if_pos hy])
  refine x_aload_n E dX5_passDay_0 (lv_at hl 0 rfl) ?_
  refine x_geti E hI hG (xw0 hX hw) cf5 3 (V w 3) rfl (by decide) rfl kf_X5_22 dX5_passDay_1 ?_
  refine x_if_lt E 30 dX5_passDay_4 (by decide) (by unfold rg; omega) (fun c4 => ?_) (fun c4 => ?_)
  · exact L30_1  (by omega) _ _ _ hG hS (lv_sub hl [] rfl)
  · refine x_aload_n E dX5_passDay_7 (lv_at hl 0 rfl) ?_
    refine x_geti E hI hG (xw0 hX hw) cf5 3 (V w 3) rfl (by decide) rfl kf_X5_22 dX5_passDay_8 ?_
    refine x_aload_n E dX5_passDay_11 (lv_at hl 0 rfl) ?_
    refine x_geti E hI hG (xw0 hX hw) cf5 2 (V w 2) rfl (by decide) rfl kf_X5_18 dX5_passDay_12 ?_
    refine x_icmp_ge E 30 dX5_passDay_15 (by decide) (by unfold rg; omega) (by unfold rg; omega) (fun c15 => ?_) (fun c15 => ?_)
    · exact L30_1  (by omega) _ _ _ hG hS (lv_sub hl [] rfl)
    · refine x_aload_n E dX5_passDay_18 (lv_at hl 0 rfl) ?_
      refine x_geti E hI hG (xw0 hX hw) cf5 3 (V w 3) rfl (by decide) rfl kf_X5_22 dX5_passDay_19 ?_
      refine x_aload_n E dX5_passDay_22 (lv_at hl 0 rfl) ?_
      refine x_getr E hI hG (xw0 hX hw) cf5 1 (w + 2) rfl (by decide) kf_X5_15 dX5_passDay_23 ?_
      refine x_alen E hI hG (xw2 hX hw) (by decide) dX5_passDay_26 ?_
      refine x_icmp_lt E 31 dX5_passDay_27 (by decide) (by unfold rg; omega) (by unfold rg; omega) (fun c27 => ?_) (fun c27 => ?_)
      · have q0 : V w 2 ≠ 0 := by omega
        have hk4 := a4 (V w 3) (by omega) (by omega)
        have L89_2 : ∀ (U : Mem), (U = pdM w V) → ∀ (H : Heap) (locs : List Loc) (ls : Array Slot), GW X U H → va_S (wA X) s0.heap H locs → lv_has ls 1 [] → W pg l ev Rm s0 mi ag bl mt cd H locs 0 0 Qq (F0 mi 89 ls []) := by
          intro U hu H locs ls hG hS hl
          exact r_v E hQ hG hS dX5_passDay_89 hu
        refine x_aload_n E dX5_passDay_31 (lv_at hl 0 rfl) ?_
        refine x_dup E dX5_passDay_32 rfl ?_
        refine x_geti E hI hG (xw0 hX hw) cf5 4 (V w 4) rfl (by decide) rfl kf_X5_25 dX5_passDay_33 ?_
        refine x_iconst E dX5_passDay_36 ?_
        refine x_iadd E dX5_passDay_37 ?_
        refine x_puti E hI hG hS (xw0 hX hw) cf5 4 4 rfl rfl (by decide) rfl rfl kf_X5_25 dX5_passDay_38 (fun H locs hG hS => ?_)
        refine x_aload_n E dX5_passDay_41 (lv_at hl 0 rfl) ?_
        refine x_geti E hI hG (xw0 hX hw) cf5 4 (V w 4 + 1) rfl (by decide) (show (st V w 4 ((V w 4) + 1)) w 4 = V w 4 + 1 from (st_s _ _ _ _)) kf_X5_25 dX5_passDay_42 ?_
        refine x_aload_n E dX5_passDay_45 (lv_at hl 0 rfl) ?_
        refine x_getr E hI hG (xw0 hX hw) cf5 1 (w + 2) rfl (by decide) kf_X5_15 dX5_passDay_46 ?_
        refine x_aload_n E dX5_passDay_49 (lv_at hl 0 rfl) ?_
        refine x_geti E hI hG (xw0 hX hw) cf5 3 (V w 3) rfl (by decide) (show (st V w 4 ((V w 4) + 1)) w 3 = V w 3 from (by rw [st_k (by decide)])) kf_X5_22 dX5_passDay_50 ?_
        refine x_iald E hI hG (xw2 hX hw) (V (w + 2) (V w 3)) (by rw [st_p (by omega)]) (by omega) dX5_passDay_53 ?_
        refine x_icmp_lt E 89 dX5_passDay_54 (by decide) (by unfold rg; omega) (by unfold rg; omega) (fun c54 => ?_) (fun c54 => ?_)
        · exact L89_2 (st V w 4 (V w 4 + 1)) (by unfold pdM; rw [if_neg q0, if_pos c54]) _ _ _ hG hS (lv_sub hl [] rfl)
        · refine x_aload_n E dX5_passDay_57 (lv_at hl 0 rfl) ?_
          refine x_iconst E dX5_passDay_58 ?_
          refine x_puti E hI hG hS (xw0 hX hw) cf5 4 4 rfl rfl (by decide) rfl rfl kf_X5_25 dX5_passDay_59 (fun H locs hG hS => ?_)
          rw [show (st (st V w 4 ((V w 4) + 1)) w 4 0) = (st V w 4 0) from by rw [st_sp, st_sp, sp_s, sp_sp, ui_ui, st_sp]] at hG
          have L86_3 : ∀ (z : Int), (z = if V w 3 + 1 < V w 2 then V w 3 + 1 else 0) → ∀ (H : Heap) (locs : List Loc) (ls : Array Slot), GW X (st V w 4 0) H → va_S (wA X) s0.heap H locs → lv_has ls 1 [] → W pg l ev Rm s0 mi ag bl mt cd H locs 0 0 Qq (F0 mi 86 ls [.int (jI z), .ref (wa X w)]) := by
            intro z hz H locs ls hG hS hl
            refine x_puti E hI hG hS (xw0 hX hw) cf5 3 3 rfl rfl (by decide) rfl rfl kf_X5_22 dX5_passDay_86 (fun H locs hG hS => ?_)
            exact L89_2 (st (st V w 4 0) w 3 z) (by unfold pdM; rw [if_neg q0, if_neg c54, hz]) _ _ _ hG hS (lv_sub hl [] rfl)
          refine x_aload_n E dX5_passDay_62 (lv_at hl 0 rfl) ?_
          refine x_aload_n E dX5_passDay_63 (lv_at hl 0 rfl) ?_
          refine x_geti E hI hG (xw0 hX hw) cf5 3 (V w 3) rfl (by decide) (show (st V w 4 0) w 3 = V w 3 from (st_k (by decide))) kf_X5_22 dX5_passDay_64 ?_
          refine x_iconst E dX5_passDay_67 ?_
          refine x_iadd E dX5_passDay_68 ?_
          refine x_aload_n E dX5_passDay_69 (lv_at hl 0 rfl) ?_
          refine x_geti E hI hG (xw0 hX hw) cf5 2 (V w 2) rfl (by decide) (show (st V w 4 0) w 2 = V w 2 from (st_k (by decide))) kf_X5_18 dX5_passDay_70 ?_
          refine x_icmp_ge E 85 dX5_passDay_73 (by decide) (by unfold rg; omega) (by unfold rg; omega) (fun c73 => ?_) (fun c73 => ?_)
          · refine x_iconst E dX5_passDay_85 ?_
            exact L86_3 0 (by rw [if_neg (by omega)]) _ _ _ hG hS (lv_sub hl [] rfl)
          · refine x_aload_n E dX5_passDay_76 (lv_at hl 0 rfl) ?_
            refine x_geti E hI hG (xw0 hX hw) cf5 3 (V w 3) rfl (by decide) (show (st V w 4 0) w 3 = V w 3 from (st_k (by decide))) kf_X5_22 dX5_passDay_77 ?_
            refine x_iconst E dX5_passDay_80 ?_
            refine x_iadd E dX5_passDay_81 ?_
            refine x_goto E 86 dX5_passDay_82 (by decide) ?_
            exact L86_3 (V w 3 + 1) (by rw [if_pos (by omega)]) _ _ _ hG hS (lv_sub hl [] rfl)
      · omega

set_option maxHeartbeats 4000000 in
set_option maxRecDepth 100000 in
theorem c_X1_reachHouses (l : Launch) {X : We} {n b : Nat} (hX : isX X n) (hb : isD b) {wd hi t : Int} (V : Mem) (hk : Mid V n wd hi b t) : Mt l X V yX1_reachHouses cX1_reachHouses 2 none 0 0 [.ref (wa X b)] (Qv X (fun V1 => V1 = reM n b V)) := by
  refine Mt.go (by decide) (Nat.le_of_ble_eq_true rfl) ?_
  intro pg ev s0 mi bl mt cd ls Rm ag Qq hR hQ E hI hG hS hl
  have hl : lv_has ls 2 [(0, .ref (wa X b))] := hl
  obtain ⟨⟨hs, hh, hz⟩, ⟨r2, r3, r4, r5, r6, r7, r8, r9, r10, r11⟩, hsk, hday⟩ := id hk
  have hd := hs.2.2.2.1
  have hbn : bnd n 0 9500 (V (b + 1)) := hh.ps hd |>.1
  obtain ⟨hn1, hn2⟩ := dims.n hd
  obtain ⟨hb1, hb2⟩ := isD.ge hb
  rw [show V = sp V (b + 7) (reF V b 0) by rw [reF_0, sp_self]] at hG
  refine x_iconst E dX1_reachHouses_0 ?_
  refine x_istore_n E [(1, .int (jI 0)), (0, .ref (wa X b))] dX1_reachHouses_1 hl (by decide) rfl (fun ls hl => ?_)
  have L2_1 : ∀ (N : Nat) (i : Int), (0 ≤ i) → (i ≤ (n : Int)) → (((n : Int) - i).toNat) < N → ∀ (H : Heap) (locs : List Loc) (ls : Array Slot), GW X (sp V (b + 7) (reF V b i)) H → va_S (wA X) s0.heap H locs → lv_has ls 2 [(0, .ref (wa X b)), (1, .int (jI i))] → W pg l ev Rm s0 mi ag bl mt cd H locs 0 0 Qq (F0 mi 2 ls []) := by
    intro N
    induction N with
    | zero => intro i i0 i1 hN; exact absurd hN (Nat.not_lt_zero _)
    | succ N ih2 =>
      intro i i0 i1 hN H locs ls hG hS hl
      refine x_iload_n E dX1_reachHouses_2 (lv_at hl 1 rfl) ?_
      refine x_aload_n E dX1_reachHouses_3 (lv_at hl 0 rfl) ?_
      refine x_getr E hI hG (xd0 hX hb) cf1 1 (b + 1) rfl (by decide) kf_X1_45 dX1_reachHouses_4 ?_
      refine x_alen E hI hG (xd1 hX hb) (by decide) dX1_reachHouses_7 ?_
      refine x_icmp_ge E 61 dX1_reachHouses_8 (by decide) (by unfold rg; omega) (by unfold rg; omega) (fun c8 => ?_) (fun c8 => ?_)
      · exact r_v E hQ hG hS dX1_reachHouses_61 (by unfold reM; rw [show i = (n : Int) by omega]; rfl)
      · have q1 := r6 i i0 (by omega)
        have q2 := r7 i i0 (by omega)
        have q3 := hbn i i0 (by omega)
        have L55_2 : ∀ (H : Heap) (locs : List Loc) (ls : Array Slot), GW X (sp V (b + 7) (reF V b (i + 1))) H → va_S (wA X) s0.heap H locs → lv_has ls 2 [(0, .ref (wa X b)), (1, .int (jI i))] → W pg l ev Rm s0 mi ag bl mt cd H locs 0 0 Qq (F0 mi 55 ls []) := by
          intro   H locs ls hG hS hl
          refine x_iinc E (k := 1) [(1, .int (jI (i + 1))), (0, .ref (wa X b))] dX1_reachHouses_55 hl rfl (by decide) rfl (fun ls hl => ?_)
          refine x_goto E 2 dX1_reachHouses_58 (by decide) ?_
          exact ih2 (i + 1) (by omega) (by omega) (by omega) _ _ _ hG hS (lv_sub hl [1, 0] rfl)
        refine x_aload_n E dX1_reachHouses_11 (lv_at hl 0 rfl) ?_
        refine x_getr E hI hG (xd0 hX hb) cf1 6 (b + 6) rfl (by decide) kf_X1_60 dX1_reachHouses_12 ?_
        refine x_iload_n E dX1_reachHouses_15 (lv_at hl 1 rfl) ?_
        refine x_iald E hI hG (xd6 hX hb) (V (b + 6) i) (by rw [sp_n (by omega)]) (by omega) dX1_reachHouses_16 ?_
        refine x_if_le E 55 dX1_reachHouses_17 (by decide) (by unfold rg; omega) (fun c17 => ?_) (fun c17 => ?_)
        · rw [reF_no (by omega)] at hG
          exact L55_2   _ _ _ hG hS (lv_sub hl [0, 1] rfl)
        · refine x_aload_n E dX1_reachHouses_20 (lv_at hl 0 rfl) ?_
          refine x_getr E hI hG (xd0 hX hb) cf1 7 (b + 7) rfl (by decide) kf_X1_63 dX1_reachHouses_21 ?_
          refine x_iload_n E dX1_reachHouses_24 (lv_at hl 1 rfl) ?_
          refine x_iald E hI hG (xd7 hX hb) (V (b + 7) i) (by rw [sp_s]; exact reF_i) (by omega) dX1_reachHouses_25 ?_
          refine x_iconst E dX1_reachHouses_26 ?_
          refine x_icmp_ne E 55 dX1_reachHouses_27 (by decide) (by unfold rg; omega) (by unfold rg; omega) (fun c27 => ?_) (fun c27 => ?_)
          · rw [reF_no (by omega)] at hG
            exact L55_2   _ _ _ hG hS (lv_sub hl [0, 1] rfl)
          · refine x_aload_n E dX1_reachHouses_30 (lv_at hl 0 rfl) ?_
            refine x_getr E hI hG (xd0 hX hb) cf1 1 (b + 1) rfl (by decide) kf_X1_45 dX1_reachHouses_31 ?_
            refine x_iload_n E dX1_reachHouses_34 (lv_at hl 1 rfl) ?_
            refine x_iald E hI hG (xd1 hX hb) (V (b + 1) i) (by rw [sp_n (by omega)]) (by omega) dX1_reachHouses_35 ?_
            refine x_aload_n E dX1_reachHouses_36 (lv_at hl 0 rfl) ?_
            refine x_getr E hI hG (xd0 hX hb) cf1 6 (b + 6) rfl (by decide) kf_X1_60 dX1_reachHouses_37 ?_
            refine x_iload_n E dX1_reachHouses_40 (lv_at hl 1 rfl) ?_
            refine x_iald E hI hG (xd6 hX hb) (V (b + 6) i) (by rw [sp_n (by omega)]) (by omega) dX1_reachHouses_41 ?_
            refine x_icmp_lt E 55 dX1_reachHouses_42 (by decide) (by unfold rg; omega) (by unfold rg; omega) (fun c42 => ?_) (fun c42 => ?_)
            · rw [reF_no (by omega)] at hG
              exact L55_2   _ _ _ hG hS (lv_sub hl [0, 1] rfl)
            · refine x_aload_n E dX1_reachHouses_45 (lv_at hl 0 rfl) ?_
              refine x_getr E hI hG (xd0 hX hb) cf1 7 (b + 7) rfl (by decide) kf_X1_63 dX1_reachHouses_46 ?_
              refine x_iload_n E dX1_reachHouses_49 (lv_at hl 1 rfl) ?_
              refine x_aload_n E dX1_reachHouses_50 (lv_at hl 0 rfl) ?_
              refine x_geti E hI hG (xd0 hX hb) cf1 12 (V b 12) rfl (by decide) (show (sp V (b + 7) (reF V b i)) b 12 = V b 12 from (by rw [sp_n (by omega)])) kf_X1_74 dX1_reachHouses_51 ?_
              refine x_iast E hI hG hS (xd7 hX hb) (by omega) dX1_reachHouses_54 (fun H locs hG hS => ?_)
              rw [show (st (sp V (b + 7) (reF V b i)) (b + 7) i (V b 12)) = (sp V (b + 7) (reF V b (i + 1))) from by rw [st_sp, sp_s, sp_sp, reF_yes i0 (by omega)]] at hG
              exact L55_2   _ _ _ hG hS (lv_sub hl [0, 1] rfl)
  exact L2_1 _ 0 (by omega) (by omega) (Nat.lt_succ_self _) _ _ _ hG hS (lv_sub hl [1, 0] rfl)

set_option maxHeartbeats 4000000 in
set_option maxRecDepth 100000 in
theorem c_X1_passSeason (l : Launch) {X : We} {n b : Nat} (hX : isX X n) (hb : isD b) {wd hi t : Int} (V : Mem) (hk : Mid V n wd hi b t) : Mt l X V yX1_passSeason cX1_passSeason 3 none 2 46 [.ref (wa X b)] (Qv X (fun V1 => V1 = seM n b V)) := by
  refine Mt.go (by decide) (Nat.le_of_ble_eq_true rfl) ?_
  intro pg ev s0 mi bl mt cd ls Rm ag Qq hR hQ E hI hG hS hl
  have hl : lv_has ls 3 [(0, .ref (wa X b))] := hl
  obtain ⟨⟨hs, hh, hz⟩, ⟨r2, r3, r4, r5, r6, r7, r8, r9, r10, r11⟩, hsk, hday⟩ := id hk
  have hd := hs.2.2.2.1
  have hbn : bnd n 0 9500 (V (b + 1)) := hh.ps hd |>.1
  obtain ⟨hn1, hn2⟩ := dims.n hd
  obtain ⟨hb1, hb2⟩ := isD.ge hb
  rw [show V = sp (sp V (b + 3) (seG V b 0)) (b + 2) (seL V b 0) by rw [seG_0, seL_0, sp_self V (b + 3), sp_self]] at hG
  refine x_iconst E dX1_passSeason_0 ?_
  refine x_istore_n E [(1, .int (jI 0)), (0, .ref (wa X b))] dX1_passSeason_1 hl (by decide) rfl (fun ls hl => ?_)
  have L2_1 : ∀ (N : Nat) (i : Int), (0 ≤ i) → (i ≤ (n : Int)) → (((n : Int) - i).toNat) < N → ∀ (H : Heap) (locs : List Loc) (ls : Array Slot), GW X (sp (sp V (b + 3) (seG V b i)) (b + 2) (seL V b i)) H → va_S (wA X) s0.heap H locs → lv_has ls 3 [(0, .ref (wa X b)), (1, .int (jI i))] → W pg l ev Rm s0 mi ag bl mt cd H locs 0 0 Qq (F0 mi 2 ls []) := by
    intro N
    induction N with
    | zero => intro i i0 i1 hN; exact absurd hN (Nat.not_lt_zero _)
    | succ N ih2 =>
      intro i i0 i1 hN H locs ls hG hS hl
      refine x_iload_n E dX1_passSeason_2 (lv_at hl 1 rfl) ?_
      refine x_aload_n E dX1_passSeason_3 (lv_at hl 0 rfl) ?_
      refine x_getr E hI hG (xd0 hX hb) cf1 1 (b + 1) rfl (by decide) kf_X1_45 dX1_passSeason_4 ?_
      refine x_alen E hI hG (xd1 hX hb) (by decide) dX1_passSeason_7 ?_
      refine x_icmp_ge E 82 dX1_passSeason_8 (by decide) (by unfold rg; omega) (by unfold rg; omega) (fun c8 => ?_) (fun c8 => ?_)
      · exact r_v E hQ hG hS dX1_passSeason_82 (by unfold seM; rw [show i = (n : Int) by omega]; rfl)
      · have q1 := r3 i i0 (by omega)
        have q2 := r2 i i0 (by omega)
        have q3 := hbn i i0 (by omega)
        have q4 := r5 i i0 (by omega)
        have q5 := grw_rg (V (b + 1) i - V (b + 2) i)
        have L64_2 : ∀ (H : Heap) (locs : List Loc) (ls : Array Slot), GW X (sp (sp V (b + 3) (seG V b (i + 1))) (b + 2) (seL V b i)) H → va_S (wA X) s0.heap H locs → lv_has ls 3 [(0, .ref (wa X b)), (1, .int (jI i))] → W pg l ev Rm s0 mi ag bl mt cd H locs 0 0 Qq (F0 mi 64 ls []) := by
          intro   H locs ls hG hS hl
          refine x_aload_n E dX1_passSeason_64 (lv_at hl 0 rfl) ?_
          refine x_getr E hI hG (xd0 hX hb) cf1 2 (b + 2) rfl (by decide) kf_X1_48 dX1_passSeason_65 ?_
          refine x_iload_n E dX1_passSeason_68 (lv_at hl 1 rfl) ?_
          refine x_aload_n E dX1_passSeason_69 (lv_at hl 0 rfl) ?_
          refine x_getr E hI hG (xd0 hX hb) cf1 1 (b + 1) rfl (by decide) kf_X1_45 dX1_passSeason_70 ?_
          refine x_iload_n E dX1_passSeason_73 (lv_at hl 1 rfl) ?_
          refine x_iald E hI hG (xd1 hX hb) (V (b + 1) i) (by rw [sp_3 V (by omega) (by omega)]) (by omega) dX1_passSeason_74 ?_
          refine x_iast E hI hG hS (xd2 hX hb) (by omega) dX1_passSeason_75 (fun H locs hG hS => ?_)
          rw [show (st (sp (sp V (b + 3) (seG V b (i + 1))) (b + 2) (seL V b i)) (b + 2) i (V (b + 1) i)) = (sp (sp V (b + 3) (seG V b (i + 1))) (b + 2) (seL V b (i + 1))) from by rw [st_sp, sp_s, sp_sp, seL_s i0]] at hG
          refine x_iinc E (k := 1) [(1, .int (jI (i + 1))), (0, .ref (wa X b))] dX1_passSeason_76 hl rfl (by decide) rfl (fun ls hl => ?_)
          refine x_goto E 2 dX1_passSeason_79 (by decide) ?_
          exact ih2 (i + 1) (by omega) (by omega) (by omega) _ _ _ hG hS (lv_sub hl [1, 0] rfl)
        refine x_aload_n E dX1_passSeason_11 (lv_at hl 0 rfl) ?_
        refine x_getr E hI hG (xd0 hX hb) cf1 3 (b + 3) rfl (by decide) kf_X1_51 dX1_passSeason_12 ?_
        refine x_iload_n E dX1_passSeason_15 (lv_at hl 1 rfl) ?_
        refine x_iald E hI hG (xd3 hX hb) (V (b + 3) i) (by rw [sp_ij V (by omega)]; exact seG_i) (by omega) dX1_passSeason_16 ?_
        refine x_if_le E 64 dX1_passSeason_17 (by decide) (by unfold rg; omega) (fun c17 => ?_) (fun c17 => ?_)
        · rw [seG_no (by omega)] at hG
          exact L64_2   _ _ _ hG hS (lv_sub hl [0, 1] rfl)
        · refine x_aload_n E dX1_passSeason_20 (lv_at hl 0 rfl) ?_
          refine x_getr E hI hG (xd0 hX hb) cf1 3 (b + 3) rfl (by decide) kf_X1_51 dX1_passSeason_21 ?_
          refine x_iload_n E dX1_passSeason_24 (lv_at hl 1 rfl) ?_
          refine x_iald E hI hG (xd3 hX hb) (V (b + 3) i) (by rw [sp_ij V (by omega)]; exact seG_i) (by omega) dX1_passSeason_25 ?_
          refine x_aload_n E dX1_passSeason_26 (lv_at hl 0 rfl) ?_
          refine x_getr E hI hG (xd0 hX hb) cf1 1 (b + 1) rfl (by decide) kf_X1_45 dX1_passSeason_27 ?_
          refine x_iload_n E dX1_passSeason_30 (lv_at hl 1 rfl) ?_
          refine x_iald E hI hG (xd1 hX hb) (V (b + 1) i) (by rw [sp_3 V (by omega) (by omega)]) (by omega) dX1_passSeason_31 ?_
          refine x_aload_n E dX1_passSeason_32 (lv_at hl 0 rfl) ?_
          refine x_getr E hI hG (xd0 hX hb) cf1 2 (b + 2) rfl (by decide) kf_X1_48 dX1_passSeason_33 ?_
          refine x_iload_n E dX1_passSeason_36 (lv_at hl 1 rfl) ?_
          refine x_iald E hI hG (xd2 hX hb) (V (b + 2) i) (by rw [sp_s]; exact seL_i) (by omega) dX1_passSeason_37 ?_
          refine x_isub E dX1_passSeason_38 ?_
          refine x_ci hG hS (x_runS E hI hG hS (c_X1_growth l (sp (sp V (b + 3) (seG V b i)) (b + 2) (seL V b i)) (V (b + 1) i - V (b + 2) i) (by unfold rg; omega)) mf_X1_growth km_X1_182 rfl hl rfl (Nat.le_of_ble_eq_true rfl) (by rw [hR]; exact ⟨Nat.le_of_ble_eq_true rfl, Nat.le_of_ble_eq_true rfl⟩) ⟨Nat.zero_le _, Nat.zero_le _⟩ dX1_passSeason_39) (fun z1 V1 H locs hp hG hS => ?_)
          obtain ⟨ez, eV⟩ := hp
          rw [eV] at hG
          rw [ez]
          refine x_iadd E dX1_passSeason_42 ?_
          refine x_aload_n E dX1_passSeason_43 (lv_at hl 0 rfl) ?_
          refine x_getr E hI hG (xd0 hX hb) cf1 5 (b + 5) rfl (by decide) kf_X1_57 dX1_passSeason_44 ?_
          refine x_iload_n E dX1_passSeason_47 (lv_at hl 1 rfl) ?_
          refine x_iald E hI hG (xd5 hX hb) (V (b + 5) i) (by rw [sp_3 V (by omega) (by omega)]) (by omega) dX1_passSeason_48 ?_
          refine x_isub E dX1_passSeason_49 ?_
          refine x_istore_n E [(2, .int (jI (((V (b + 3) i) + (grw (V (b + 1) i - V (b + 2) i))) - (V (b + 5) i)))), (0, .ref (wa X b)), (1, .int (jI i))] dX1_passSeason_50 hl (by decide) rfl (fun ls hl => ?_)
          refine x_aload_n E dX1_passSeason_51 (lv_at hl 1 rfl) ?_
          refine x_getr E hI hG (xd0 hX hb) cf1 3 (b + 3) rfl (by decide) kf_X1_51 dX1_passSeason_52 ?_
          refine x_iload_n E dX1_passSeason_55 (lv_at hl 2 rfl) ?_
          refine x_iload_n E dX1_passSeason_56 (lv_at hl 0 rfl) ?_
          refine x_iconst E dX1_passSeason_57 ?_
          refine x_bipush E dX1_passSeason_58 (by decide) ?_
          refine x_ci hG hS (x_runSN E hI hG hS (c_X7_nearest l (sp (sp V (b + 3) (seG V b i)) (b + 2) (seL V b i)) (V (b + 3) i + grw (V (b + 1) i - V (b + 2) i) - V (b + 5) i) 0 100 (by unfold rg; omega) (by unfold rg; omega) (by unfold rg; omega)) mf_X7_nearest (by decide : (_, _, _, RX7) ∈ zNest) rfl hl rfl (Nat.le_of_ble_eq_true rfl) (by rw [hR]; exact ⟨Nat.le_of_ble_eq_true rfl, Nat.le_of_ble_eq_true rfl⟩) ⟨Nat.zero_le _, Nat.zero_le _⟩ dX1_passSeason_60) (fun z1 V1 H locs hp hG hS => ?_)
          obtain ⟨ez, eV⟩ := hp
          change z1 = seV V b i at ez
          rw [eV] at hG
          rw [ez]
          refine x_iast E hI hG hS (xd3 hX hb) (by omega) dX1_passSeason_63 (fun H locs hG hS => ?_)
          rw [show (st (sp (sp V (b + 3) (seG V b i)) (b + 2) (seL V b i)) (b + 3) i (seV V b i)) = (sp (sp V (b + 3) (seG V b (i + 1))) (b + 2) (seL V b i)) from by rw [st_in V (by omega), seG_yes i0 (by omega)]] at hG
          exact L64_2   _ _ _ hG hS (lv_sub hl [1, 2] rfl)
  exact L2_1 _ 0 (by omega) (by omega) (Nat.lt_succ_self _) _ _ _ hG hS (lv_sub hl [1, 0] rfl)

set_option maxHeartbeats 4000000 in
set_option maxRecDepth 100000 in
theorem c_X1_canPass (l : Launch) {X : We} {n b : Nat} (hX : isX X n) (hb : isD b) (V : Mem) (k : Int) (hk : rg k) (hday : 0 ≤ V b 12 ∧ V b 12 ≤ 3000) : Mt l X V yX1_canPass cX1_canPass 2 (some .boolean) 1 22 [.ref (wa X b), .int (jI k)] (Qi X (fun z V1 => z = b01 (1 ≤ k ∧ k ≤ 60 ∧ V b 12 + k ≤ 3000) ∧ V1 = V)) := by
  refine Mt.go (by decide) (Nat.le_of_ble_eq_true rfl) ?_
  intro pg ev s0 mi bl mt cd ls Rm ag Qq hR hQ E hI hG hS hl
  have hl : lv_has ls 2 [(0, .ref (wa X b)), (1, .int (jI k))] := hl
  have L27_1 : ∀ (z : Int), (z = b01 (1 ≤ k ∧ k ≤ 60 ∧ V b 12 + k ≤ 3000)) → ∀ (H : Heap) (locs : List Loc) (ls : Array Slot), GW X V H → va_S (wA X) s0.heap H locs → lv_has ls 2 [] → W pg l ev Rm s0 mi ag bl mt cd H locs 0 0 Qq (F0 mi 27 ls [.int (jI z)]) := by
    intro z hz H locs ls hG hS hl
    exact r_z E hQ hG hS dX1_canPass_27 (by rw [hz]; exact b01_c) (⟨hz, rfl⟩)
  have L26_2 : (¬ (1 ≤ k ∧ k ≤ 60 ∧ V b 12 + k ≤ 3000)) → ∀ (H : Heap) (locs : List Loc) (ls : Array Slot), GW X V H → va_S (wA X) s0.heap H locs → lv_has ls 2 [] → W pg l ev Rm s0 mi ag bl mt cd H locs 0 0 Qq (F0 mi 26 ls []) := by
    intro  hy H locs ls hG hS hl
    refine x_iconst E dX1_canPass_26 ?_
    exact L27_1 0 ((b01_0 hy).symm) _ _ _ hG hS (lv_sub hl [] rfl)
  refine x_iload_n E dX1_canPass_0 (lv_at hl 1 rfl) ?_
  refine x_iconst E dX1_canPass_1 ?_
  refine x_bipush E dX1_canPass_2 (by decide) ?_
  refine x_ci hG hS (x_runSN E hI hG hS (c_X7_isWithin l V k 1 60 hk (by unfold rg; omega) (by unfold rg; omega)) mf_X7_isWithin (by decide : (_, _, _, RX7) ∈ zNest) rfl hl rfl (Nat.le_of_ble_eq_true rfl) (by rw [hR]; exact ⟨Nat.le_of_ble_eq_true rfl, Nat.le_of_ble_eq_true rfl⟩) ⟨Nat.zero_le _, Nat.zero_le _⟩ dX1_canPass_4) (fun z1 V1 H locs hp hG hS => ?_)
  obtain ⟨ez, eV⟩ := hp
  rw [eV] at hG
  rw [ez]
  refine x_if_eq E 26 dX1_canPass_7 (by decide) b01_rg (fun c7 => ?_) (fun c7 => ?_)
  · have hno := b01_iff0.mp c7
    exact L26_2  (fun z => hno ⟨z.1, z.2.1⟩) _ _ _ hG hS (lv_sub hl [] rfl)
  · have hyes := b01_ne c7
    refine x_aload_n E dX1_canPass_10 (lv_at hl 0 rfl) ?_
    refine x_geti E hI hG (xd0 hX hb) cf1 12 (V b 12) rfl (by decide) rfl kf_X1_74 dX1_canPass_11 ?_
    refine x_iload_n E dX1_canPass_14 (lv_at hl 1 rfl) ?_
    refine x_iadd E dX1_canPass_15 ?_
    refine x_sipush E dX1_canPass_16 (by decide) ?_
    refine x_icmp_gt E 26 dX1_canPass_19 (by decide) (by unfold rg; omega) (by unfold rg; omega) (fun c19 => ?_) (fun c19 => ?_)
    · exact L26_2  (by omega) _ _ _ hG hS (lv_sub hl [] rfl)
    · refine x_iconst E dX1_canPass_22 ?_
      refine x_goto E 27 dX1_canPass_23 (by decide) ?_
      exact L27_1 1 ((b01_1 (by omega)).symm) _ _ _ hG hS (lv_sub hl [] rfl)
end
