section
-- ===== PART A: goes FIRST, ahead of the names: the tables' words, and 'selects' of the private methods out of them =====
/-- a private method of a class that the tables say can be made, by its rows of tables_1 -/
def lw_okq (q : MethodName × Nat) : Prop := (q.1.cls ≠ "java/lang/invoke/MethodHandle" ∧ q.1.cls ≠ "java/lang/invoke/VarHandle") ∧ Cond.instantiable q.1.cls q.2 ∈ tables_1 ∧ Cond.privateMethod q.1 ∈ tables_1 ∧ Cond.instanceMethod q.1 ∈ tables_1
theorem lw_p0 : lw_okq (⟨"java/lang/Throwable", "fillInStackTrace", "(I)Ljava/lang/Throwable;"⟩, 6) := ⟨⟨by decide +kernel, by decide +kernel⟩, List.mem_of_getElem? (i := 189) (by decide +kernel), List.mem_of_getElem? (i := 187) (by decide +kernel), List.mem_of_getElem? (i := 188) (by decide +kernel)⟩
theorem lw_p1 : lw_okq (⟨"Saddletree", "hideAt", "(I)LSaddletree$Hide;"⟩, 9) := ⟨⟨by decide +kernel, by decide +kernel⟩, List.mem_of_getElem? (i := 17) (by decide +kernel), List.mem_of_getElem? (i := 255) (by decide +kernel), List.mem_of_getElem? (i := 256) (by decide +kernel)⟩
theorem lw_p2 : lw_okq (⟨"Saddletree$Hide", "isWhole", "(IIII)Z"⟩, 2) := ⟨⟨by decide +kernel, by decide +kernel⟩, List.mem_of_getElem? (i := 234) (by decide +kernel), List.mem_of_getElem? (i := 301) (by decide +kernel), List.mem_of_getElem? (i := 302) (by decide +kernel)⟩
theorem lw_p3 : lw_okq (⟨"Saddletree$Hide", "firstColumn", "(IIIZ)I"⟩, 2) := ⟨⟨by decide +kernel, by decide +kernel⟩, List.mem_of_getElem? (i := 234) (by decide +kernel), List.mem_of_getElem? (i := 386) (by decide +kernel), List.mem_of_getElem? (i := 387) (by decide +kernel)⟩
theorem lw_p4 : lw_okq (⟨"Saddletree", "partAt", "(I)LSaddletree$Part;"⟩, 9) := ⟨⟨by decide +kernel, by decide +kernel⟩, List.mem_of_getElem? (i := 17) (by decide +kernel), List.mem_of_getElem? (i := 398) (by decide +kernel), List.mem_of_getElem? (i := 399) (by decide +kernel)⟩
theorem lw_p5 : lw_okq (⟨"Saddletree$Route", "clear", "()V"⟩, 6) := ⟨⟨by decide +kernel, by decide +kernel⟩, List.mem_of_getElem? (i := 29) (by decide +kernel), List.mem_of_getElem? (i := 492) (by decide +kernel), List.mem_of_getElem? (i := 493) (by decide +kernel)⟩
theorem lw_p6 : lw_okq (⟨"Saddletree$Route", "note", "(II)V"⟩, 6) := ⟨⟨by decide +kernel, by decide +kernel⟩, List.mem_of_getElem? (i := 29) (by decide +kernel), List.mem_of_getElem? (i := 500) (by decide +kernel), List.mem_of_getElem? (i := 501) (by decide +kernel)⟩
theorem lw_p7 : lw_okq (⟨"Saddletree$Route", "reckon", "(I)V"⟩, 6) := ⟨⟨by decide +kernel, by decide +kernel⟩, List.mem_of_getElem? (i := 29) (by decide +kernel), List.mem_of_getElem? (i := 504) (by decide +kernel), List.mem_of_getElem? (i := 505) (by decide +kernel)⟩
theorem lw_p8 : lw_okq (⟨"Saddletree$Route", "nearest", "(I)I"⟩, 6) := ⟨⟨by decide +kernel, by decide +kernel⟩, List.mem_of_getElem? (i := 29) (by decide +kernel), List.mem_of_getElem? (i := 509) (by decide +kernel), List.mem_of_getElem? (i := 510) (by decide +kernel)⟩
theorem lw_p9 : lw_okq (⟨"Saddletree$Route", "through", "(II)I"⟩, 6) := ⟨⟨by decide +kernel, by decide +kernel⟩, List.mem_of_getElem? (i := 29) (by decide +kernel), List.mem_of_getElem? (i := 513) (by decide +kernel), List.mem_of_getElem? (i := 514) (by decide +kernel)⟩
theorem lw_p10 : lw_okq (⟨"Saddletree$Route", "walk", "(II)V"⟩, 6) := ⟨⟨by decide +kernel, by decide +kernel⟩, List.mem_of_getElem? (i := 29) (by decide +kernel), List.mem_of_getElem? (i := 518) (by decide +kernel), List.mem_of_getElem? (i := 519) (by decide +kernel)⟩
theorem lw_p11 : lw_okq (⟨"Saddletree$Route", "lowestNext", "(I)I"⟩, 6) := ⟨⟨by decide +kernel, by decide +kernel⟩, List.mem_of_getElem? (i := 29) (by decide +kernel), List.mem_of_getElem? (i := 522) (by decide +kernel), List.mem_of_getElem? (i := 523) (by decide +kernel)⟩
theorem lw_p12 : lw_okq (⟨"Saddletree", "breakStraps", "(III)I"⟩, 9) := ⟨⟨by decide +kernel, by decide +kernel⟩, List.mem_of_getElem? (i := 17) (by decide +kernel), List.mem_of_getElem? (i := 558) (by decide +kernel), List.mem_of_getElem? (i := 559) (by decide +kernel)⟩
theorem lw_p13 : lw_okq (⟨"Saddletree", "firstOverborne", "(I)LSaddletree$Part;"⟩, 9) := ⟨⟨by decide +kernel, by decide +kernel⟩, List.mem_of_getElem? (i := 17) (by decide +kernel), List.mem_of_getElem? (i := 562) (by decide +kernel), List.mem_of_getElem? (i := 563) (by decide +kernel)⟩
theorem lw_p14 : lw_okq (⟨"Saddletree", "wearStraps", "(I)V"⟩, 9) := ⟨⟨by decide +kernel, by decide +kernel⟩, List.mem_of_getElem? (i := 17) (by decide +kernel), List.mem_of_getElem? (i := 571) (by decide +kernel), List.mem_of_getElem? (i := 572) (by decide +kernel)⟩
theorem lw_p15 : lw_okq (⟨"Saddletree", "horseAt", "(I)LSaddletree$Horse;"⟩, 9) := ⟨⟨by decide +kernel, by decide +kernel⟩, List.mem_of_getElem? (i := 17) (by decide +kernel), List.mem_of_getElem? (i := 615) (by decide +kernel), List.mem_of_getElem? (i := 616) (by decide +kernel)⟩
def lw_privs_1 : List (MethodName × Nat) := [(⟨"java/lang/Throwable", "fillInStackTrace", "(I)Ljava/lang/Throwable;"⟩, 6), (⟨"Saddletree", "hideAt", "(I)LSaddletree$Hide;"⟩, 9), (⟨"Saddletree$Hide", "isWhole", "(IIII)Z"⟩, 2), (⟨"Saddletree$Hide", "firstColumn", "(IIIZ)I"⟩, 2), (⟨"Saddletree", "partAt", "(I)LSaddletree$Part;"⟩, 9), (⟨"Saddletree$Route", "clear", "()V"⟩, 6), (⟨"Saddletree$Route", "note", "(II)V"⟩, 6), (⟨"Saddletree$Route", "reckon", "(I)V"⟩, 6), (⟨"Saddletree$Route", "nearest", "(I)I"⟩, 6), (⟨"Saddletree$Route", "through", "(II)I"⟩, 6), (⟨"Saddletree$Route", "walk", "(II)V"⟩, 6), (⟨"Saddletree$Route", "lowestNext", "(I)I"⟩, 6), (⟨"Saddletree", "breakStraps", "(III)I"⟩, 9), (⟨"Saddletree", "firstOverborne", "(I)LSaddletree$Part;"⟩, 9), (⟨"Saddletree", "wearStraps", "(I)V"⟩, 9), (⟨"Saddletree", "horseAt", "(I)LSaddletree$Horse;"⟩, 9)]
theorem lw_r1 : ∀ q ∈ lw_privs_1, lw_okq q := List.forall_mem_cons.mpr ⟨lw_p0, List.forall_mem_cons.mpr ⟨lw_p1, List.forall_mem_cons.mpr ⟨lw_p2, List.forall_mem_cons.mpr ⟨lw_p3, List.forall_mem_cons.mpr ⟨lw_p4, List.forall_mem_cons.mpr ⟨lw_p5, List.forall_mem_cons.mpr ⟨lw_p6, List.forall_mem_cons.mpr ⟨lw_p7, List.forall_mem_cons.mpr ⟨lw_p8, List.forall_mem_cons.mpr ⟨lw_p9, List.forall_mem_cons.mpr ⟨lw_p10, List.forall_mem_cons.mpr ⟨lw_p11, List.forall_mem_cons.mpr ⟨lw_p12, List.forall_mem_cons.mpr ⟨lw_p13, List.forall_mem_cons.mpr ⟨lw_p14, List.forall_mem_cons.mpr ⟨lw_p15, fun _ h => absurd h List.not_mem_nil⟩⟩⟩⟩⟩⟩⟩⟩⟩⟩⟩⟩⟩⟩⟩⟩
theorem lw_p16 : lw_okq (⟨"Saddletree", "saddleAt", "(I)LSaddletree$Saddle;"⟩, 9) := ⟨⟨by decide +kernel, by decide +kernel⟩, List.mem_of_getElem? (i := 17) (by decide +kernel), List.mem_of_getElem? (i := 627) (by decide +kernel), List.mem_of_getElem? (i := 628) (by decide +kernel)⟩
theorem lw_p17 : lw_okq (⟨"Saddletree", "measureGaps", "(III)V"⟩, 9) := ⟨⟨by decide +kernel, by decide +kernel⟩, List.mem_of_getElem? (i := 17) (by decide +kernel), List.mem_of_getElem? (i := 646) (by decide +kernel), List.mem_of_getElem? (i := 647) (by decide +kernel)⟩
theorem lw_p18 : lw_okq (⟨"Saddletree$Seat", "together", "(I)I"⟩, 2) := ⟨⟨by decide +kernel, by decide +kernel⟩, List.mem_of_getElem? (i := 94) (by decide +kernel), List.mem_of_getElem? (i := 659) (by decide +kernel), List.mem_of_getElem? (i := 660) (by decide +kernel)⟩
theorem lw_p19 : lw_okq (⟨"Saddletree$Seat", "sortGaps", "()V"⟩, 2) := ⟨⟨by decide +kernel, by decide +kernel⟩, List.mem_of_getElem? (i := 94) (by decide +kernel), List.mem_of_getElem? (i := 679) (by decide +kernel), List.mem_of_getElem? (i := 680) (by decide +kernel)⟩
theorem lw_p20 : lw_okq (⟨"Saddletree$Seat", "isPressed", "(III)Z"⟩, 2) := ⟨⟨by decide +kernel, by decide +kernel⟩, List.mem_of_getElem? (i := 94) (by decide +kernel), List.mem_of_getElem? (i := 705) (by decide +kernel), List.mem_of_getElem? (i := 706) (by decide +kernel)⟩
theorem lw_p21 : lw_okq (⟨"SaddletreeModel", "fails", "(I)Z"⟩, 29) := ⟨⟨by decide +kernel, by decide +kernel⟩, List.mem_of_getElem? (i := 763) (by decide +kernel), List.mem_of_getElem? (i := 869) (by decide +kernel), List.mem_of_getElem? (i := 870) (by decide +kernel)⟩
theorem lw_p22 : lw_okq (⟨"SaddletreeModel", "isHide", "(I)Z"⟩, 29) := ⟨⟨by decide +kernel, by decide +kernel⟩, List.mem_of_getElem? (i := 763) (by decide +kernel), List.mem_of_getElem? (i := 877) (by decide +kernel), List.mem_of_getElem? (i := 878) (by decide +kernel)⟩
theorem lw_p23 : lw_okq (⟨"SaddletreeModel", "isWhole", "(IIIIIZ)Z"⟩, 29) := ⟨⟨by decide +kernel, by decide +kernel⟩, List.mem_of_getElem? (i := 763) (by decide +kernel), List.mem_of_getElem? (i := 891) (by decide +kernel), List.mem_of_getElem? (i := 892) (by decide +kernel)⟩
theorem lw_p24 : lw_okq (⟨"SaddletreeModel", "thicknessOf", "(III)I"⟩, 29) := ⟨⟨by decide +kernel, by decide +kernel⟩, List.mem_of_getElem? (i := 763) (by decide +kernel), List.mem_of_getElem? (i := 895) (by decide +kernel), List.mem_of_getElem? (i := 896) (by decide +kernel)⟩
theorem lw_p25 : lw_okq (⟨"SaddletreeModel", "isPart", "(I)Z"⟩, 29) := ⟨⟨by decide +kernel, by decide +kernel⟩, List.mem_of_getElem? (i := 763) (by decide +kernel), List.mem_of_getElem? (i := 910) (by decide +kernel), List.mem_of_getElem? (i := 911) (by decide +kernel)⟩
theorem lw_p26 : lw_okq (⟨"SaddletreeModel", "isBuckled", "(I)Z"⟩, 29) := ⟨⟨by decide +kernel, by decide +kernel⟩, List.mem_of_getElem? (i := 763) (by decide +kernel), List.mem_of_getElem? (i := 919) (by decide +kernel), List.mem_of_getElem? (i := 920) (by decide +kernel)⟩
theorem lw_p27 : lw_okq (⟨"SaddletreeModel", "holesOf", "(I)I"⟩, 29) := ⟨⟨by decide +kernel, by decide +kernel⟩, List.mem_of_getElem? (i := 763) (by decide +kernel), List.mem_of_getElem? (i := 931) (by decide +kernel), List.mem_of_getElem? (i := 932) (by decide +kernel)⟩
theorem lw_p28 : lw_okq (⟨"SaddletreeModel", "strength", "(I)I"⟩, 29) := ⟨⟨by decide +kernel, by decide +kernel⟩, List.mem_of_getElem? (i := 763) (by decide +kernel), List.mem_of_getElem? (i := 935) (by decide +kernel), List.mem_of_getElem? (i := 936) (by decide +kernel)⟩
theorem lw_p29 : lw_okq (⟨"SaddletreeModel", "placeOf", "(II)I"⟩, 29) := ⟨⟨by decide +kernel, by decide +kernel⟩, List.mem_of_getElem? (i := 763) (by decide +kernel), List.mem_of_getElem? (i := 946) (by decide +kernel), List.mem_of_getElem? (i := 947) (by decide +kernel)⟩
theorem lw_p30 : lw_okq (⟨"SaddletreeModel", "frees", "(I)V"⟩, 29) := ⟨⟨by decide +kernel, by decide +kernel⟩, List.mem_of_getElem? (i := 763) (by decide +kernel), List.mem_of_getElem? (i := 954) (by decide +kernel), List.mem_of_getElem? (i := 955) (by decide +kernel)⟩
theorem lw_p31 : lw_okq (⟨"SaddletreeModel", "finds", "(II)Z"⟩, 29) := ⟨⟨by decide +kernel, by decide +kernel⟩, List.mem_of_getElem? (i := 763) (by decide +kernel), List.mem_of_getElem? (i := 962) (by decide +kernel), List.mem_of_getElem? (i := 963) (by decide +kernel)⟩
def lw_privs_2 : List (MethodName × Nat) := [(⟨"Saddletree", "saddleAt", "(I)LSaddletree$Saddle;"⟩, 9), (⟨"Saddletree", "measureGaps", "(III)V"⟩, 9), (⟨"Saddletree$Seat", "together", "(I)I"⟩, 2), (⟨"Saddletree$Seat", "sortGaps", "()V"⟩, 2), (⟨"Saddletree$Seat", "isPressed", "(III)Z"⟩, 2), (⟨"SaddletreeModel", "fails", "(I)Z"⟩, 29), (⟨"SaddletreeModel", "isHide", "(I)Z"⟩, 29), (⟨"SaddletreeModel", "isWhole", "(IIIIIZ)Z"⟩, 29), (⟨"SaddletreeModel", "thicknessOf", "(III)I"⟩, 29), (⟨"SaddletreeModel", "isPart", "(I)Z"⟩, 29), (⟨"SaddletreeModel", "isBuckled", "(I)Z"⟩, 29), (⟨"SaddletreeModel", "holesOf", "(I)I"⟩, 29), (⟨"SaddletreeModel", "strength", "(I)I"⟩, 29), (⟨"SaddletreeModel", "placeOf", "(II)I"⟩, 29), (⟨"SaddletreeModel", "frees", "(I)V"⟩, 29), (⟨"SaddletreeModel", "finds", "(II)Z"⟩, 29)]
theorem lw_r2 : ∀ q ∈ lw_privs_2, lw_okq q := List.forall_mem_cons.mpr ⟨lw_p16, List.forall_mem_cons.mpr ⟨lw_p17, List.forall_mem_cons.mpr ⟨lw_p18, List.forall_mem_cons.mpr ⟨lw_p19, List.forall_mem_cons.mpr ⟨lw_p20, List.forall_mem_cons.mpr ⟨lw_p21, List.forall_mem_cons.mpr ⟨lw_p22, List.forall_mem_cons.mpr ⟨lw_p23, List.forall_mem_cons.mpr ⟨lw_p24, List.forall_mem_cons.mpr ⟨lw_p25, List.forall_mem_cons.mpr ⟨lw_p26, List.forall_mem_cons.mpr ⟨lw_p27, List.forall_mem_cons.mpr ⟨lw_p28, List.forall_mem_cons.mpr ⟨lw_p29, List.forall_mem_cons.mpr ⟨lw_p30, List.forall_mem_cons.mpr ⟨lw_p31, fun _ h => absurd h List.not_mem_nil⟩⟩⟩⟩⟩⟩⟩⟩⟩⟩⟩⟩⟩⟩⟩⟩
theorem lw_p32 : lw_okq (⟨"SaddletreeModel", "shortest", "(II)I"⟩, 29) := ⟨⟨by decide +kernel, by decide +kernel⟩, List.mem_of_getElem? (i := 763) (by decide +kernel), List.mem_of_getElem? (i := 967) (by decide +kernel), List.mem_of_getElem? (i := 968) (by decide +kernel)⟩
theorem lw_p33 : lw_okq (⟨"SaddletreeModel", "joins", "(III)Z"⟩, 29) := ⟨⟨by decide +kernel, by decide +kernel⟩, List.mem_of_getElem? (i := 763) (by decide +kernel), List.mem_of_getElem? (i := 971) (by decide +kernel), List.mem_of_getElem? (i := 972) (by decide +kernel)⟩
theorem lw_p34 : lw_okq (⟨"SaddletreeModel", "loads", "(I)V"⟩, 29) := ⟨⟨by decide +kernel, by decide +kernel⟩, List.mem_of_getElem? (i := 763) (by decide +kernel), List.mem_of_getElem? (i := 975) (by decide +kernel), List.mem_of_getElem? (i := 976) (by decide +kernel)⟩
theorem lw_p35 : lw_okq (⟨"SaddletreeModel", "sharers", "(I)I"⟩, 29) := ⟨⟨by decide +kernel, by decide +kernel⟩, List.mem_of_getElem? (i := 763) (by decide +kernel), List.mem_of_getElem? (i := 979) (by decide +kernel), List.mem_of_getElem? (i := 980) (by decide +kernel)⟩
theorem lw_p36 : lw_okq (⟨"SaddletreeModel", "isSharer", "(II)Z"⟩, 29) := ⟨⟨by decide +kernel, by decide +kernel⟩, List.mem_of_getElem? (i := 763) (by decide +kernel), List.mem_of_getElem? (i := 983) (by decide +kernel), List.mem_of_getElem? (i := 984) (by decide +kernel)⟩
theorem lw_p37 : lw_okq (⟨"SaddletreeModel", "breaking", "()I"⟩, 29) := ⟨⟨by decide +kernel, by decide +kernel⟩, List.mem_of_getElem? (i := 763) (by decide +kernel), List.mem_of_getElem? (i := 995) (by decide +kernel), List.mem_of_getElem? (i := 996) (by decide +kernel)⟩
theorem lw_p38 : lw_okq (⟨"SaddletreeModel", "canSew", "(I)Z"⟩, 29) := ⟨⟨by decide +kernel, by decide +kernel⟩, List.mem_of_getElem? (i := 763) (by decide +kernel), List.mem_of_getElem? (i := 1011) (by decide +kernel), List.mem_of_getElem? (i := 1012) (by decide +kernel)⟩
theorem lw_p39 : lw_okq (⟨"SaddletreeModel", "sets", "([IIZIII)I"⟩, 29) := ⟨⟨by decide +kernel, by decide +kernel⟩, List.mem_of_getElem? (i := 763) (by decide +kernel), List.mem_of_getElem? (i := 1025) (by decide +kernel), List.mem_of_getElem? (i := 1026) (by decide +kernel)⟩
theorem lw_p40 : lw_okq (⟨"SaddletreeModel", "missesSaddle", "(IIZZ)Z"⟩, 29) := ⟨⟨by decide +kernel, by decide +kernel⟩, List.mem_of_getElem? (i := 763) (by decide +kernel), List.mem_of_getElem? (i := 1047) (by decide +kernel), List.mem_of_getElem? (i := 1048) (by decide +kernel)⟩
theorem lw_p41 : lw_okq (⟨"SaddletreeModel", "depthOf", "(III)I"⟩, 29) := ⟨⟨by decide +kernel, by decide +kernel⟩, List.mem_of_getElem? (i := 763) (by decide +kernel), List.mem_of_getElem? (i := 1051) (by decide +kernel), List.mem_of_getElem? (i := 1052) (by decide +kernel)⟩
theorem lw_p42 : lw_okq (⟨"SaddletreeModel", "pressureAt", "(IIII)I"⟩, 29) := ⟨⟨by decide +kernel, by decide +kernel⟩, List.mem_of_getElem? (i := 763) (by decide +kernel), List.mem_of_getElem? (i := 1055) (by decide +kernel), List.mem_of_getElem? (i := 1056) (by decide +kernel)⟩
theorem lw_p43 : lw_okq (⟨"SaddletreeModel", "gap", "(III)I"⟩, 29) := ⟨⟨by decide +kernel, by decide +kernel⟩, List.mem_of_getElem? (i := 763) (by decide +kernel), List.mem_of_getElem? (i := 1059) (by decide +kernel), List.mem_of_getElem? (i := 1060) (by decide +kernel)⟩
theorem lw_p44 : lw_okq (⟨"SaddletreeModel", "isLame", "(I)Z"⟩, 29) := ⟨⟨by decide +kernel, by decide +kernel⟩, List.mem_of_getElem? (i := 763) (by decide +kernel), List.mem_of_getElem? (i := 1080) (by decide +kernel), List.mem_of_getElem? (i := 1081) (by decide +kernel)⟩
theorem lw_p45 : lw_okq (⟨"SaddletreeModel", "missesShare", "(III)Z"⟩, 29) := ⟨⟨by decide +kernel, by decide +kernel⟩, List.mem_of_getElem? (i := 763) (by decide +kernel), List.mem_of_getElem? (i := 1096) (by decide +kernel), List.mem_of_getElem? (i := 1097) (by decide +kernel)⟩
theorem lw_p46 : lw_okq (⟨"SaddletreeModel", "shareOf", "(III)I"⟩, 29) := ⟨⟨by decide +kernel, by decide +kernel⟩, List.mem_of_getElem? (i := 763) (by decide +kernel), List.mem_of_getElem? (i := 1100) (by decide +kernel), List.mem_of_getElem? (i := 1101) (by decide +kernel)⟩
def lw_privs_3 : List (MethodName × Nat) := [(⟨"SaddletreeModel", "shortest", "(II)I"⟩, 29), (⟨"SaddletreeModel", "joins", "(III)Z"⟩, 29), (⟨"SaddletreeModel", "loads", "(I)V"⟩, 29), (⟨"SaddletreeModel", "sharers", "(I)I"⟩, 29), (⟨"SaddletreeModel", "isSharer", "(II)Z"⟩, 29), (⟨"SaddletreeModel", "breaking", "()I"⟩, 29), (⟨"SaddletreeModel", "canSew", "(I)Z"⟩, 29), (⟨"SaddletreeModel", "sets", "([IIZIII)I"⟩, 29), (⟨"SaddletreeModel", "missesSaddle", "(IIZZ)Z"⟩, 29), (⟨"SaddletreeModel", "depthOf", "(III)I"⟩, 29), (⟨"SaddletreeModel", "pressureAt", "(IIII)I"⟩, 29), (⟨"SaddletreeModel", "gap", "(III)I"⟩, 29), (⟨"SaddletreeModel", "isLame", "(I)Z"⟩, 29), (⟨"SaddletreeModel", "missesShare", "(III)Z"⟩, 29), (⟨"SaddletreeModel", "shareOf", "(III)I"⟩, 29)]
theorem lw_r3 : ∀ q ∈ lw_privs_3, lw_okq q := List.forall_mem_cons.mpr ⟨lw_p32, List.forall_mem_cons.mpr ⟨lw_p33, List.forall_mem_cons.mpr ⟨lw_p34, List.forall_mem_cons.mpr ⟨lw_p35, List.forall_mem_cons.mpr ⟨lw_p36, List.forall_mem_cons.mpr ⟨lw_p37, List.forall_mem_cons.mpr ⟨lw_p38, List.forall_mem_cons.mpr ⟨lw_p39, List.forall_mem_cons.mpr ⟨lw_p40, List.forall_mem_cons.mpr ⟨lw_p41, List.forall_mem_cons.mpr ⟨lw_p42, List.forall_mem_cons.mpr ⟨lw_p43, List.forall_mem_cons.mpr ⟨lw_p44, List.forall_mem_cons.mpr ⟨lw_p45, List.forall_mem_cons.mpr ⟨lw_p46, fun _ h => absurd h List.not_mem_nil⟩⟩⟩⟩⟩⟩⟩⟩⟩⟩⟩⟩⟩⟩⟩
def lw_privs : List (MethodName × Nat) := lw_privs_1 ++ (lw_privs_2 ++ (lw_privs_3))
def lw_tbl : List Cond := k2_sels lw_privs ++ tables_1
theorem lw_privs_ok : ∀ q ∈ lw_privs, lw_okq q := by
  show ∀ q ∈ lw_privs_1 ++ (lw_privs_2 ++ (lw_privs_3)), lw_okq q
  exact List.forall_mem_append.mpr ⟨lw_r1, List.forall_mem_append.mpr ⟨lw_r2, lw_r3⟩⟩
end
section
/-! ===== BEGIN words of one list among another's, by their places ===== -/
theorem goodIn_r {big : List Cond} (ws : List Cond) (ps : List Nat) (hp : ws = ps.filterMap (fun i => big[i]?)) (h : ws.all goodWord = true) : GoodIn big ws := by
  intro w hw
  have h1 := List.all_eq_true.mp h w hw
  rw [hp] at hw
  obtain ⟨i, -, hi⟩ := List.mem_filterMap.mp hw
  have hm : w ∈ big := by first | exact List.mem_of_getElem? hi | exact List.getElem?_mem hi
  exact ⟨hm, good_of_word h1⟩
theorem goodIn_app {big a b : List Cond} (ha : GoodIn big a) (hb : GoodIn big b) : GoodIn big (a ++ b) := fun w h => (List.mem_append.mp h).elim (ha w) (hb w)
theorem goodIn_ca {big a b : List Cond} {c : Cond} (ha : GoodIn big (c :: a)) (hb : GoodIn big b) : GoodIn big (c :: (a ++ b)) := fun w h => (List.mem_cons.mp h).elim (fun e => ha w (List.mem_cons.mpr (Or.inl e))) (fun h => (List.mem_append.mp h).elim (fun h => ha w (List.mem_cons.mpr (Or.inr h))) (hb w))
theorem goodIn_sub {big ws : List Cond} (hm : ∀ w ∈ ws, w ∈ big) (h : ws.all goodWord = true) : GoodIn big ws := fun w hw => ⟨hm w hw, good_of_word (List.all_eq_true.mp h w hw)⟩
/-! ===== END ===== -/
/-! ===== BEGIN exceptions that leave a method, and their catching by the caller (launches without stack traces) ===== -/
section VXA
/-! The laws vx_back, vx_callV, vx_callS, vx_callSW, vx_throw0, vx_throwS follow proofs of the library, with one case more: JvmDerived/Free/Laws.lean (Back.of_free), Shelf42/LK1.lean (callV, callS), Shelf/KitTraced.lean (throwNew0V, throwNewS). -/
/-- where a method has thrown q: the class by its name, the cell, what was written, the world -/
def vx_T (XC : String → State → State → Prop) (st : State) (q : Addr) (t : State) (mc ms : Nat) (free : Addr → Prop) : Prop :=
  ∃ (E : String) (ce : Cell) (L : List Loc), XC E st t ∧ t.heap[q]? = some ce ∧ ce.vm = .none ∧ st.vm.findClass E = some ce.cls ∧ st.WarmedH t.vm ∧ st.sameButNew ({ t with vm := st.vm } : State) L mc ms ∧ ∀ z ∈ L, free z.base
def vx_Q (Qc : Array Value → State → Outcome → State → Prop) (XC : String → State → State → Prop) (mc ms : Nat) (free : Addr → Prop) : Array Value → State → Outcome → State → Prop := fun a st o t =>
  (Qc a st o t ∧ ∃ L, FrameEnd st o t L mc ms ∧ ∀ q ∈ L, free q.base) ∨ ∃ q, o = .threw q ∧ vx_T XC st q t mc ms free
/-- a callee that returns or throws -/
def vx_Met (l : Launch) (y : MethodName) (ws : List Cond) (rm : Room) (Pc : Array Value → State → Prop) (Qc : Array Value → State → Outcome → State → Prop) (XC : String → State → State → Prop) (mc ms : Nat) (free : Addr → Prop) : Prop :=
  MetFree l y (headSpec ws rm) Pc (fun _ _ _ _ _ => True) (vx_Q Qc XC mc ms free)
def vx_Post (XC : String → State → State → Prop) (mc ms : Nat) (free : Addr → Prop) : Pt → Array Value → Addr → Pt → Prop := fun A a q B =>
  ∃ (g : JFrame) (mk : MethodId) (t : State) (L : List Loc) (E : String) (ce : Cell), B.U.heap = t.heap ∧ B.U.vm = t.vm ∧ XC E (A.U.calling g mk a) t ∧ t.heap[q]? = some ce ∧ ce.vm = .none ∧ A.U.vm.findClass E = some ce.cls ∧ B.locs = A.locs ++ L ∧ (∀ z ∈ L, free z.base) ∧ B.cells = A.cells + mc ∧ B.slots = A.slots + ms
def vx_Back (l : Launch) (R : Room) (p : Program) (e : Env) (below : List Frame) (s : State) (sargs : Array Value) (y : MethodName) (len W9 : Nat)
    (Pre : Pt → Array Value → Prop) (Post : Pt → Array Value → Option Value → Pt → Prop) (PostX : Pt → Array Value → Addr → Pt → Prop) : Prop :=
  ∀ (m : MethodId) (meth : Method) (c : Code) (A : Pt) (g : JFrame) (ig : Instr) (mk : MethodId) (a : Array Value),
    Stand p l e R s m sargs below meth c A.U A.locs A.cells A.slots → g.method = m → g.locals.size = c.maxLocals → decode c.code g.pc = .ok (ig, len) →
    2 * g.monitorRoom + (g.stack.map fun v => v.category).sum ≤ W9 → A.U.methodNamed? y = some mk → Pre A a →
    (∃ (v : Option Value) (B : Pt), Stand p l e R s m sargs below meth c B.U B.locs B.cells B.slots ∧ Post A a v B ∧
      Steps p.tables e below (doInvoke e (A.U.setTop g) [] mk a).1 (B.U.setTop { g with pc := g.pc + len, stack := v.toList ++ g.stack })) ∨
    (∃ (q : Addr) (B : Pt), Stand p l e R s m sargs below meth c B.U B.locs B.cells B.slots ∧ PostX A a q B ∧
      Steps p.tables e below (doInvoke e (A.U.setTop g) [] mk a).1 ((B.U.setTop g).pushFrame (.throwing q)))
section Payer
variable {l : Launch} {R : Room} {p : Program} {e : Env} {below : List Frame} {s : State} {sargs : Array Value} {y : MethodName} {len W9 : Nat}
theorem vx_back {ws : List Cond} {rm : Room} {Pc : Array Value → State → Prop} {Qc : Array Value → State → Outcome → State → Prop} {XC : String → State → State → Prop} {mc ms : Nat} {free : Addr → Prop} {bytes : ByteArray} {maxL : Nat} {ret : Option FieldType}
    (hM : vx_Met l y ws rm Pc Qc XC mc ms free) (hblind : FrameBlind Pc) (hrc : rm.cells = mc) (hrs : rm.slots = ms)
    (hframes : rm.frames + 1 ≤ R.frames) (hlocals : W9 + (maxL + 11) + rm.locals ≤ R.locals)
    (hws : ∀ w ∈ ws, ∀ a' U, s.WarmedH U.vm → w.before a' U = true) (hcode : Cond.code y bytes maxL ret ∈ ws) (hinit : ∀ a' U, s.WarmedH U.vm → (Cond.initialized y.cls).before a' U = true) :
    vx_Back l R p e below s sargs y len W9 (PreOf R mc ms Pc) (PostOf Qc mc ms free) (vx_Post XC mc ms free) := by
  intro m meth c A g ig mk a X hg hsize hdg hW hn hp
  have h1 : (headSpec ws rm).pre.before a A.U = true := atoms_intro fun w hw => hws w hw _ _ X.warmed
  have h2 : (Cond.code y bytes maxL ret).before a A.U = true := hws _ hcode _ _ X.warmed
  have h3 : (Cond.initialized y.cls).before a A.U = true := hinit _ _ X.warmed
  have h4 : A.cells + (headSpec ws rm).room.cells ≤ R.cells := by rw [show (headSpec ws rm).room.cells = mc from hrc]; exact hp.1
  have h5 : A.slots + (headSpec ws rm).room.slots ≤ R.slots := by rw [show (headSpec ws rm).room.slots = ms from hrs]; exact hp.2.1
  have hPc : Pc a (A.U.calling g mk a) := hblind _ _ _ _ hp.2.2
  obtain ⟨U, Ls, c0, s0⟩ := A
  dsimp only [Pt.U, Pt.locs, Pt.cells, Pt.slots] at h1 h2 h3 h4 h5 X hn hPc ⊢
  obtain ⟨methY, cY, hmY, hcY, -, hlY, -, -, -, -⟩ := Cond.code_spec hn h2
  obtain ⟨kY, hkY, -⟩ := className_of_methodNamed hn
  have hinitY : kY.init = .initialized := Cond.initialized_spec (findClass_of_methodNamed hn) hkY h3
  have h : At U g.method c below := by rw [hg]; exact X.here
  have hlocals9 : W9 + (maxL + 11) + (headSpec ws rm).room.locals ≤ R.locals := hlocals
  have happ : (headSpec ws rm).appliesLoose y e.platform (U.calling g mk a) = true :=
    Spec.appliesLoose_calling (g := g) h hdg hn hkY hinitY
      (X.room_calling (g := g) (R' := (headSpec ws rm).room) hsize hmY hcY hframes (by rw [hlY]; omega) h4 h5) h1
  obtain ⟨mid, hmid⟩ := h.above
  have hfr : (U.setTop g).frames = (.java g :: mid) ++ below := by rw [State.frames_setTop' g h.top, hmid]; rfl
  obtain ⟨o, s₂, hsteps, -, hend, hq⟩ := Steps.callFree hM p X.admits X.cas X.clock (acts := []) hfr happ hPc trivial
  have hq' : vx_Q Qc XC mc ms free a (U.calling g mk a) o s₂ := hq
  rw [State.frames_setTop' g h.top] at hend
  obtain ⟨g₀, hg0⟩ := Option.isSome_iff_exists.mp h.top
  obtain ⟨r, hr⟩ := State.topJava?_eq_some.mp hg0
  have hr' : (({ U with heap := s₂.heap, slotsUsed := s₂.slotsUsed } : State).setVm s₂.vm).frames = .java g₀ :: r := hr
  rcases hq' with ⟨hqc, L, hfe, hL⟩ | ⟨q, rfl, E, ce, L, hx, hce, hcv, hcl, hW₂, hsm, hL⟩
  · obtain ⟨⟨v, rfl⟩, hW₂, e2, q2, q3, q4, q5, q6⟩ := id hfe
    have e3 : s₂ = ({ (U.calling g mk a).setFrames s₂.frames with heap := s₂.heap, slotsUsed := s₂.slotsUsed } : State).setVm s₂.vm := by
      have : s₂ = ({ s₂ with vm := (U.calling g mk a).vm } : State).setVm s₂.vm := rfl
      rw [e2] at this
      exact this
    obtain ⟨c₂, i₂, len₂, hc₂, hd₂, hf₂⟩ := hend
    have hW' : U.WarmedH s₂.vm := hW₂
    have hcc : c₂ = c := by
      have h1 : s₂.code? g.method = U.code? g.method := by
        rw [State.code?_eq, State.code?_eq, hW'.alike.method?]
      exact Option.some.inj (hc₂.symm.trans (h1.trans h.code))
    subst hcc
    have hlen : len₂ = len := by rw [hdg] at hd₂; cases hd₂; rfl
    subst hlen
    have hs₂ : s₂ = (({ U with heap := s₂.heap, slotsUsed := s₂.slotsUsed } : State).setVm s₂.vm).setTop { g with pc := g.pc + len₂, stack := v.toList ++ g.stack } := by
      refine e3.trans ?_
      rw [hf₂, State.calling_eq h.top, State.setFrames_setFrames, State.setTop_of_frames _ hr', hr]
      rfl
    have hsame : U.sameButNew ({ U with heap := s₂.heap, slotsUsed := s₂.slotsUsed } : State) L mc ms := by
      refine ⟨?_, q2, q3, q4, q5, q6⟩
      obtain ⟨t, ht, -⟩ := State.frames_cons hr
      show ({ U with heap := s₂.heap, slotsUsed := s₂.slotsUsed } : State) = { U.setFrames U.frames with heap := s₂.heap, slotsUsed := s₂.slotsUsed }
      rw [State.setFrames_self ht]
    subst hg
    refine Or.inl ⟨v, ⟨(({ U with heap := s₂.heap, slotsUsed := s₂.slotsUsed } : State).setVm s₂.vm), Ls ++ L, c0 + mc, s0 + ms⟩,
      ⟨X.admits, X.cas, X.clock, X.frames, X.room, X.hears, X.method, X.code, (X.here.setHeapUsed s₂.heap s₂.slotsUsed).setVm hW'.alike, X.tail, State.WarmedH.trans X.warmed hW', X.limits, X.bytes, X.same.trans (hsame.setVm s.vm)⟩,
      ⟨g, mk, s₂, L, rfl, rfl, hqc, rfl, hL, rfl, rfl⟩, ?_⟩
    show Steps p.tables e below _ ((({ U with heap := s₂.heap, slotsUsed := s₂.slotsUsed } : State).setVm s₂.vm).setTop { g with pc := g.pc + len₂, stack := v.toList ++ g.stack })
    rw [← hs₂]
    exact hsteps
  · obtain ⟨e2, q2, q3, q4, q5, q6⟩ := id hsm
    have e3 : s₂ = ({ (U.calling g mk a).setFrames s₂.frames with heap := s₂.heap, slotsUsed := s₂.slotsUsed } : State).setVm s₂.vm := by
      have : s₂ = ({ s₂ with vm := (U.calling g mk a).vm } : State).setVm s₂.vm := rfl
      rw [e2] at this
      exact this
    have hf₂ : s₂.frames = .throwing q :: .java g :: U.frames.tail := hend
    have hW' : U.WarmedH s₂.vm := hW₂
    have hs₂ : s₂ = ((({ U with heap := s₂.heap, slotsUsed := s₂.slotsUsed } : State).setVm s₂.vm).setTop g).pushFrame (.throwing q) := by
      refine e3.trans ?_
      rw [hf₂, State.calling_eq h.top, State.setFrames_setFrames, State.pushFrame, State.frames_setTop _ hr', State.setTop_of_frames _ hr', State.setFrames_setFrames, hr]
      rfl
    have hsame : U.sameButNew ({ U with heap := s₂.heap, slotsUsed := s₂.slotsUsed } : State) L mc ms := by
      refine ⟨?_, q2, q3, q4, q5, q6⟩
      obtain ⟨t, ht, -⟩ := State.frames_cons hr
      show ({ U with heap := s₂.heap, slotsUsed := s₂.slotsUsed } : State) = { U.setFrames U.frames with heap := s₂.heap, slotsUsed := s₂.slotsUsed }
      rw [State.setFrames_self ht]
    subst hg
    refine Or.inr ⟨q, ⟨(({ U with heap := s₂.heap, slotsUsed := s₂.slotsUsed } : State).setVm s₂.vm), Ls ++ L, c0 + mc, s0 + ms⟩,
      ⟨X.admits, X.cas, X.clock, X.frames, X.room, X.hears, X.method, X.code, (X.here.setHeapUsed s₂.heap s₂.slotsUsed).setVm hW'.alike, X.tail, State.WarmedH.trans X.warmed hW', X.limits, X.bytes, X.same.trans (hsame.setVm s.vm)⟩,
      ⟨g, mk, s₂, L, E, ce, rfl, rfl, hx, hce, hcv, hcl, rfl, hL, rfl, rfl⟩, ?_⟩
    show Steps p.tables e below _ (((({ U with heap := s₂.heap, slotsUsed := s₂.slotsUsed } : State).setVm s₂.vm).setTop g).pushFrame (.throwing q))
    rw [← hs₂]
    exact hsteps
end Payer
section Calls
variable {p : Program} {l : Launch} {e : Env} {R : Room} {s : State} {m : MethodId} {args : Array Value} {below : List Frame} {meth : Method} {c : Code} {T : State} {locs : List Loc} {cells slots : Nat}
theorem vx_callV (X : Stand p l e R s m args below meth c T locs cells slots) (hexec : p.tables.exec = Jvm.exec) {own C : String} {index : Nat} {y : MethodName} {bytes : ByteArray} {maxL : Nat} {ret : Option FieldType}
    (hown : s.vm.findClass own = some m.cls) (hlink : (Cond.methodLink own index y).before args s = true) (hinst : (Cond.instanceMethod y).before args s = true) (hsel : (Cond.selects C y y).before args s = true)
    (hcode : (Cond.code y bytes maxL ret).before args s = true) (hy : y.cls ≠ "java/lang/invoke/MethodHandle" ∧ y.cls ≠ "java/lang/invoke/VarHandle")
    {W9 : Nat} {Pre : Pt → Array Value → Prop} {Post : Pt → Array Value → Option Value → Pt → Prop} {PostX : Pt → Array Value → Addr → Pt → Prop} (hK : vx_Back l R p e below s args y 3 W9 Pre Post PostX)
    {b : Addr} {cellB : Cell} (hcell : T.heap[b]? = some cellB) (hobj : cellB.vm.isStatics = false) (hcls : s.vm.findClass C = some cellB.cls)
    {g : JFrame} (hg : g.method = m) (hsize : g.locals.size = c.maxLocals) {argsL rest : List Value} (hlen : ∀ sig, parseMethodDescriptor y.desc = some sig → argsL.length = sig.parameters.length)
    (hstack : g.stack = argsL.reverse ++ .ref b :: rest) (hW : 2 * g.monitorRoom + (rest.map fun v => v.category).sum ≤ W9) (hdg : decode c.code g.pc = .ok (.invokevirtual index, 3))
    (hpre : ∀ vm₁, s.WarmedH vm₁ → Pre ⟨T.setVm vm₁, locs, cells, slots⟩ (Value.ref b :: argsL).toArray) :
    (∃ (v : Option Value) (vm₁ : Vm) (B : Pt), s.WarmedH vm₁ ∧ Stand p l e R s m args below meth c B.U B.locs B.cells B.slots ∧ Post ⟨T.setVm vm₁, locs, cells, slots⟩ (Value.ref b :: argsL).toArray v B ∧
      ∀ target, Steps p.tables e below (B.U.setTop { g with pc := g.pc + 3, stack := v.toList ++ rest }) target → Steps p.tables e below (T.setTop g) target) ∨
    (∃ (q : Addr) (vm₁ : Vm) (B : Pt), s.WarmedH vm₁ ∧ Stand p l e R s m args below meth c B.U B.locs B.cells B.slots ∧ PostX ⟨T.setVm vm₁, locs, cells, slots⟩ (Value.ref b :: argsL).toArray q B ∧
      Steps p.tables e below (T.setTop g) ((B.U.setTop { g with stack := rest }).pushFrame (.throwing q))) := by
  obtain ⟨mk, methM, hnamed, hmethM, hstM, habM⟩ := Cond.instanceMethod_spec hinst
  obtain ⟨methM', cM, hmethM', -, -, -, -, -, -, hsigM⟩ := Cond.code_spec hnamed hcode
  cases hmethM.symm.trans hmethM'
  obtain ⟨c2, r2, m2, q1, q2, q3, q4, kP, hkP, hkPi⟩ := Cond.selects_spec hsel
  cases hcls.symm.trans q1
  cases (State.methodFound?_of_named hnamed hy).symm.trans q2
  cases hnamed.symm.trans q3
  have hselP : selectMethod e.platform s.vm cellB.cls mk = .method mk := by rw [Launch.admits_selectMethod X.admits]; exact q4
  obtain ⟨vm₁, X₁, hstep₁⟩ := X.invokevirtual hexec hown hlink hnamed hmethM hstM hkP hkPi hy (a := b) (cell := cellB) hcell
    (fun z h => by rw [h] at hobj; cases hobj) hselP hmethM habM hkP hkPi (g := g) hg (argsL := argsL) (rest := rest) (hlen _ hsigM) hstack hdg
  rcases hK m meth c ⟨T.setVm vm₁, locs, cells, slots⟩ { g with stack := rest } (.invokevirtual index) mk (Value.ref b :: argsL).toArray X₁ hg hsize hdg hW (X₁.named hnamed) (hpre vm₁ X₁.warmed) with ⟨v, B, X', hpost, hsteps⟩ | ⟨q, B, X', hpost, hsteps⟩
  · exact Or.inl ⟨v, vm₁, B, X₁.warmed, X', hpost, fun target h => hstep₁ _ fun acts => by rw [doInvoke_state]; exact hsteps.trans h⟩
  · exact Or.inr ⟨q, vm₁, B, X₁.warmed, X', hpost, hstep₁ _ fun acts => by rw [doInvoke_state]; exact hsteps⟩
theorem vx_callS (X : Stand p l e R s m args below meth c T locs cells slots) (hexec : p.tables.exec = Jvm.exec) {own : String} {index : Nat} {y : MethodName} {bytes : ByteArray} {maxL : Nat} {ret : Option FieldType}
    (hown : s.vm.findClass own = some m.cls) (hlink : (Cond.methodLink own index y).before args s = true) (hstat : (Cond.static y).before args s = true) (hinit : (Cond.initialized y.cls).before args s = true)
    (hcode : (Cond.code y bytes maxL ret).before args s = true) (hy : y.cls ≠ "java/lang/invoke/MethodHandle" ∧ y.cls ≠ "java/lang/invoke/VarHandle")
    {W9 : Nat} {Pre : Pt → Array Value → Prop} {Post : Pt → Array Value → Option Value → Pt → Prop} {PostX : Pt → Array Value → Addr → Pt → Prop} (hK : vx_Back l R p e below s args y 3 W9 Pre Post PostX)
    {g : JFrame} (hg : g.method = m) (hsize : g.locals.size = c.maxLocals) {argsL rest : List Value} (hlen : ∀ sig, parseMethodDescriptor y.desc = some sig → argsL.length = sig.parameters.length)
    (hstack : g.stack = argsL.reverse ++ rest) (hW : 2 * g.monitorRoom + (rest.map fun v => v.category).sum ≤ W9) (hdg : decode c.code g.pc = .ok (.invokestatic index, 3))
    (hpre : ∀ vm₁, s.WarmedH vm₁ → Pre ⟨T.setVm vm₁, locs, cells, slots⟩ argsL.toArray) :
    (∃ (v : Option Value) (vm₁ : Vm) (B : Pt), s.WarmedH vm₁ ∧ Stand p l e R s m args below meth c B.U B.locs B.cells B.slots ∧ Post ⟨T.setVm vm₁, locs, cells, slots⟩ argsL.toArray v B ∧
      ∀ target, Steps p.tables e below (B.U.setTop { g with pc := g.pc + 3, stack := v.toList ++ rest }) target → Steps p.tables e below (T.setTop g) target) ∨
    (∃ (q : Addr) (vm₁ : Vm) (B : Pt), s.WarmedH vm₁ ∧ Stand p l e R s m args below meth c B.U B.locs B.cells B.slots ∧ PostX ⟨T.setVm vm₁, locs, cells, slots⟩ argsL.toArray q B ∧
      Steps p.tables e below (T.setTop g) ((B.U.setTop { g with stack := rest }).pushFrame (.throwing q))) := by
  obtain ⟨mk, hnamed⟩ := Cond.code_named hcode
  obtain ⟨methM, cM, hmethM, -, -, -, -, -, -, hsigM⟩ := Cond.code_spec hnamed hcode
  have hstatic : methM.isStatic = true := Cond.static_spec hnamed hmethM hstat
  obtain ⟨kP, hkP, -⟩ := className_of_methodNamed hnamed
  have hinitP : kP.init = .initialized := Cond.initialized_spec (findClass_of_methodNamed hnamed) hkP hinit
  obtain ⟨vm₁, X₁, hstep₁⟩ := X.invokestatic hexec hown hlink hnamed hmethM hstatic hkP hinitP hy (g := g) hg (argsL := argsL) (rest := rest) (hlen _ hsigM) hstack hdg
  rcases hK m meth c ⟨T.setVm vm₁, locs, cells, slots⟩ { g with stack := rest } (.invokestatic index) mk argsL.toArray X₁ hg hsize hdg hW (X₁.named hnamed) (hpre vm₁ X₁.warmed) with ⟨v, B, X', hpost, hsteps⟩ | ⟨q, B, X', hpost, hsteps⟩
  · exact Or.inl ⟨v, vm₁, B, X₁.warmed, X', hpost, fun target h => hstep₁ _ fun acts => by rw [doInvoke_state]; exact hsteps.trans h⟩
  · exact Or.inr ⟨q, vm₁, B, X₁.warmed, X', hpost, hstep₁ _ fun acts => by rw [doInvoke_state]; exact hsteps⟩
end Calls
theorem vx_cls {s : State} {T : State} {vm₁ : Vm} {E : String} {k : ClassId} (hW : s.WarmedH vm₁) (h : (T.setVm vm₁).vm.findClass E = some k) : s.vm.findClass E = some k := by
  have h1 : vm₁.findClass E = some k := h
  rw [hW.alike.findClass] at h1
  exact h1
/-- the method's frame g, with q thrown over it -/
def vx_W (p : Program) (l : Launch) (e : Env) (R : Room) (s : State) (m : MethodId) (args : Array Value) (below : List Frame) (meth : Method) (c : Code) (H : Heap) (locs : List Loc) (cells slots : Nat) (Q : State → Prop) (g : JFrame) (q : Addr) : Prop :=
  ∀ T : State, T.heap = H → Stand p l e R s m args below meth c T locs cells slots → ∃ t, Steps p.tables e below ((T.setTop g).pushFrame (.throwing q)) t ∧ Q t
def vx_Run (p : Program) (l : Launch) (e : Env) (R : Room) (s : State) (m : MethodId) (args : Array Value) (below : List Frame) (meth : Method) (c : Code) (H : Heap) (locs : List Loc) (cells slots mc ms : Nat) (g : JFrame) (rest : List Value) (Qa : State → Outcome → State → Prop) (XC : String → State → State → Prop) (free : Addr → Prop) : Prop :=
  ∀ T : State, T.heap = H → Stand p l e R s m args below meth c T locs cells slots →
    (∃ (v : Option Value) (st₀ t T' : State) (L : List Loc), st₀.heap = H ∧ Stand p l e R s m args below meth c T' (locs ++ L) (cells + mc) (slots + ms) ∧ (∀ q ∈ L, free q.base) ∧ T'.heap = t.heap ∧ T'.vm = t.vm ∧ Qa st₀ (.returned v) t ∧
      Goes p e below T g T' { g with pc := g.pc + 3, stack := v.toList ++ rest }) ∨
    (∃ (q : Addr) (st₀ t T' : State) (L : List Loc) (E : String) (ce : Cell), st₀.heap = H ∧ Stand p l e R s m args below meth c T' (locs ++ L) (cells + mc) (slots + ms) ∧ (∀ z ∈ L, free z.base) ∧ T'.heap = t.heap ∧ T'.vm = t.vm ∧ XC E st₀ t ∧ t.heap[q]? = some ce ∧ ce.vm = .none ∧ s.vm.findClass E = some ce.cls ∧
      Steps p.tables e below (T.setTop g) ((T'.setTop { g with stack := rest }).pushFrame (.throwing q)))
def vx_X {S : Type} (px : S → Prop) (B : String → S → State → Prop) (A : Nat → Prop) : String → State → State → Prop := fun E st t => ∃ u : S, px u ∧ B E u t ∧ va_F A st t
section Runs
variable {p : Program} {l : Launch} {e : Env} {R : Room} {s : State} {m : MethodId} {args : Array Value} {below : List Frame} {meth : Method} {c : Code} {H : Heap} {locs : List Loc} {cells slots : Nat}
variable {y : MethodName} {bytes cc : ByteArray} {maxL nL mc ms n index : Nat} {ret : Option FieldType} {ws : List Cond} {rm : Room} {Pc : Array Value → State → Prop} {Qc : Array Value → State → Outcome → State → Prop} {XC : String → State → State → Prop} {free : Addr → Prop} {Ts : List Cond} {own C : String} {b : Addr} {As rest : List Value} {g : JFrame}
theorem vx_callBack (cb : CallB R s args own index y bytes maxL ret ws rm mc ms n) (hM : vx_Met l y ws rm Pc Qc XC mc ms free) (hbl : FrameBlind Pc) : vx_Back l R p e below s args y 3 8 (PreOf R mc ms Pc) (PostOf Qc mc ms free) (vx_Post XC mc ms free) := by
  obtain ⟨hrc, hrs, hfr, hlo, hws, hcw, -, hini, -⟩ := cb
  exact vx_back (bytes := bytes) (maxL := maxL) (ret := ret) hM hbl hrc hrs hfr hlo hws hcw (fun a' U hW => word_at hW (Or.inl (by first | rfl | simp [Cond.onTables, Cond.keeps, Cond.steady])) hini)
theorem vx_runV (S : CallFix p m c cc nL s args Ts own) (hM : vx_Met l y ws rm Pc Qc XC mc ms free) (cw : CallW R s args own C index y bytes maxL ret ws rm mc ms n) (hp : PreV s H C b Pc As)
    (hg : g.method = m) (hn : As.length = n) (hsize : g.locals.size = nL) (hstack : g.stack = As.reverse ++ .ref b :: rest) (hW : 2 * g.monitorRoom + (rest.map fun v => v.category).sum ≤ 8) (hdg : decode cc g.pc = .ok (.invokevirtual index, 3)) (hf : cells + mc ≤ R.cells ∧ slots + ms ≤ R.slots) :
    vx_Run p l e R s m args below meth c H locs cells slots mc ms g rest (Qc (Value.ref b :: As).toArray) XC free := by
  have hK : vx_Back l R p e below s args y 3 8 (PreOf R mc ms Pc) (PostOf Qc mc ms free) (vx_Post XC mc ms free) := vx_callBack cw.1 hM hp.1
  obtain ⟨⟨-, -, -, -, -, -, hcode, -, hy, hlen, hl⟩, hin, hse⟩ := cw
  obtain ⟨hx, hb, hml, ho, -⟩ := S
  obtain ⟨-, ⟨cellB, hcB, hoB, hclB⟩, hPc⟩ := hp
  intro T hT X
  rcases vx_callV X hx (C := C) (bytes := bytes) (maxL := maxL) (ret := ret) ho hl hin hse hcode hy hK (by rw [hT]; exact hcB) hoB hclB hg (hsize.trans hml.symm) (argsL := As) (rest := rest) (fun sig h => hn.trans (hlen sig h)) hstack hW (by rw [hb]; exact hdg)
    (fun vm₁ hW₁ => ⟨hf.1, hf.2, hPc (T.setVm vm₁) hT hW₁⟩) with ⟨v, vm₁, ⟨U', l2, c2, s2⟩, hW₁, X', ⟨g', mk, t, L, e1, e2, hq, h1, hL, h2, h3⟩, st⟩ | ⟨q, vm₁, ⟨U', l2, c2, s2⟩, hW₁, X', ⟨g', mk, t, L, E, ce, e1, e2, hq, hce, hcv, hcl, h1, hL, h2, h3⟩, st⟩
  · dsimp only [Pt.U, Pt.locs, Pt.cells, Pt.slots] at X' e1 e2 h1 h2 h3 st
    subst h1; subst h2; subst h3
    exact Or.inl ⟨v, (T.setVm vm₁).calling g' mk (Value.ref b :: As).toArray, t, U', L, hT, X', hL, e1, e2, hq, st⟩
  · dsimp only [Pt.U, Pt.locs, Pt.cells, Pt.slots] at X' e1 e2 h1 h2 h3 st hcl
    subst h1; subst h2; subst h3
    exact Or.inr ⟨q, (T.setVm vm₁).calling g' mk (Value.ref b :: As).toArray, t, U', L, E, ce, hT, X', hL, e1, e2, hq, hce, hcv, vx_cls hW₁ hcl, st⟩
theorem vx_runS (S : CallFix p m c cc nL s args Ts own) (hM : vx_Met l y ws rm Pc Qc XC mc ms free) (cw : CallB R s args own index y bytes maxL ret ws rm mc ms n ∧ (Cond.static y).before args s = true) (hp : PreS s H Pc As)
    (hg : g.method = m) (hn : As.length = n) (hsize : g.locals.size = nL) (hstack : g.stack = As.reverse ++ rest) (hW : 2 * g.monitorRoom + (rest.map fun v => v.category).sum ≤ 8) (hdg : decode cc g.pc = .ok (.invokestatic index, 3)) (hf : cells + mc ≤ R.cells ∧ slots + ms ≤ R.slots) :
    vx_Run p l e R s m args below meth c H locs cells slots mc ms g rest (Qc As.toArray) XC free := by
  have hK : vx_Back l R p e below s args y 3 8 (PreOf R mc ms Pc) (PostOf Qc mc ms free) (vx_Post XC mc ms free) := vx_callBack cw.1 hM hp.1
  obtain ⟨⟨-, -, -, -, -, -, hcode, hini, hy, hlen, hl⟩, hstt⟩ := cw
  obtain ⟨hx, hb, hml, ho, -⟩ := S
  intro T hT X
  rcases vx_callS X hx (bytes := bytes) (maxL := maxL) (ret := ret) ho hl hstt hini hcode hy hK hg (hsize.trans hml.symm) (argsL := As) (rest := rest) (fun sig h => hn.trans (hlen sig h)) hstack hW (by rw [hb]; exact hdg)
    (fun vm₁ hW₁ => ⟨hf.1, hf.2, hp.2 (T.setVm vm₁) hT hW₁⟩) with ⟨v, vm₁, ⟨U', l2, c2, s2⟩, hW₁, X', ⟨g', mk, t, L, e1, e2, hq, h1, hL, h2, h3⟩, st⟩ | ⟨q, vm₁, ⟨U', l2, c2, s2⟩, hW₁, X', ⟨g', mk, t, L, E, ce, e1, e2, hq, hce, hcv, hcl, h1, hL, h2, h3⟩, st⟩
  · dsimp only [Pt.U, Pt.locs, Pt.cells, Pt.slots] at X' e1 e2 h1 h2 h3 st
    subst h1; subst h2; subst h3
    exact Or.inl ⟨v, (T.setVm vm₁).calling g' mk As.toArray, t, U', L, hT, X', hL, e1, e2, hq, st⟩
  · dsimp only [Pt.U, Pt.locs, Pt.cells, Pt.slots] at X' e1 e2 h1 h2 h3 st hcl
    subst h1; subst h2; subst h3
    exact Or.inr ⟨q, (T.setVm vm₁).calling g' mk As.toArray, t, U', L, E, ce, hT, X', hL, e1, e2, hq, hce, hcv, vx_cls hW₁ hcl, st⟩
end Runs
section Rows
variable {p : Program} {l : Launch} {e : Env} {R : Room} {s : State} {m : MethodId} {args : Array Value} {below : List Frame} {meth : Method} {c : Code} {H : Heap} {locs : List Loc} {cells slots : Nat} {Q : State → Prop}
variable {mc ms : Nat} {free : Addr → Prop} {A0 A1 : Nat → Prop} {H0 : Heap} {a : Array Value} {pc : Nat} {ls : Array Slot} {st0 rest : List Value}
theorem vx_keep {st₀ t T' : State} {L : List Loc} (h0 : st₀.heap = H) (e1 : T'.heap = t.heap) (hS : va_S A0 H0 H locs) (hA : ∀ q, q < H.size → A1 q → A0 q) (hf : ∀ q, free q → A0 q) (hL : ∀ q ∈ L, free q.base) (hF : va_F A1 st₀ t) :
    H.size ≤ T'.heap.size ∧ (∀ q : Nat, q < H.size → ¬ A1 q → T'.heap[q]? = H[q]?) ∧ va_S A0 H0 T'.heap (locs ++ L) := by
  obtain ⟨hz, hk⟩ := hF
  rw [h0] at hz hk
  exact ⟨by rw [e1]; exact hz, fun q h1 h2 => by rw [e1]; exact hk q h1 h2,
    ⟨Nat.le_trans hS.1 (by rw [e1]; exact hz), fun q h1 h2 => by rw [e1, hk q (Nat.lt_of_lt_of_le h1 hS.1) (fun z => h2 (hA q (Nat.lt_of_lt_of_le h1 hS.1) z))]; exact hS.2.1 q h1 h2, fun q hq => by
      rcases List.mem_append.mp hq with h | h
      · exact hS.2.2 q h
      · exact hf _ (hL q h)⟩⟩
theorem vx_calli {S SX : Type} {post : Int32 → S → Prop} {px : SX → Prop} {B : S → State → Prop} {BX : String → SX → State → Prop} {AX : Nat → Prop} (hr : vx_Run p l e R s m args below meth c H locs cells slots mc ms (F0 m pc ls st0) rest (va_Qi post B A1 a) (vx_X px BX AX) free) (hS : va_S A0 H0 H locs) (hA : ∀ q, q < H.size → A1 q → A0 q) (hf : ∀ q, free q → A0 q) (hAX : ∀ q, q < H.size → AX q → A0 q)
    (kx : ∀ (E : String) (ce : Cell) (q9 : Addr) (u : SX) (t : State) (H1 : Heap) (locs1 : List Loc), t.heap = H1 → s.vm.Alike t.vm → px u → BX E u t → H.size ≤ H1.size → (∀ q : Nat, q < H.size → ¬ AX q → H1[q]? = H[q]?) → va_S A0 H0 H1 locs1 → H1[q9]? = some ce → ce.vm = .none → s.vm.findClass E = some ce.cls → vx_W p l e R s m args below meth c H1 locs1 (cells + mc) (slots + ms) Q (F0 m pc ls rest) q9)
    (kk : ∀ (r : Int32) (u : S) (t : State) (H1 : Heap) (locs1 : List Loc), t.heap = H1 → s.vm.Alike t.vm → post r u → B u t → H.size ≤ H1.size → (∀ q : Nat, q < H.size → ¬ A1 q → H1[q]? = H[q]?) → va_S A0 H0 H1 locs1 → W p l e R s m args below meth c H1 locs1 (cells + mc) (slots + ms) Q (F0 m (pc + 3) ls (.int r :: rest))) : W p l e R s m args below meth c H locs cells slots Q (F0 m pc ls st0) := by
  intro T hT X
  rcases hr T hT X with ⟨v, st₀, t, T', L, h0, X', hL, e1, e2, ⟨⟨r, u, hv, hp, hb⟩, hF⟩, st⟩ | ⟨q, st₀, t, T', L, E, ce, h0, X', hL, e1, e2, ⟨u, hp, hb, hF⟩, hce, hcv, hcl, st⟩
  · cases hv
    obtain ⟨k1, k2, k3⟩ := vx_keep h0 e1 hS hA hf hL hF
    obtain ⟨t2, a1, b1⟩ := kk r u t T'.heap (locs ++ L) e1.symm (by rw [← e2]; exact X'.warmed.alike) hp hb k1 k2 k3 T' rfl X'
    exact ⟨t2, st t2 a1, b1⟩
  · obtain ⟨k1, k2, k3⟩ := vx_keep h0 e1 hS hAX hf hL hF
    obtain ⟨t2, a1, b1⟩ := kx E ce q u t T'.heap (locs ++ L) e1.symm (by rw [← e2]; exact X'.warmed.alike) hp hb k1 k2 k3 (by rw [e1]; exact hce) hcv hcl T' rfl X'
    exact ⟨t2, st.trans a1, b1⟩
theorem vx_calll {S SX : Type} {post : Int64 → S → Prop} {px : SX → Prop} {B : S → State → Prop} {BX : String → SX → State → Prop} {AX : Nat → Prop} (hr : vx_Run p l e R s m args below meth c H locs cells slots mc ms (F0 m pc ls st0) rest (va_Ql post B A1 a) (vx_X px BX AX) free) (hS : va_S A0 H0 H locs) (hA : ∀ q, q < H.size → A1 q → A0 q) (hf : ∀ q, free q → A0 q) (hAX : ∀ q, q < H.size → AX q → A0 q)
    (kx : ∀ (E : String) (ce : Cell) (q9 : Addr) (u : SX) (t : State) (H1 : Heap) (locs1 : List Loc), t.heap = H1 → s.vm.Alike t.vm → px u → BX E u t → H.size ≤ H1.size → (∀ q : Nat, q < H.size → ¬ AX q → H1[q]? = H[q]?) → va_S A0 H0 H1 locs1 → H1[q9]? = some ce → ce.vm = .none → s.vm.findClass E = some ce.cls → vx_W p l e R s m args below meth c H1 locs1 (cells + mc) (slots + ms) Q (F0 m pc ls rest) q9)
    (kk : ∀ (r : Int64) (u : S) (t : State) (H1 : Heap) (locs1 : List Loc), t.heap = H1 → s.vm.Alike t.vm → post r u → B u t → H.size ≤ H1.size → (∀ q : Nat, q < H.size → ¬ A1 q → H1[q]? = H[q]?) → va_S A0 H0 H1 locs1 → W p l e R s m args below meth c H1 locs1 (cells + mc) (slots + ms) Q (F0 m (pc + 3) ls (.long r :: rest))) : W p l e R s m args below meth c H locs cells slots Q (F0 m pc ls st0) := by
  intro T hT X
  rcases hr T hT X with ⟨v, st₀, t, T', L, h0, X', hL, e1, e2, ⟨⟨r, u, hv, hp, hb⟩, hF⟩, st⟩ | ⟨q, st₀, t, T', L, E, ce, h0, X', hL, e1, e2, ⟨u, hp, hb, hF⟩, hce, hcv, hcl, st⟩
  · cases hv
    obtain ⟨k1, k2, k3⟩ := vx_keep h0 e1 hS hA hf hL hF
    obtain ⟨t2, a1, b1⟩ := kk r u t T'.heap (locs ++ L) e1.symm (by rw [← e2]; exact X'.warmed.alike) hp hb k1 k2 k3 T' rfl X'
    exact ⟨t2, st t2 a1, b1⟩
  · obtain ⟨k1, k2, k3⟩ := vx_keep h0 e1 hS hAX hf hL hF
    obtain ⟨t2, a1, b1⟩ := kx E ce q u t T'.heap (locs ++ L) e1.symm (by rw [← e2]; exact X'.warmed.alike) hp hb k1 k2 k3 (by rw [e1]; exact hce) hcv hcl T' rfl X'
    exact ⟨t2, st.trans a1, b1⟩
theorem vx_callf {S SX : Type} {post : UInt32 → S → Prop} {px : SX → Prop} {B : S → State → Prop} {BX : String → SX → State → Prop} {AX : Nat → Prop} (hr : vx_Run p l e R s m args below meth c H locs cells slots mc ms (F0 m pc ls st0) rest (va_Qf post B A1 a) (vx_X px BX AX) free) (hS : va_S A0 H0 H locs) (hA : ∀ q, q < H.size → A1 q → A0 q) (hf : ∀ q, free q → A0 q) (hAX : ∀ q, q < H.size → AX q → A0 q)
    (kx : ∀ (E : String) (ce : Cell) (q9 : Addr) (u : SX) (t : State) (H1 : Heap) (locs1 : List Loc), t.heap = H1 → s.vm.Alike t.vm → px u → BX E u t → H.size ≤ H1.size → (∀ q : Nat, q < H.size → ¬ AX q → H1[q]? = H[q]?) → va_S A0 H0 H1 locs1 → H1[q9]? = some ce → ce.vm = .none → s.vm.findClass E = some ce.cls → vx_W p l e R s m args below meth c H1 locs1 (cells + mc) (slots + ms) Q (F0 m pc ls rest) q9)
    (kk : ∀ (r : UInt32) (u : S) (t : State) (H1 : Heap) (locs1 : List Loc), t.heap = H1 → s.vm.Alike t.vm → post r u → B u t → H.size ≤ H1.size → (∀ q : Nat, q < H.size → ¬ A1 q → H1[q]? = H[q]?) → va_S A0 H0 H1 locs1 → W p l e R s m args below meth c H1 locs1 (cells + mc) (slots + ms) Q (F0 m (pc + 3) ls (.float r :: rest))) : W p l e R s m args below meth c H locs cells slots Q (F0 m pc ls st0) := by
  intro T hT X
  rcases hr T hT X with ⟨v, st₀, t, T', L, h0, X', hL, e1, e2, ⟨⟨r, u, hv, hp, hb⟩, hF⟩, st⟩ | ⟨q, st₀, t, T', L, E, ce, h0, X', hL, e1, e2, ⟨u, hp, hb, hF⟩, hce, hcv, hcl, st⟩
  · cases hv
    obtain ⟨k1, k2, k3⟩ := vx_keep h0 e1 hS hA hf hL hF
    obtain ⟨t2, a1, b1⟩ := kk r u t T'.heap (locs ++ L) e1.symm (by rw [← e2]; exact X'.warmed.alike) hp hb k1 k2 k3 T' rfl X'
    exact ⟨t2, st t2 a1, b1⟩
  · obtain ⟨k1, k2, k3⟩ := vx_keep h0 e1 hS hAX hf hL hF
    obtain ⟨t2, a1, b1⟩ := kx E ce q u t T'.heap (locs ++ L) e1.symm (by rw [← e2]; exact X'.warmed.alike) hp hb k1 k2 k3 (by rw [e1]; exact hce) hcv hcl T' rfl X'
    exact ⟨t2, st.trans a1, b1⟩
theorem vx_calld {S SX : Type} {post : UInt64 → S → Prop} {px : SX → Prop} {B : S → State → Prop} {BX : String → SX → State → Prop} {AX : Nat → Prop} (hr : vx_Run p l e R s m args below meth c H locs cells slots mc ms (F0 m pc ls st0) rest (va_Qd post B A1 a) (vx_X px BX AX) free) (hS : va_S A0 H0 H locs) (hA : ∀ q, q < H.size → A1 q → A0 q) (hf : ∀ q, free q → A0 q) (hAX : ∀ q, q < H.size → AX q → A0 q)
    (kx : ∀ (E : String) (ce : Cell) (q9 : Addr) (u : SX) (t : State) (H1 : Heap) (locs1 : List Loc), t.heap = H1 → s.vm.Alike t.vm → px u → BX E u t → H.size ≤ H1.size → (∀ q : Nat, q < H.size → ¬ AX q → H1[q]? = H[q]?) → va_S A0 H0 H1 locs1 → H1[q9]? = some ce → ce.vm = .none → s.vm.findClass E = some ce.cls → vx_W p l e R s m args below meth c H1 locs1 (cells + mc) (slots + ms) Q (F0 m pc ls rest) q9)
    (kk : ∀ (r : UInt64) (u : S) (t : State) (H1 : Heap) (locs1 : List Loc), t.heap = H1 → s.vm.Alike t.vm → post r u → B u t → H.size ≤ H1.size → (∀ q : Nat, q < H.size → ¬ A1 q → H1[q]? = H[q]?) → va_S A0 H0 H1 locs1 → W p l e R s m args below meth c H1 locs1 (cells + mc) (slots + ms) Q (F0 m (pc + 3) ls (.double r :: rest))) : W p l e R s m args below meth c H locs cells slots Q (F0 m pc ls st0) := by
  intro T hT X
  rcases hr T hT X with ⟨v, st₀, t, T', L, h0, X', hL, e1, e2, ⟨⟨r, u, hv, hp, hb⟩, hF⟩, st⟩ | ⟨q, st₀, t, T', L, E, ce, h0, X', hL, e1, e2, ⟨u, hp, hb, hF⟩, hce, hcv, hcl, st⟩
  · cases hv
    obtain ⟨k1, k2, k3⟩ := vx_keep h0 e1 hS hA hf hL hF
    obtain ⟨t2, a1, b1⟩ := kk r u t T'.heap (locs ++ L) e1.symm (by rw [← e2]; exact X'.warmed.alike) hp hb k1 k2 k3 T' rfl X'
    exact ⟨t2, st t2 a1, b1⟩
  · obtain ⟨k1, k2, k3⟩ := vx_keep h0 e1 hS hAX hf hL hF
    obtain ⟨t2, a1, b1⟩ := kx E ce q u t T'.heap (locs ++ L) e1.symm (by rw [← e2]; exact X'.warmed.alike) hp hb k1 k2 k3 (by rw [e1]; exact hce) hcv hcl T' rfl X'
    exact ⟨t2, st.trans a1, b1⟩
theorem vx_callv {S SX : Type} {post : S → Prop} {px : SX → Prop} {B : S → State → Prop} {BX : String → SX → State → Prop} {AX : Nat → Prop} (hr : vx_Run p l e R s m args below meth c H locs cells slots mc ms (F0 m pc ls st0) rest (va_Qv post B A1 a) (vx_X px BX AX) free) (hS : va_S A0 H0 H locs) (hA : ∀ q, q < H.size → A1 q → A0 q) (hf : ∀ q, free q → A0 q) (hAX : ∀ q, q < H.size → AX q → A0 q)
    (kx : ∀ (E : String) (ce : Cell) (q9 : Addr) (u : SX) (t : State) (H1 : Heap) (locs1 : List Loc), t.heap = H1 → s.vm.Alike t.vm → px u → BX E u t → H.size ≤ H1.size → (∀ q : Nat, q < H.size → ¬ AX q → H1[q]? = H[q]?) → va_S A0 H0 H1 locs1 → H1[q9]? = some ce → ce.vm = .none → s.vm.findClass E = some ce.cls → vx_W p l e R s m args below meth c H1 locs1 (cells + mc) (slots + ms) Q (F0 m pc ls rest) q9)
    (kk : ∀ (u : S) (t : State) (H1 : Heap) (locs1 : List Loc), t.heap = H1 → s.vm.Alike t.vm → post u → B u t → H.size ≤ H1.size → (∀ q : Nat, q < H.size → ¬ A1 q → H1[q]? = H[q]?) → va_S A0 H0 H1 locs1 → W p l e R s m args below meth c H1 locs1 (cells + mc) (slots + ms) Q (F0 m (pc + 3) ls (rest))) : W p l e R s m args below meth c H locs cells slots Q (F0 m pc ls st0) := by
  intro T hT X
  rcases hr T hT X with ⟨v, st₀, t, T', L, h0, X', hL, e1, e2, ⟨⟨u, hv, hp, hb⟩, hF⟩, st⟩ | ⟨q, st₀, t, T', L, E, ce, h0, X', hL, e1, e2, ⟨u, hp, hb, hF⟩, hce, hcv, hcl, st⟩
  · cases hv
    obtain ⟨k1, k2, k3⟩ := vx_keep h0 e1 hS hA hf hL hF
    obtain ⟨t2, a1, b1⟩ := kk u t T'.heap (locs ++ L) e1.symm (by rw [← e2]; exact X'.warmed.alike) hp hb k1 k2 k3 T' rfl X'
    exact ⟨t2, st t2 a1, b1⟩
  · obtain ⟨k1, k2, k3⟩ := vx_keep h0 e1 hS hAX hf hL hF
    obtain ⟨t2, a1, b1⟩ := kx E ce q u t T'.heap (locs ++ L) e1.symm (by rw [← e2]; exact X'.warmed.alike) hp hb k1 k2 k3 (by rw [e1]; exact hce) hcv hcl T' rfl X'
    exact ⟨t2, st.trans a1, b1⟩
/-- caught by the row x of this method's table; the rows ahead don't take it -/
theorem vx_catch {own name : String} {E : String} {ce : Cell} {q : Addr} (hown : s.vm.findClass own = some m.cls) (pre : List ExceptionTableEntry) (x : ExceptionTableEntry) (suf : List ExceptionTableEntry) (hsplit : c.exceptionTable.toList = pre ++ x :: suf)
    (hpass : ∀ z ∈ pre, covers z pc = false ∨ (z.catchType ≠ 0 ∧ ∃ nm : String, (Cond.classLink own z.catchType nm).before args s = true ∧ va_Nc E nm s)) (hx : covers x pc = true) (h0 : x.catchType ≠ 0)
    (hlink : (Cond.classLink own x.catchType name).before args s = true) (hcast : (Cond.castable E name).before args s = true) (hcell : H[q]? = some ce) (hv : ce.vm = .none) (hcl : s.vm.findClass E = some ce.cls)
    (kk : W p l e R s m args below meth c H locs cells slots Q (F0 m x.handlerPc ls [.ref q])) : vx_W p l e R s m args below meth c H locs cells slots Q (F0 m pc ls rest) q := by
  intro T hT X
  have hpl : e.platform.magicAccessors = ({} : Platform).magicAccessors := by rw [X.admits.platform]
  obtain ⟨c3, c4, hc3, hc4, hasg⟩ := Cond.castable_spec hcast
  cases Option.some.inj (hc3.symm.trans hcl)
  obtain ⟨c5, hc5, hcl5⟩ := Cond.classLink_spec hown hlink e.platform hpl
  cases Option.some.inj (hc4.symm.trans hc5)
  obtain ⟨vm', X', st⟩ := X.thenCaughtThrough q (g := F0 m pc ls rest) rfl (Steps.refl _) (by rw [hT]; exact hcell) (by rw [hv]; rfl) (by obtain ⟨k9, h9, -⟩ := Vm.findClass_spec hcl; exact ⟨k9, h9⟩) pre x suf hsplit
    (fun z hz => by
      rcases hpass z hz with h | ⟨hz0, nm, hl1, hn1⟩
      · exact Or.inl h
      · obtain ⟨c6, hc6, hcl6⟩ := Cond.classLink_spec hown hl1 e.platform hpl
        obtain ⟨a8, b8, h1, h2, h3⟩ := hn1
        cases Option.some.inj (h1.symm.trans hcl)
        cases Option.some.inj (h2.symm.trans hc6)
        exact Or.inr ⟨hz0, _, hcl6, h3⟩) hx (Or.inr ⟨h0, c4, hcl5, hasg⟩)
  obtain ⟨t, a1, b1⟩ := kk (T.setVm vm') hT X'
  exact ⟨t, st.trans a1, b1⟩
end Rows
section Ends
variable {p : Program} {l : Launch} {e : Env} {R : Room} {s : State} {m : MethodId} {args : Array Value} {below : List Frame} {meth : Method} {c : Code} {H : Heap} {locs : List Loc} {cells slots : Nat} {Q : State → Prop}
variable {mc ms : Nat} {free : Addr → Prop} {A0 A1 : Nat → Prop} {H0 : Heap} {a : Array Value} {ls : Array Slot} {st0 rest : List Value}
variable {Qc : Array Value → State → Outcome → State → Prop} {XC : String → State → State → Prop}
/-- what a body that may throw owes at its end -/
def vx_MQ (below : List Frame) (Qc : Array Value → State → Outcome → State → Prop) (XC : String → State → State → Prop) (a : Array Value) (s : State) (mc ms : Nat) (free : Addr → Prop) : State → Prop := fun t =>
  ∃ o, t.status = .running ∧ Ended t below o ∧ vx_Q Qc XC mc ms free a s o t
theorem vx_ret {g : JFrame} {mc ms : Nat} (k : W p l e R s m args below meth c H locs cells slots (MQ below Qc args s mc ms free) g) : W p l e R s m args below meth c H locs cells slots (vx_MQ below Qc XC args s mc ms free) g := by
  intro T hT X
  obtain ⟨t, a1, o, b1, b2, b3, b4⟩ := k T hT X
  exact ⟨t, a1, o, b1, b2, Or.inl ⟨b3, b4⟩⟩
/-- not caught here: it goes on to the caller -/
theorem vx_widen {g : JFrame} {q : Addr} {k n : Nat} (h1 : cells ≤ k) (h2 : slots ≤ n) (kk : vx_W p l e R s m args below meth c H locs k n Q g q) : vx_W p l e R s m args below meth c H locs cells slots Q g q := fun T hT X => kk T hT (stand_widen X h1 h2)
theorem vx_out {pc : Nat} {E : String} {ce : Cell} {q : Addr} {mc ms : Nat} (hout : ∀ x ∈ c.exceptionTable.toList, covers x pc = false) (hlocks : meth.locks = false) (hcell : H[q]? = some ce) (hv : ce.vm = .none) (hcl : s.vm.findClass E = some ce.cls)
    (hx : ∀ t : State, t.heap = H → s.vm.Alike t.vm → XC E s t) (hf : ∀ z ∈ locs, free z.base) (hc : cells ≤ mc) (hs : slots ≤ ms) :
    vx_W p l e R s m args below meth c H locs cells slots (vx_MQ below Qc XC args s mc ms free) (F0 m pc ls rest) q := by
  intro T hT X
  obtain ⟨st1, hrun, hend, hW, hsm⟩ := X.leaveThrown q (g := F0 m pc ls rest) rfl rfl rfl hout hlocks
  have hcell9 : (T.setFrames (.throwing q :: below)).heap[q]? = some ce := by
    show T.heap[q]? = some ce
    rw [hT]; exact hcell
  exact ⟨_, st1, .threw q, hrun, hend, Or.inr ⟨q, rfl, E, ce, locs, hx _ hT hW.alike, hcell9, hv, hcl, hW, hsm.mono hc hs, hf⟩⟩
theorem vx_frame {U : State} {k n : Nat} (h : s.sameButNew ({ U with vm := s.vm } : State) locs k n) : s.heap.size ≤ U.heap.size ∧ ∀ q : Nat, q < s.heap.size → (∀ z ∈ locs, z.base ≠ q) → U.heap[q]? = s.heap[q]? := by
  obtain ⟨-, h2, -, -, -, h6⟩ := h
  refine ⟨h2, fun q hq hz => ?_⟩
  obtain ⟨c9, e1, e2, e3, e4⟩ := h6 q _ (Array.getElem?_eq_getElem hq)
  have hs : c9.slots = (s.heap[q]).slots := Array.ext_getElem? fun i => e4 i fun hm => hz _ hm rfl
  have h9 : c9 = s.heap[q] := by
    rw [hs] at e2
    exact e2
  have e5 : U.heap[q]? = some c9 := e1
  rw [e5, h9, Array.getElem?_eq_getElem hq]
/-- the words of a throw but the four that speak of the heap -/
def vx_no (w : Cond) : Bool := decide (w ≠ .isRef (.static Bundle.tN "UNASSIGNED_STACK" Bundle.steD)) && decide (w ≠ .isRef (.static Bundle.tN "SUPPRESSED_SENTINEL" Bundle.listD)) && decide (w ≠ .laysStatic Bundle.tN "UNASSIGNED_STACK" Bundle.steD) && decide (w ≠ .laysStatic Bundle.tN "SUPPRESSED_SENTINEL" Bundle.listD)
def vx_at0 (own : String) (ic : Nat) (X : String) (names : List String) : List Cond := (Bundle.ownAtoms0 own ic X names).filter vx_no
def vx_atS (own : String) (ic : Nat) (X : String) (names : List String) : List Cond := (Bundle.ownAtoms own ic X names).filter vx_no
/-- a word that the tables alone decide, or a good one -/
def vx_ot (w : Cond) : Bool := w.onTables || goodWord w
theorem vx_ot_at {args a' : Array Value} {s U : State} {w : Cond} (hW : s.WarmedH U.vm) (hvm : s.vm = U.vm) (hg : vx_ot w = true) (h : w.before args s = true) : w.before a' U = true := by
  simp only [vx_ot, Bool.or_eq_true] at hg
  rcases hg with hg | hg
  · exact va_tabs hg hvm h
  · exact word_at hW (good_of_word hg) h
/-- a list's words: the good ones out of the method's own list, the others by premises of their own -/
theorem vx_hat {args : Array Value} {s : State} {L B : List Cond} (h1 : ∀ w ∈ L.filter goodWord, w.before args s = true) (h2 : ∀ w ∈ L.filter (fun w => !goodWord w), w ∈ B) (h3 : ∀ w ∈ B, w.before args s = true) : ∀ w ∈ L, w.before args s = true := by
  intro w hw
  by_cases g : goodWord w = true
  · exact h1 w (List.mem_filter.mpr ⟨hw, g⟩)
  · refine h3 w (h2 w (List.mem_filter.mpr ⟨hw, ?_⟩))
    show (!goodWord w) = true
    cases hgw : goodWord w
    · rfl
    · exact absurd hgw g
theorem vx_c {args : Array Value} {s : State} {w : Cond} {B : List Cond} (h : w.before args s = true) (t : ∀ w ∈ B, w.before args s = true) : ∀ w' ∈ w :: B, w'.before args s = true := fun w' h' => (List.mem_cons.mp h').elim (fun e => by rw [e]; exact h) (t w')
theorem vx_n {args : Array Value} {s : State} : ∀ w ∈ ([] : List Cond), w.before args s = true := fun _ h => nomatch h
theorem vx_own {args : Array Value} {s : State} {L : List Cond} (h1 : ∀ w ∈ L.filter vx_no, w.before args s = true)
    (hU : (Cond.isRef (.static Bundle.tN "UNASSIGNED_STACK" Bundle.steD)).before args s = true) (hN : (Cond.isRef (.static Bundle.tN "SUPPRESSED_SENTINEL" Bundle.listD)).before args s = true)
    (lU : (Cond.laysStatic Bundle.tN "UNASSIGNED_STACK" Bundle.steD).before args s = true) (lN : (Cond.laysStatic Bundle.tN "SUPPRESSED_SENTINEL" Bundle.listD).before args s = true) : ∀ w ∈ L, w.before args s = true := by
  intro w hw
  by_cases e1 : w = .isRef (.static Bundle.tN "UNASSIGNED_STACK" Bundle.steD)
  · rw [e1]; exact hU
  · by_cases e2 : w = .isRef (.static Bundle.tN "SUPPRESSED_SENTINEL" Bundle.listD)
    · rw [e2]; exact hN
    · by_cases e3 : w = .laysStatic Bundle.tN "UNASSIGNED_STACK" Bundle.steD
      · rw [e3]; exact lU
      · by_cases e4 : w = .laysStatic Bundle.tN "SUPPRESSED_SENTINEL" Bundle.listD
        · rw [e4]; exact lN
        · exact h1 w (List.mem_filter.mpr ⟨hw, by unfold vx_no; rw [decide_eq_true e1, decide_eq_true e2, decide_eq_true e3, decide_eq_true e4]; rfl⟩)
/-- where a static field lies, its class's statics cell in H -/
def vx_L (C n d : String) (A : Nat → Prop) (U : State) (H : Heap) : Prop := ∃ (c : ClassId) (k : Class) (i : Nat) (f : Field) (a : Nat) (cell : Cell), U.vm.findClass C = some c ∧ U.fieldFound? C n d = some (c, k, i, f) ∧ f.isStatic = true ∧ k.statics = some a ∧ H[a]? = some cell ∧ cell.vm.isStatics = true ∧ cell.cls = c ∧ f.slot < cell.slots.size ∧ k.staticTypes[f.slot]? = some f.type ∧ ¬ A a
theorem vx_L.moved {C n d : String} {A : Nat → Prop} {u U : State} {H : Heap} (hvm : u.vm.Alike U.vm) (h : vx_L C n d A u H) : vx_L C n d A U H := by
  obtain ⟨c, k, i, f, a, cell, h1, h2, h3, h4, h5, h6, h7, h8, h9, h10⟩ := h
  obtain ⟨k', hi', he⟩ := State.fieldFound?_setVm hvm h2
  exact ⟨c, k', i, f, a, cell, by rw [hvm.findClass]; exact h1, hi', h3, by rw [he]; exact h4, h5, h6, h7, h8, by rw [he]; exact h9, h10⟩
theorem vx_L.kept {C n d : String} {A : Nat → Prop} {U : State} {H H1 : Heap} (h : vx_L C n d A U H) (hq : ∀ a : Nat, a < H.size → ¬ A a → H1[a]? = H[a]?) : vx_L C n d A U H1 := by
  obtain ⟨c, k, i, f, a, cell, h1, h2, h3, h4, h5, h6, h7, h8, h9, h10⟩ := h
  exact ⟨c, k, i, f, a, cell, h1, h2, h3, h4, by rw [hq a (Array.getElem?_eq_some_iff.mp h5).1 h10]; exact h5, h6, h7, h8, h9, h10⟩
theorem vx_L.narrow {C n d : String} {A B : Nat → Prop} {U : State} {H : Heap} (h : vx_L C n d A U H) (hAB : ∀ q, B q → A q) : vx_L C n d B U H := by
  obtain ⟨c, k, i, f, a, cell, h1, h2, h3, h4, h5, h6, h7, h8, h9, h10⟩ := h
  exact ⟨c, k, i, f, a, cell, h1, h2, h3, h4, h5, h6, h7, h8, h9, fun z => h10 (hAB _ z)⟩
theorem vx_L.word {C n d : String} {A : Nat → Prop} {s : State} {args : Array Value} (h : vx_L C n d A s s.heap) : (Cond.laysStatic C n d).before args s = true := by
  obtain ⟨c, k, i, f, a, cell, h1, h2, h3, h4, h5, h6, h7, h8, h9, -⟩ := h
  show (Cond.laysStatic C n d).holds args s none s [] = true
  exact Cond.laysStatic_of h1 h2 h3 h4 h5 h6 h7 h8 h9
/-- .. and what it holds: null or some reference -/
def vx_Zq (C n d : String) (A : Nat → Prop) (U : State) (H : Heap) : Prop := va_Zq C n d A U H ∧ vx_L C n d A U H
theorem vx_Zq.moved {C n d : String} {A : Nat → Prop} {u U : State} {H : Heap} (hvm : u.vm.Alike U.vm) (h : vx_Zq C n d A u H) : vx_Zq C n d A U H := ⟨va_Zq.moved hvm h.1, vx_L.moved hvm h.2⟩
theorem vx_Zq.kept {C n d : String} {A : Nat → Prop} {U : State} {H H1 : Heap} (h : vx_Zq C n d A U H) (hq : ∀ a : Nat, a < H.size → ¬ A a → H1[a]? = H[a]?) : vx_Zq C n d A U H1 := ⟨va_Zq.kept h.1 hq, vx_L.kept h.2 hq⟩
theorem vx_Zq.narrow {C n d : String} {A B : Nat → Prop} {U : State} {H : Heap} (h : vx_Zq C n d A U H) (hAB : ∀ q, B q → A q) : vx_Zq C n d B U H := ⟨va_Zq.narrow h.1 hAB, vx_L.narrow h.2 hAB⟩
theorem vx_Zqof {args : Array Value} {s : State} {C n d : String} {A : Nat → Prop} (hl : (Cond.laysStatic C n d).before args s = true) (hini : (Cond.initialized C).before args s = true) (h : (Cond.isRef (.static C n d)).before args s = true) (hA : ∀ a : Nat, a < s.heap.size → ¬ A a) : vx_Zq C n d A s s.heap := by
  refine ⟨va_Zqof hl hini h hA, ?_⟩
  obtain ⟨c, k, i, f, a, cell, h1, h2, h3, h4, h5, h6, h7, h8, h9⟩ := Cond.laysStatic_spec hl
  exact ⟨c, k, i, f, a, cell, h1, h2, h3, h4, h5, h6, h7, h8, h9, hA a (Array.getElem?_eq_some_iff.mp h5).1⟩
theorem vx_isRef {C n d : String} {v : Value} {A : Nat → Prop} {s : State} {args : Array Value} (h : va_Z C n d v A s s.heap) (hv : v.isRef = true) : (Cond.isRef (.static C n d)).before args s = true := by
  obtain ⟨cf, kf, fi, f, a, cell, h1, h2, h3, h4, h5, h6, h7, -⟩ := h
  have he : (Term.static C n d).eval args s none [] s = some v := by
    simp [Term.eval, State.fieldNamed?, h1, h2, h4, h5, h6, h7]
  simp only [Cond.before, Cond.holds, Cond.value, he]
  cases v <;> simp_all [Value.isRef]
theorem vx_isRefq {C n d : String} {A : Nat → Prop} {s : State} {args : Array Value} (h : va_Zq C n d A s s.heap) : (Cond.isRef (.static C n d)).before args s = true := by
  rcases h with h | ⟨t, h⟩
  · exact vx_isRef h rfl
  · exact vx_isRef h rfl
/-- the same frame, seen from here: as if the method were called anew in this heap -/
theorem vx_rebase {T : State} (X : Stand p l e R s m args below meth c T locs cells slots) {R' : Room} (hf : R'.frames ≤ R.frames) (hl : R'.locals ≤ R.locals) (hc : cells + R'.cells ≤ R.cells) (hs : slots + R'.slots ≤ R.slots) :
    Stand p l e R' ((T.setVm s.vm).setFrames (.invoking m args :: below)) m args below meth c T [] 0 0 := by
  have htop : (T.setVm s.vm).topJava?.isSome := X.here.top
  have hF : ((T.setVm s.vm).setFrames (.invoking m args :: below)).frames = .invoking m args :: below := State.frames_setFrames _ (State.cur_lt_of_top htop)
  obtain ⟨g₀, hg0⟩ := Option.isSome_iff_exists.mp htop
  obtain ⟨r, hr⟩ := State.topJava?_eq_some.mp hg0
  have hl9 : e.platform.stackLimits (T.setVm s.vm).me = e.platform.stackLimits s.me := X.limits
  have hb9 : (T.setVm s.vm).me.stackBytes = s.me.stackBytes := X.bytes
  refine ⟨X.admits, X.cas, X.clock, hF, ?_, X.hears, X.method, X.code, X.here, X.tail, X.warmed, ?_, ?_, ?_⟩
  · have h := X.room
    have hU : ((T.setVm s.vm).setFrames (.invoking m args :: below)).localsInUse = s.localsInUse := by
      rw [State.localsInUse_invoking hF (meth := meth) (c := c) X.method X.code, State.localsInUse_invoking X.frames X.method X.code]
    simp only [State.hasRoom, Bool.and_eq_true, decide_eq_true_eq] at h ⊢
    obtain ⟨⟨⟨⟨h1, h2, h3, h4, h5, h6⟩, h7⟩, h8⟩, h9⟩ := h
    rw [X.frames, List.length_cons] at h2 h3
    have q1 := X.heapSize
    have q2 := X.used
    simp only [hF, hU, List.length_cons, State.stackLimits_setFrames, State.stackBytes_setFrames, hl9, hb9]
    refine ⟨⟨⟨⟨by omega, by omega, by omega, by omega, by omega, h6⟩, ?_⟩, ?_⟩, X.book⟩
    · show T.heap.size + R'.cells ≤ e.platform.maxCells
      omega
    · show T.slotsUsed + R'.slots ≤ e.platform.maxSlots
      omega
  · rw [State.stackLimits_setFrames]; rfl
  · rw [State.stackBytes_setFrames]; rfl
  · refine ⟨?_, Nat.le_refl _, Nat.le_refl _, ?_, ?_, fun a c9 h9 => ⟨c9, h9, rfl, rfl, fun _ _ => rfl⟩⟩
    · obtain ⟨t, ht, -⟩ := State.frames_cons hr
      show T.setVm s.vm = { ((T.setVm s.vm).setFrames (.invoking m args :: below)).setFrames (T.setVm s.vm).frames with heap := T.heap, slotsUsed := T.slotsUsed }
      rw [State.setFrames_setFrames, State.setFrames_self ht]
      rfl
    · show T.slotsUsed = T.slotsUsed + ((T.heap.toList.drop T.heap.size).map (·.slots.size)).sum
      rw [List.drop_eq_nil_of_le (Nat.le_of_eq Array.length_toList)]
      rfl
    · show ((T.heap.toList.drop T.heap.size).map (·.slots.size)).sum ≤ 0
      rw [List.drop_eq_nil_of_le (Nat.le_of_eq Array.length_toList)]
      exact Nat.le_refl _
/-- 'throw new E()': new; dup; invokespecial; athrow -/
theorem vx_throw0 {cc : ByteArray} {pc : Nat} (hexec : p.tables.exec = Jvm.exec) (hb : c.code = cc) (hl : l.stackTraces = false) {own cls : String} {names : List String} {ik ic mc ms : Nat} {A : Nat → Prop}
    (hown : s.vm.findClass own = some m.cls) (hcls : Bundle.fit cls = true) (hnames : ∀ n ∈ names, Bundle.fit n = true)
    (hk : (Cond.classLink own ik cls).before args s = true) (hini : (Cond.initialized cls).before args s = true) (hat : ∀ w ∈ vx_at0 own ic cls names, w.before args s = true)
    (hgood : ∀ w ∈ Cond.classLink own ik cls :: Cond.initialized cls :: vx_at0 own ic cls names, vx_ot w = true)
    (hU : vx_Zq Bundle.tN "UNASSIGNED_STACK" Bundle.steD A s s.heap) (hN : vx_Zq Bundle.tN "SUPPRESSED_SENTINEL" Bundle.listD A s s.heap) (hS : va_S A s.heap H locs) (hsize : ls.size = c.maxLocals)
    (d0 : decode cc pc = .ok (.new ik, 3)) (d3 : decode cc (pc + 3) = .ok (.dup, 1)) (d4 : decode cc (pc + 4) = .ok (.invokespecial ic, 3)) (d7 : decode cc (pc + 7) = .ok (.athrow, 1))
    (hout : ∀ x ∈ c.exceptionTable.toList, covers x (pc + 7) = false)
    (hRframes : names.length + 3 < R.frames) (hRlocals : (rest.map fun v => v.category).sum + (13 * (names.length + 1) + 42) ≤ R.locals) (hRcells : cells + 1 ≤ R.cells) (hRslots : slots + 6 ≤ R.slots) (hlocks : meth.locks = false)
    (hx : ∀ t : State, s.vm.Alike t.vm → H.size ≤ t.heap.size → (∀ q : Nat, q < H.size → t.heap[q]? = H[q]?) → XC cls s t)
    (hf : ∀ z ∈ locs, free z.base) (hc : cells + 1 ≤ mc) (hs : slots + 6 ≤ ms) :
    W p l e R s m args below meth c H locs cells slots (vx_MQ below Qc XC args s mc ms free) (F0 m pc ls rest) := by
  intro T hT X
  have htr : e.platform.stackTraces = false := (show e.platform.stackTraces = l.stackTraces by rw [X.admits.platform]).trans hl
  have Y := vx_rebase X (R' := { frames := R.frames, locals := R.locals, cells := 1, slots := 6 }) (Nat.le_refl _) (Nat.le_refl _) hRcells hRslots
  obtain ⟨s', hA⟩ : ∃ z, z = (T.setVm s.vm).setFrames (.invoking m args :: below) := ⟨_, rfl⟩
  rw [← hA] at Y
  have hvm : s'.vm = s.vm := by rw [hA]; rfl
  have hhp : s'.heap = H := by rw [hA]; exact hT
  have hW0 : s.WarmedH s'.vm := by rw [hvm]; exact State.WarmedH.refl s
  have hat' : ∀ w ∈ vx_at0 own ic cls names, w.before args s' = true := fun w hw => vx_ot_at hW0 hvm.symm (hgood w (List.mem_cons_of_mem _ (List.mem_cons_of_mem _ hw))) (hat w hw)
  have hk' : (Cond.classLink own ik cls).before args s' = true := vx_ot_at hW0 hvm.symm (hgood _ List.mem_cons_self) hk
  have hini' : (Cond.initialized cls).before args s' = true := vx_ot_at hW0 hvm.symm (hgood _ (List.mem_cons_of_mem _ List.mem_cons_self)) hini
  have hU' : vx_Zq Bundle.tN "UNASSIGNED_STACK" Bundle.steD A s' s'.heap := by rw [hhp]; exact vx_Zq.moved hW0.alike (hU.kept hS.2.1)
  have hN' : vx_Zq Bundle.tN "SUPPRESSED_SENTINEL" Bundle.listD A s' s'.heap := by rw [hhp]; exact vx_Zq.moved hW0.alike (hN.kept hS.2.1)
  have h : ∀ w ∈ Bundle.ownAtoms0 own ic cls names, w.before args s' = true := vx_own hat' (vx_isRefq hU'.1) (vx_isRefq hN'.1) hU'.2.word hN'.2.word
  have hown' : s'.vm.findClass own = some m.cls := by rw [hvm]; exact hown
  have hins : (Cond.instantiable cls 6).before args s' = true := h _ (by simp [Bundle.ownAtoms0])
  obtain ⟨vm₁, cX, kX, hfX, hkX, -, -, X₁, st1⟩ := Y.newCold hexec (own := own) (C := cls) (index := ik) (n := 6) hown' hk' hins hini'
    (g := F0 m pc ls rest) rfl (by rw [hb]; exact d0) (Nat.le_refl _) (Nat.le_refl _)
  generalize hT1 : (T.setVm vm₁).pushCell { cls := cX, slots := kX.instanceTypes.map defaultValue, vm := .none } = T1 at X₁ st1
  have hcat : (Value.ref T.heap.size).category = 1 := rfl
  have hcellA : T1.heap[T.heap.size]? = some (freshCell cX kX) := by rw [← hT1]; exact State.heap_pushCell_size _ _
  have d3' : decode c.code (pc + 3) = .ok (.dup, 1) := by rw [hb]; exact d3
  obtain ⟨U, hsteps, hrun, hend, hW, hsame, ce, hce, hO⟩ := X₁.ctorThrow0 hexec htr (own := own) (cls := cls) (names := names) (ic := ic) hown' hcls hnames h (fun x hx => nomatch hx) hfX hkX hcellA (by rw [hhp, hT]; exact Nat.le_refl _)
    (g := { method := m, pc := pc + 4, locals := ls, stack := .ref T.heap.size :: .ref T.heap.size :: rest, locked := none }) rfl hsize rfl rfl (rest := rest) rfl
    (by rw [hb]; exact d4) (by rw [hb]; exact d7) hout hRframes (by simp only [List.map_cons, List.sum_cons, hcat]; omega) hlocks
  obtain ⟨f1, f2⟩ := vx_frame hsame
  rw [hhp] at f1 f2
  have hWs : s.WarmedH U.vm := State.WarmedH.trans hW0 hW
  have hcl : s.vm.findClass cls = some ce.cls := by
    have h9 := hO.cls
    rw [hvm] at h9
    exact h9
  have hall : s.sameButNew ({ U with vm := s.vm } : State) locs mc ms := by
    subst hA
    obtain ⟨e1, e2⟩ := hsame
    rw [State.setFrames_setFrames] at e1
    have h2 : (T.setVm s.vm).sameButNew ({ U with vm := s.vm } : State) [] (0 + 1) (0 + 6) := ⟨e1, e2⟩
    have h3 := X.same.trans h2
    rw [List.append_nil] at h3
    exact h3.mono hc hs
  refine ⟨U, ?_, .threw T.heap.size, hrun, hend, Or.inr ⟨T.heap.size, rfl, cls, ce, locs, hx U hWs.alike f1 (fun q hq => f2 q hq (fun z hz => nomatch hz)), hce, hO.vm, hcl, hWs, hall, hf⟩⟩
  refine st1 _ ?_
  show Steps p.tables e below (T1.setTop { method := m, pc := pc + 3, locals := ls, stack := .ref T.heap.size :: rest, locked := none }) _
  jvm_step X₁.here [X₁.here.top, hexec, d3', Value.category]
  exact hsteps
/-- 'throw new E("text")': new; dup; ldc; invokespecial; athrow -/
theorem vx_throwS {cc : ByteArray} {pc : Nat} (hexec : p.tables.exec = Jvm.exec) (hb : c.code = cc) (hl : l.stackTraces = false) {own cls text : String} {names : List String} {ik is ic mc ms sa : Nat} {A : Nat → Prop}
    (hown : s.vm.findClass own = some m.cls) (hcls : Bundle.fit cls = true) (hnames : ∀ n ∈ names, Bundle.fit n = true)
    (hk : (Cond.classLink own ik cls).before args s = true) (hini : (Cond.initialized cls).before args s = true) (hstr : vk_R own is text sa s) (hat : ∀ w ∈ vx_atS own ic cls names, w.before args s = true)
    (hgood : ∀ w ∈ Cond.classLink own ik cls :: Cond.initialized cls :: vx_atS own ic cls names, vx_ot w = true)
    (hU : vx_Zq Bundle.tN "UNASSIGNED_STACK" Bundle.steD A s s.heap) (hN : vx_Zq Bundle.tN "SUPPRESSED_SENTINEL" Bundle.listD A s s.heap) (hS : va_S A s.heap H locs) (hsize : ls.size = c.maxLocals)
    (d0 : decode cc pc = .ok (.new ik, 3)) (d3 : decode cc (pc + 3) = .ok (.dup, 1)) (d4 : decode cc (pc + 4) = .ok (.ldc is, 2)) (d6 : decode cc (pc + 6) = .ok (.invokespecial ic, 3)) (d9 : decode cc (pc + 9) = .ok (.athrow, 1))
    (hout : ∀ x ∈ c.exceptionTable.toList, covers x (pc + 9) = false)
    (hRframes : names.length + 3 < R.frames) (hRlocals : (rest.map fun v => v.category).sum + (13 * (names.length + 1) + 43) ≤ R.locals) (hRcells : cells + 1 ≤ R.cells) (hRslots : slots + 6 ≤ R.slots) (hlocks : meth.locks = false)
    (hx : ∀ t : State, s.vm.Alike t.vm → H.size ≤ t.heap.size → (∀ q : Nat, q < H.size → t.heap[q]? = H[q]?) → XC cls s t)
    (hf : ∀ z ∈ locs, free z.base) (hc : cells + 1 ≤ mc) (hs : slots + 6 ≤ ms) :
    W p l e R s m args below meth c H locs cells slots (vx_MQ below Qc XC args s mc ms free) (F0 m pc ls rest) := by
  intro T hT X
  have htr : e.platform.stackTraces = false := (show e.platform.stackTraces = l.stackTraces by rw [X.admits.platform]).trans hl
  have Y := vx_rebase X (R' := { frames := R.frames, locals := R.locals, cells := 1, slots := 6 }) (Nat.le_refl _) (Nat.le_refl _) hRcells hRslots
  obtain ⟨s', hA⟩ : ∃ z, z = (T.setVm s.vm).setFrames (.invoking m args :: below) := ⟨_, rfl⟩
  rw [← hA] at Y
  have hvm : s'.vm = s.vm := by rw [hA]; rfl
  have hhp : s'.heap = H := by rw [hA]; exact hT
  have hW0 : s.WarmedH s'.vm := by rw [hvm]; exact State.WarmedH.refl s
  have hat' : ∀ w ∈ vx_atS own ic cls names, w.before args s' = true := fun w hw => vx_ot_at hW0 hvm.symm (hgood w (List.mem_cons_of_mem _ (List.mem_cons_of_mem _ hw))) (hat w hw)
  have hk' : (Cond.classLink own ik cls).before args s' = true := vx_ot_at hW0 hvm.symm (hgood _ List.mem_cons_self) hk
  have hini' : (Cond.initialized cls).before args s' = true := vx_ot_at hW0 hvm.symm (hgood _ (List.mem_cons_of_mem _ List.mem_cons_self)) hini
  have hU' : vx_Zq Bundle.tN "UNASSIGNED_STACK" Bundle.steD A s' s'.heap := by rw [hhp]; exact vx_Zq.moved hW0.alike (hU.kept hS.2.1)
  have hN' : vx_Zq Bundle.tN "SUPPRESSED_SENTINEL" Bundle.listD A s' s'.heap := by rw [hhp]; exact vx_Zq.moved hW0.alike (hN.kept hS.2.1)
  have h : ∀ w ∈ Bundle.ownAtoms own ic cls names, w.before args s' = true := vx_own hat' (vx_isRefq hU'.1) (vx_isRefq hN'.1) hU'.2.word hN'.2.word
  have hown' : s'.vm.findClass own = some m.cls := by rw [hvm]; exact hown
  have hins : (Cond.instantiable cls 6).before args s' = true := h _ (by simp [Bundle.ownAtoms])
  obtain ⟨vm₁, cX, kX, hfX, hkX, -, -, X₁, st1⟩ := Y.newCold hexec (own := own) (C := cls) (index := ik) (n := 6) hown' hk' hins hini'
    (g := F0 m pc ls rest) rfl (by rw [hb]; exact d0) (Nat.le_refl _) (Nat.le_refl _)
  generalize hT1 : (T.setVm vm₁).pushCell { cls := cX, slots := kX.instanceTypes.map defaultValue, vm := .none } = T1 at X₁ st1
  have hcat : (Value.ref T.heap.size).category = 1 := rfl
  have hcellA : T1.heap[T.heap.size]? = some (freshCell cX kX) := by rw [← hT1]; exact State.heap_pushCell_size _ _
  have d3' : decode c.code (pc + 3) = .ok (.dup, 1) := by rw [hb]; exact d3
  have d4' : decode c.code (pc + 4) = .ok (.ldc is, 2) := by rw [hb]; exact d4
  have hstr' : vk_R own is text sa s' := vk_R.warm hW0 hstr
  obtain ⟨U, hsteps, hrun, hend, hW, hsame, ce, hce, hO⟩ := X₁.ctorThrowS hexec htr (own := own) (cls := cls) (names := names) (ic := ic) hown' hcls hnames h (fun x hx => nomatch hx) hfX hkX hcellA (by rw [hhp, hT]; exact Nat.le_refl _) (msg := .ref sa) rfl
    (g := { method := m, pc := pc + 6, locals := ls, stack := .ref sa :: .ref T.heap.size :: .ref T.heap.size :: rest, locked := none }) rfl hsize rfl rfl (rest := rest) rfl
    (by rw [hb]; exact d6) (by rw [hb]; exact d9) hout hRframes (by simp only [List.map_cons, List.sum_cons, hcat]; omega) hlocks
  obtain ⟨f1, f2⟩ := vx_frame hsame
  rw [hhp] at f1 f2
  have hWs : s.WarmedH U.vm := State.WarmedH.trans hW0 hW
  have hcl : s.vm.findClass cls = some ce.cls := by
    have h9 := hO.cls
    rw [hvm] at h9
    exact h9
  have hall : s.sameButNew ({ U with vm := s.vm } : State) locs mc ms := by
    subst hA
    obtain ⟨e1, e2⟩ := hsame
    rw [State.setFrames_setFrames] at e1
    have h2 : (T.setVm s.vm).sameButNew ({ U with vm := s.vm } : State) [] (0 + 1) (0 + 6) := ⟨e1, e2⟩
    have h3 := X.same.trans h2
    rw [List.append_nil] at h3
    exact h3.mono hc hs
  refine ⟨U, ?_, .threw T.heap.size, hrun, hend, Or.inr ⟨T.heap.size, rfl, cls, ce, locs, hx U hWs.alike f1 (fun q hq => f2 q hq (fun z hz => nomatch hz)), hce, hO.vm, hcl, hWs, hall, hf⟩⟩
  refine st1 _ ?_
  show Steps p.tables e below (T1.setTop { method := m, pc := pc + 3, locals := ls, stack := .ref T.heap.size :: rest, locked := none }) _
  jvm_step X₁.here [X₁.here.top, hexec, d3', Value.category]
  exact X₁.ldcString hexec (own := own) (text := text) (index := is) (a := sa) hown' hstr'.1 hstr'.2
    (g := { method := m, pc := pc + 4, locals := ls, stack := .ref T.heap.size :: .ref T.heap.size :: rest, locked := none }) rfl d4' _ hsteps
/-- 'throw new E("text")', the text by a wide index -/
theorem vx_throwSW {cc : ByteArray} {pc : Nat} (hexec : p.tables.exec = Jvm.exec) (hb : c.code = cc) (hl : l.stackTraces = false) {own cls text : String} {names : List String} {ik is ic mc ms sa : Nat} {A : Nat → Prop}
    (hown : s.vm.findClass own = some m.cls) (hcls : Bundle.fit cls = true) (hnames : ∀ n ∈ names, Bundle.fit n = true)
    (hk : (Cond.classLink own ik cls).before args s = true) (hini : (Cond.initialized cls).before args s = true) (hstr : vk_R own is text sa s) (hat : ∀ w ∈ vx_atS own ic cls names, w.before args s = true)
    (hgood : ∀ w ∈ Cond.classLink own ik cls :: Cond.initialized cls :: vx_atS own ic cls names, vx_ot w = true)
    (hU : vx_Zq Bundle.tN "UNASSIGNED_STACK" Bundle.steD A s s.heap) (hN : vx_Zq Bundle.tN "SUPPRESSED_SENTINEL" Bundle.listD A s s.heap) (hS : va_S A s.heap H locs) (hsize : ls.size = c.maxLocals)
    (d0 : decode cc pc = .ok (.new ik, 3)) (d3 : decode cc (pc + 3) = .ok (.dup, 1)) (d4 : decode cc (pc + 4) = .ok (.ldc_w is, 3)) (d7 : decode cc (pc + 7) = .ok (.invokespecial ic, 3)) (d10 : decode cc (pc + 10) = .ok (.athrow, 1))
    (hout : ∀ x ∈ c.exceptionTable.toList, covers x (pc + 10) = false)
    (hRframes : names.length + 3 < R.frames) (hRlocals : (rest.map fun v => v.category).sum + (13 * (names.length + 1) + 43) ≤ R.locals) (hRcells : cells + 1 ≤ R.cells) (hRslots : slots + 6 ≤ R.slots) (hlocks : meth.locks = false)
    (hx : ∀ t : State, s.vm.Alike t.vm → H.size ≤ t.heap.size → (∀ q : Nat, q < H.size → t.heap[q]? = H[q]?) → XC cls s t)
    (hf : ∀ z ∈ locs, free z.base) (hc : cells + 1 ≤ mc) (hs : slots + 6 ≤ ms) :
    W p l e R s m args below meth c H locs cells slots (vx_MQ below Qc XC args s mc ms free) (F0 m pc ls rest) := by
  intro T hT X
  have htr : e.platform.stackTraces = false := (show e.platform.stackTraces = l.stackTraces by rw [X.admits.platform]).trans hl
  have Y := vx_rebase X (R' := { frames := R.frames, locals := R.locals, cells := 1, slots := 6 }) (Nat.le_refl _) (Nat.le_refl _) hRcells hRslots
  obtain ⟨s', hA⟩ : ∃ z, z = (T.setVm s.vm).setFrames (.invoking m args :: below) := ⟨_, rfl⟩
  rw [← hA] at Y
  have hvm : s'.vm = s.vm := by rw [hA]; rfl
  have hhp : s'.heap = H := by rw [hA]; exact hT
  have hW0 : s.WarmedH s'.vm := by rw [hvm]; exact State.WarmedH.refl s
  have hat' : ∀ w ∈ vx_atS own ic cls names, w.before args s' = true := fun w hw => vx_ot_at hW0 hvm.symm (hgood w (List.mem_cons_of_mem _ (List.mem_cons_of_mem _ hw))) (hat w hw)
  have hk' : (Cond.classLink own ik cls).before args s' = true := vx_ot_at hW0 hvm.symm (hgood _ List.mem_cons_self) hk
  have hini' : (Cond.initialized cls).before args s' = true := vx_ot_at hW0 hvm.symm (hgood _ (List.mem_cons_of_mem _ List.mem_cons_self)) hini
  have hU' : vx_Zq Bundle.tN "UNASSIGNED_STACK" Bundle.steD A s' s'.heap := by rw [hhp]; exact vx_Zq.moved hW0.alike (hU.kept hS.2.1)
  have hN' : vx_Zq Bundle.tN "SUPPRESSED_SENTINEL" Bundle.listD A s' s'.heap := by rw [hhp]; exact vx_Zq.moved hW0.alike (hN.kept hS.2.1)
  have h : ∀ w ∈ Bundle.ownAtoms own ic cls names, w.before args s' = true := vx_own hat' (vx_isRefq hU'.1) (vx_isRefq hN'.1) hU'.2.word hN'.2.word
  have hown' : s'.vm.findClass own = some m.cls := by rw [hvm]; exact hown
  have hins : (Cond.instantiable cls 6).before args s' = true := h _ (by simp [Bundle.ownAtoms])
  obtain ⟨vm₁, cX, kX, hfX, hkX, -, -, X₁, st1⟩ := Y.newCold hexec (own := own) (C := cls) (index := ik) (n := 6) hown' hk' hins hini'
    (g := F0 m pc ls rest) rfl (by rw [hb]; exact d0) (Nat.le_refl _) (Nat.le_refl _)
  generalize hT1 : (T.setVm vm₁).pushCell { cls := cX, slots := kX.instanceTypes.map defaultValue, vm := .none } = T1 at X₁ st1
  have hcat : (Value.ref T.heap.size).category = 1 := rfl
  have hcellA : T1.heap[T.heap.size]? = some (freshCell cX kX) := by rw [← hT1]; exact State.heap_pushCell_size _ _
  have d3' : decode c.code (pc + 3) = .ok (.dup, 1) := by rw [hb]; exact d3
  have d4' : decode c.code (pc + 4) = .ok (.ldc_w is, 3) := by rw [hb]; exact d4
  have hstr' : vk_R own is text sa s' := vk_R.warm hW0 hstr
  obtain ⟨U, hsteps, hrun, hend, hW, hsame, ce, hce, hO⟩ := X₁.ctorThrowS hexec htr (own := own) (cls := cls) (names := names) (ic := ic) hown' hcls hnames h (fun x hx => nomatch hx) hfX hkX hcellA (by rw [hhp, hT]; exact Nat.le_refl _) (msg := .ref sa) rfl
    (g := { method := m, pc := pc + 7, locals := ls, stack := .ref sa :: .ref T.heap.size :: .ref T.heap.size :: rest, locked := none }) rfl hsize rfl rfl (rest := rest) rfl
    (by rw [hb]; exact d7) (by rw [hb]; exact d10) hout hRframes (by simp only [List.map_cons, List.sum_cons, hcat]; omega) hlocks
  obtain ⟨f1, f2⟩ := vx_frame hsame
  rw [hhp] at f1 f2
  have hWs : s.WarmedH U.vm := State.WarmedH.trans hW0 hW
  have hcl : s.vm.findClass cls = some ce.cls := by
    have h9 := hO.cls
    rw [hvm] at h9
    exact h9
  have hall : s.sameButNew ({ U with vm := s.vm } : State) locs mc ms := by
    subst hA
    obtain ⟨e1, e2⟩ := hsame
    rw [State.setFrames_setFrames] at e1
    have h2 : (T.setVm s.vm).sameButNew ({ U with vm := s.vm } : State) [] (0 + 1) (0 + 6) := ⟨e1, e2⟩
    have h3 := X.same.trans h2
    rw [List.append_nil] at h3
    exact h3.mono hc hs
  refine ⟨U, ?_, .threw T.heap.size, hrun, hend, Or.inr ⟨T.heap.size, rfl, cls, ce, locs, hx U hWs.alike f1 (fun q hq => f2 q hq (fun z hz => nomatch hz)), hce, hO.vm, hcl, hWs, hall, hf⟩⟩
  refine st1 _ ?_
  show Steps p.tables e below (T1.setTop { method := m, pc := pc + 3, locals := ls, stack := .ref T.heap.size :: rest, locked := none }) _
  jvm_step X₁.here [X₁.here.top, hexec, d3', Value.category]
  exact X₁.ldcStringW hexec (own := own) (text := text) (index := is) (a := sa) hown' hstr'.1 hstr'.2
    (g := { method := m, pc := pc + 4, locals := ls, stack := .ref T.heap.size :: .ref T.heap.size :: rest, locked := none }) rfl d4' _ hsteps
end Ends
section Bodies
variable {l : Launch}
theorem vx_ofW {y : MethodName} {ws ws' : List Cond} {rm : Room} {Pc : Array Value → State → Prop} {Qc : Array Value → State → Outcome → State → Prop} {XC : String → State → State → Prop} {mc ms : Nat} {free : Addr → Prop} {cc : ByteArray} {maxL : Nat} {ret : Option FieldType}
    (hy : plainName y.cls = true) (hw : ws = Cond.code y cc maxL ret :: ws')
    (body : ∀ p e s m args below meth c s₁, BodyLoose p l y (headSpec ws rm) cc maxL ret e s m args below meth c s₁ → c.maxLocals = maxL → (∀ x ∈ c.exceptionTable.toList, False) → Pc args s →
      W p l e (headSpec ws rm).room s m args below meth c s.heap [] 0 0 (vx_MQ below Qc XC args s mc ms free) (entryFrame m args maxL)) : vx_Met l y ws rm Pc Qc XC mc ms free := by
  refine MetFree.of_bodyS (code := cc) (maxLocals := maxL) (ret := ret) hy ?_ ?_
  · intro args s m h hn
    obtain ⟨meth, c, h1, h2, h3, h4, h5, h6, -, -⟩ := Cond.code_spec hn (atoms_spec (ws := ws) h _ (by rw [hw]; exact List.mem_cons_self))
    exact ⟨meth, c, h1, h2, h3, h4, h5, h6⟩
  · intro p e s m args below meth c s₁ B hml hP _
    have hh0 : s₁.heap = s.heap := by rw [B.state]; rfl
    have ht : ∀ x ∈ c.exceptionTable.toList, False := by
      obtain ⟨meth9, c9, h1, h2, -, -, -, -, h7, -⟩ := Cond.code_spec B.named (atoms_spec (ws := ws) B.pre _ (by rw [hw]; exact List.mem_cons_self))
      cases Option.some.inj (h1.symm.trans B.method)
      cases Option.some.inj (h2.symm.trans (Stand.of_body B).code)
      intro x hx
      rw [Array.isEmpty_iff.mp h7] at hx
      cases hx
    obtain ⟨t, a1, o, b1, b2, b3⟩ := body p e s m args below meth c s₁ B hml ht hP s₁ hh0 (Stand.of_body B)
    exact ⟨t, o, a1, b1, b2, b3⟩
/-- the table of a body with handlers -/
theorem vx_table {p : Program} {x y : MethodName} {S : Spec} {cc bytes : ByteArray} {maxL maxL' : Nat} {ret ret' : Option FieldType} {e : Env} {s s₁ : State} {m : MethodId} {args : Array Value} {below : List Frame} {meth : Method} {c : Code} {hh : List (Nat × Nat × Nat × Nat)}
    (B : BodyLoose p l y S cc maxL ret e s m args below meth c s₁) (h : (Cond.codeWith y bytes maxL' ret' hh).before args s = true) : c.exceptionTable.toList = tableOf hh := by
  obtain ⟨m9, meth9, c9, hn9, h1, h2, -, -, h6, -⟩ := Cond.codeWith_spec h
  cases Option.some.inj (hn9.symm.trans B.named)
  cases Option.some.inj (h1.symm.trans B.method)
  cases Option.some.inj (h2.symm.trans (Stand.of_body B).code)
  rw [← h6, table_eq]
end Bodies
end VXA
/-! ===== END ===== -/
/-! ===== BEGIN a static call of a method with an exception table ===== -/
section VXS
variable {p : Program} {l : Launch} {e : Env} {R : Room} {s : State} {m : MethodId} {args : Array Value} {below : List Frame} {meth : Method} {c : Code} {T : State} {H : Heap} {locs : List Loc} {cells slots : Nat}
abbrev vx_CSW (R : Room) (s : State) (args : Array Value) (own : String) (index : Nat) (y : MethodName) (bytes : ByteArray) (maxL : Nat) (ret : Option FieldType) (hh : List (Nat × Nat × Nat × Nat)) (ws : List Cond) (rm : Room) (mc ms n : Nat) : Prop :=
  (rm.cells = mc ∧ rm.slots = ms ∧ rm.frames + 1 ≤ R.frames ∧ 8 + (maxL + 11) + rm.locals ≤ R.locals ∧ (∀ w ∈ ws, ∀ (a' : Array Value) (U : State), s.WarmedH U.vm → w.before a' U = true) ∧ Cond.codeWith y bytes maxL ret hh ∈ ws) ∧
  (Cond.codeWith y bytes maxL ret hh).before args s = true ∧ (Cond.initialized y.cls).before args s = true ∧ (y.cls ≠ "java/lang/invoke/MethodHandle" ∧ y.cls ≠ "java/lang/invoke/VarHandle") ∧
  (∀ sig, parseMethodDescriptor y.desc = some sig → n = sig.parameters.length) ∧ (Cond.methodLink own index y).before args s = true ∧ (Cond.static y).before args s = true
theorem vx_cwSW {own : String} {index maxL mc ms : Nat} {y : MethodName} {bytes : ByteArray} {ret : Option FieldType} {hh : List (Nat × Nat × Nat × Nat)} {Ts ws ws' : List Cond} {rm : Room} (n : Nat) (ht : ∀ w ∈ Ts, w.before args s = true) (hT : GoodIn Ts (va_wsS own index y ws)) (hw : ws = Cond.codeWith y bytes maxL ret hh :: ws') (hrc : rm.cells = mc) (hrs : rm.slots = ms)
    (hd : y.cls ≠ "java/lang/invoke/MethodHandle" ∧ y.cls ≠ "java/lang/invoke/VarHandle" ∧ (parseMethodDescriptor y.desc).map (fun d => d.parameters.length) = some n) (hR : rm.frames + 1 ≤ R.frames ∧ 8 + (maxL + 11) + rm.locals ≤ R.locals) :
    vx_CSW R s args own index y bytes maxL ret hh ws rm mc ms n := by
  have ok : ∀ w ∈ va_wsS own index y ws, w.before args s = true := fun w h => ht w (hT w h).1
  have hG : GoodIn Ts ws := fun w h => hT w (by unfold va_wsS; exact List.mem_append_right _ h)
  have hc : Cond.codeWith y bytes maxL ret hh ∈ ws := by rw [hw]; exact List.mem_cons_self
  refine ⟨⟨hrc, hrs, hR.1, hR.2, pay_in ht hG, hc⟩, ht _ (hG _ hc).1, ok _ (by simp [va_wsS]), ⟨hd.1, hd.2.1⟩, fun sig h => ?_, ok _ (by simp [va_wsS]), ok _ (by simp [va_wsS])⟩
  have h2 := hd.2.2
  rw [h] at h2
  exact (Option.some.inj h2).symm
theorem vx_callSW (X : Stand p l e R s m args below meth c T locs cells slots) (hexec : p.tables.exec = Jvm.exec) {own : String} {index : Nat} {y : MethodName} {bytes : ByteArray} {maxL : Nat} {ret : Option FieldType} {hh : List (Nat × Nat × Nat × Nat)}
    (hown : s.vm.findClass own = some m.cls) (hlink : (Cond.methodLink own index y).before args s = true) (hstat : (Cond.static y).before args s = true) (hinit : (Cond.initialized y.cls).before args s = true)
    (hcode : (Cond.codeWith y bytes maxL ret hh).before args s = true) (hy : y.cls ≠ "java/lang/invoke/MethodHandle" ∧ y.cls ≠ "java/lang/invoke/VarHandle")
    {W9 : Nat} {Pre : Pt → Array Value → Prop} {Post : Pt → Array Value → Option Value → Pt → Prop} (hK : Back l R p e below s args y 3 W9 Pre Post)
    {g : JFrame} (hg : g.method = m) (hsize : g.locals.size = c.maxLocals) {argsL rest : List Value} (hlen : ∀ sig, parseMethodDescriptor y.desc = some sig → argsL.length = sig.parameters.length)
    (hstack : g.stack = argsL.reverse ++ rest) (hW : 2 * g.monitorRoom + (rest.map fun v => v.category).sum ≤ W9) (hdg : decode c.code g.pc = .ok (.invokestatic index, 3))
    (hpre : ∀ vm₁, s.WarmedH vm₁ → Pre ⟨T.setVm vm₁, locs, cells, slots⟩ argsL.toArray) :
    ∃ (v : Option Value) (vm₁ : Vm) (B : Pt), s.WarmedH vm₁ ∧ Stand p l e R s m args below meth c B.U B.locs B.cells B.slots ∧ Post ⟨T.setVm vm₁, locs, cells, slots⟩ argsL.toArray v B ∧
      ∀ target, Steps p.tables e below (B.U.setTop { g with pc := g.pc + 3, stack := v.toList ++ rest }) target → Steps p.tables e below (T.setTop g) target := by
  obtain ⟨mk, methM, cM, hnamed, hmethM, -, -, -, -, -, -, hsigM⟩ := Cond.codeWith_spec hcode
  have hstatic : methM.isStatic = true := Cond.static_spec hnamed hmethM hstat
  obtain ⟨kP, hkP, -⟩ := className_of_methodNamed hnamed
  have hinitP : kP.init = .initialized := Cond.initialized_spec (findClass_of_methodNamed hnamed) hkP hinit
  obtain ⟨vm₁, X₁, hstep₁⟩ := X.invokestatic hexec hown hlink hnamed hmethM hstatic hkP hinitP hy (g := g) hg (argsL := argsL) (rest := rest) (hlen _ hsigM) hstack hdg
  obtain ⟨v, B, X', hpost, hsteps⟩ := hK m meth c ⟨T.setVm vm₁, locs, cells, slots⟩ { g with stack := rest } (.invokestatic index) mk argsL.toArray X₁ hg hsize hdg hW (X₁.named hnamed) (hpre vm₁ X₁.warmed)
  exact ⟨v, vm₁, B, X₁.warmed, X', hpost, fun target h => hstep₁ _ fun acts => by rw [doInvoke_state]; exact hsteps.trans h⟩
theorem vx_runSW {y : MethodName} {bytes cc : ByteArray} {maxL nL mc ms n index : Nat} {ret : Option FieldType} {hh : List (Nat × Nat × Nat × Nat)} {ws : List Cond} {rm : Room} {Pc : Array Value → State → Prop} {Qc : Array Value → State → Outcome → State → Prop} {free : Addr → Prop} {Ts : List Cond} {own : String} {As rest : List Value} {g : JFrame}
    (S : CallFix p m c cc nL s args Ts own) (hM : Met l y ws rm Pc Qc mc ms free) (cw : vx_CSW R s args own index y bytes maxL ret hh ws rm mc ms n) (hp : PreS s H Pc As)
    (hg : g.method = m) (hn : As.length = n) (hsize : g.locals.size = nL) (hstack : g.stack = As.reverse ++ rest) (hW : 2 * g.monitorRoom + (rest.map fun v => v.category).sum ≤ 8) (hdg : decode cc g.pc = .ok (.invokestatic index, 3)) (hf : cells + mc ≤ R.cells ∧ slots + ms ≤ R.slots) :
    va_Run p l e R s m args below meth c H locs cells slots mc ms g rest (Qc As.toArray) (free) := by
  obtain ⟨⟨hrc, hrs, hfr, hlo, hws, hcw⟩, hcode, hini, hy, hlen, hl, hstt⟩ := cw
  have hK : Back l R p e below s args y 3 8 (PreOf R mc ms Pc) (PostOf Qc mc ms free) := va_backW (hh := hh) (bytes := bytes) (maxL := maxL) (ret := ret) hM hp.1 hrc hrs hfr hlo hws hcw (fun a' U hW => word_at hW (Or.inl (by first | rfl | simp [Cond.onTables, Cond.keeps, Cond.steady])) hini)
  obtain ⟨hx, hb, hml, ho, -⟩ := S
  intro T hT X
  obtain ⟨v, vm₁, ⟨U', l2, c2, s2⟩, hW₁, X', ⟨g', mk, t, L, e1, e2, hq, h1, hL, h2, h3⟩, st⟩ := vx_callSW X hx (hh := hh) (bytes := bytes) (maxL := maxL) (ret := ret) ho hl hstt hini hcode hy hK hg (hsize.trans hml.symm) (argsL := As) (rest := rest) (fun sig h => hn.trans (hlen sig h)) hstack hW (by rw [hb]; exact hdg)
    (fun vm₁ hW₁ => ⟨hf.1, hf.2, hp.2 (T.setVm vm₁) hT hW₁⟩)
  dsimp only [Pt.U, Pt.locs, Pt.cells, Pt.slots] at X' e1 e2 h1 h2 h3 st
  subst h1; subst h2; subst h3
  exact ⟨v, (T.setVm vm₁).calling g' mk As.toArray, t, U', L, hT, X', hL, e1, e2, hq, st⟩
/-- not caught here, past rows that name other classes: it goes on to the caller -/
theorem vx_outP {p : Program} {l : Launch} {e : Env} {R : Room} {s : State} {m : MethodId} {args : Array Value} {below : List Frame} {meth : Method} {c : Code} {H : Heap} {locs : List Loc} {cells slots : Nat} {free : Addr → Prop} {ls : Array Slot} {rest : List Value} {Qc : Array Value → State → Outcome → State → Prop} {XC : String → State → State → Prop}
    {pc : Nat} {own E : String} {ce : Cell} {q : Addr} {mc ms : Nat} (hown : s.vm.findClass own = some m.cls) (hlocks : meth.locks = false)
    (hpass : ∀ z ∈ c.exceptionTable.toList, covers z pc = false ∨ (z.catchType ≠ 0 ∧ ∃ nm : String, (Cond.classLink own z.catchType nm).before args s = true ∧ va_Nc E nm s)) (hcell : H[q]? = some ce) (hv : ce.vm = .none) (hcl : s.vm.findClass E = some ce.cls)
    (hx : ∀ t : State, t.heap = H → s.vm.Alike t.vm → XC E s t) (hf : ∀ z ∈ locs, free z.base) (hc : cells ≤ mc) (hs : slots ≤ ms) :
    vx_W p l e R s m args below meth c H locs cells slots (vx_MQ below Qc XC args s mc ms free) (F0 m pc ls rest) q := by
  intro T hT X
  have hpl : e.platform.magicAccessors = ({} : Platform).magicAccessors := by rw [X.admits.platform]
  obtain ⟨vm', hW', X', st⟩ := X.outThrough hlocks q (g := F0 m pc ls rest) rfl rfl rfl (cell := ce) (by rw [hT]; exact hcell) (by rw [hv]; rfl)
    (by obtain ⟨k9, h9, -⟩ := Vm.findClass_spec hcl; exact ⟨k9, h9⟩) (fun z hz => by
      rcases hpass z hz with h | ⟨hz0, nm, hl1, hn1⟩
      · exact Or.inl h
      · obtain ⟨c6, hc6, hcl6⟩ := Cond.classLink_spec hown hl1 e.platform hpl
        obtain ⟨a8, b8, h1, h2, h3⟩ := hn1
        cases Option.some.inj (h1.symm.trans hcl)
        cases Option.some.inj (h2.symm.trans hc6)
        exact Or.inr ⟨hz0, _, hcl6, h3⟩)
  obtain ⟨g₀, hfr⟩ := X'.frames_eq
  have hcell9 : ((T.setVm vm').setFrames (.throwing q :: below)).heap[q]? = some ce := by
    show T.heap[q]? = some ce
    rw [hT]; exact hcell
  have hend : Ended ((T.setVm vm').setFrames (.throwing q :: below)) below (.threw q) := State.frames_setFrames _ (State.cur_lt_of_frames hfr)
  refine ⟨(T.setVm vm').setFrames (.throwing q :: below), ?_, .threw q, X'.here.running, hend, Or.inr ⟨q, rfl, E, ce, locs, hx _ hT (X'.ends _).1.alike, hcell9, hv, hcl, (X'.ends _).1, (X'.ends _).2.mono hc hs, hf⟩⟩
  rw [X.pushThrowing_eq]
  exact st
/-- a thing of a world lies in the heap -/
theorem vx_lt {D : va_G} {cl : List vw_C} {ws : va_W} {H1 : Heap} (h : va_P D cl ws H1) {k : Nat} {q : Nat × va_E} (hk : ws[k]? = some q) : q.1 < H1.size := (h k q hk).lt
end VXS
/-! ===== END ===== -/
/-! ===== BEGIN methods with a table of their own: called by a name, returning or throwing ===== -/
section VXH
/-! vx_backW, vx_callVX, vx_callSX, vx_callVW, vx_runVW, vx_runVX, vx_runSX, vx_ofWH follow the same proofs as their sisters above (Free/Laws.lean, Shelf42/LK1.lean); vx_outP calls Shelf42/NT130.lean (outThrough). -/
section
variable {l : Launch} {R : Room} {p : Program} {e : Env} {below : List Frame} {s : State} {sargs : Array Value} {y : MethodName} {len W9 : Nat}
theorem vx_backW {ws : List Cond} {rm : Room} {Pc : Array Value → State → Prop} {Qc : Array Value → State → Outcome → State → Prop} {XC : String → State → State → Prop} {mc ms : Nat} {free : Addr → Prop} {bytes : ByteArray} {maxL : Nat} {ret : Option FieldType} {hh : List (Nat × Nat × Nat × Nat)}
    (hM : vx_Met l y ws rm Pc Qc XC mc ms free) (hblind : FrameBlind Pc) (hrc : rm.cells = mc) (hrs : rm.slots = ms)
    (hframes : rm.frames + 1 ≤ R.frames) (hlocals : W9 + (maxL + 11) + rm.locals ≤ R.locals)
    (hws : ∀ w ∈ ws, ∀ a' U, s.WarmedH U.vm → w.before a' U = true) (hcode : Cond.codeWith y bytes maxL ret hh ∈ ws) (hinit : ∀ a' U, s.WarmedH U.vm → (Cond.initialized y.cls).before a' U = true) :
    vx_Back l R p e below s sargs y len W9 (PreOf R mc ms Pc) (PostOf Qc mc ms free) (vx_Post XC mc ms free) := by
  intro m meth c A g ig mk a X hg hsize hdg hW hn hp
  have h1 : (headSpec ws rm).pre.before a A.U = true := atoms_intro fun w hw => hws w hw _ _ X.warmed
  have h2 : (Cond.codeWith y bytes maxL ret hh).before a A.U = true := hws _ hcode _ _ X.warmed
  have h3 : (Cond.initialized y.cls).before a A.U = true := hinit _ _ X.warmed
  have h4 : A.cells + (headSpec ws rm).room.cells ≤ R.cells := by rw [show (headSpec ws rm).room.cells = mc from hrc]; exact hp.1
  have h5 : A.slots + (headSpec ws rm).room.slots ≤ R.slots := by rw [show (headSpec ws rm).room.slots = ms from hrs]; exact hp.2.1
  have hPc : Pc a (A.U.calling g mk a) := hblind _ _ _ _ hp.2.2
  obtain ⟨U, Ls, c0, s0⟩ := A
  dsimp only [Pt.U, Pt.locs, Pt.cells, Pt.slots] at h1 h2 h3 h4 h5 X hn hPc ⊢
  obtain ⟨m9, methY, cY, hn9, hmY, hcY, -, hlY, -⟩ := Cond.codeWith_spec h2
  cases Option.some.inj (hn9.symm.trans hn)
  obtain ⟨kY, hkY, -⟩ := className_of_methodNamed hn
  have hinitY : kY.init = .initialized := Cond.initialized_spec (findClass_of_methodNamed hn) hkY h3
  have h : At U g.method c below := by rw [hg]; exact X.here
  have hlocals9 : W9 + (maxL + 11) + (headSpec ws rm).room.locals ≤ R.locals := hlocals
  have happ : (headSpec ws rm).appliesLoose y e.platform (U.calling g mk a) = true :=
    Spec.appliesLoose_calling (g := g) h hdg hn hkY hinitY
      (X.room_calling (g := g) (R' := (headSpec ws rm).room) hsize hmY hcY hframes (by rw [hlY]; omega) h4 h5) h1
  obtain ⟨mid, hmid⟩ := h.above
  have hfr : (U.setTop g).frames = (.java g :: mid) ++ below := by rw [State.frames_setTop' g h.top, hmid]; rfl
  obtain ⟨o, s₂, hsteps, -, hend, hq⟩ := Steps.callFree hM p X.admits X.cas X.clock (acts := []) hfr happ hPc trivial
  have hq' : vx_Q Qc XC mc ms free a (U.calling g mk a) o s₂ := hq
  rw [State.frames_setTop' g h.top] at hend
  obtain ⟨g₀, hg0⟩ := Option.isSome_iff_exists.mp h.top
  obtain ⟨r, hr⟩ := State.topJava?_eq_some.mp hg0
  have hr' : (({ U with heap := s₂.heap, slotsUsed := s₂.slotsUsed } : State).setVm s₂.vm).frames = .java g₀ :: r := hr
  rcases hq' with ⟨hqc, L, hfe, hL⟩ | ⟨q, rfl, E, ce, L, hx, hce, hcv, hcl, hW₂, hsm, hL⟩
  · obtain ⟨⟨v, rfl⟩, hW₂, e2, q2, q3, q4, q5, q6⟩ := id hfe
    have e3 : s₂ = ({ (U.calling g mk a).setFrames s₂.frames with heap := s₂.heap, slotsUsed := s₂.slotsUsed } : State).setVm s₂.vm := by
      have : s₂ = ({ s₂ with vm := (U.calling g mk a).vm } : State).setVm s₂.vm := rfl
      rw [e2] at this
      exact this
    obtain ⟨c₂, i₂, len₂, hc₂, hd₂, hf₂⟩ := hend
    have hW' : U.WarmedH s₂.vm := hW₂
    have hcc : c₂ = c := by
      have h1 : s₂.code? g.method = U.code? g.method := by
        rw [State.code?_eq, State.code?_eq, hW'.alike.method?]
      exact Option.some.inj (hc₂.symm.trans (h1.trans h.code))
    subst hcc
    have hlen : len₂ = len := by rw [hdg] at hd₂; cases hd₂; rfl
    subst hlen
    have hs₂ : s₂ = (({ U with heap := s₂.heap, slotsUsed := s₂.slotsUsed } : State).setVm s₂.vm).setTop { g with pc := g.pc + len₂, stack := v.toList ++ g.stack } := by
      refine e3.trans ?_
      rw [hf₂, State.calling_eq h.top, State.setFrames_setFrames, State.setTop_of_frames _ hr', hr]
      rfl
    have hsame : U.sameButNew ({ U with heap := s₂.heap, slotsUsed := s₂.slotsUsed } : State) L mc ms := by
      refine ⟨?_, q2, q3, q4, q5, q6⟩
      obtain ⟨t, ht, -⟩ := State.frames_cons hr
      show ({ U with heap := s₂.heap, slotsUsed := s₂.slotsUsed } : State) = { U.setFrames U.frames with heap := s₂.heap, slotsUsed := s₂.slotsUsed }
      rw [State.setFrames_self ht]
    subst hg
    refine Or.inl ⟨v, ⟨(({ U with heap := s₂.heap, slotsUsed := s₂.slotsUsed } : State).setVm s₂.vm), Ls ++ L, c0 + mc, s0 + ms⟩,
      ⟨X.admits, X.cas, X.clock, X.frames, X.room, X.hears, X.method, X.code, (X.here.setHeapUsed s₂.heap s₂.slotsUsed).setVm hW'.alike, X.tail, State.WarmedH.trans X.warmed hW', X.limits, X.bytes, X.same.trans (hsame.setVm s.vm)⟩,
      ⟨g, mk, s₂, L, rfl, rfl, hqc, rfl, hL, rfl, rfl⟩, ?_⟩
    show Steps p.tables e below _ ((({ U with heap := s₂.heap, slotsUsed := s₂.slotsUsed } : State).setVm s₂.vm).setTop { g with pc := g.pc + len₂, stack := v.toList ++ g.stack })
    rw [← hs₂]
    exact hsteps
  · obtain ⟨e2, q2, q3, q4, q5, q6⟩ := id hsm
    have e3 : s₂ = ({ (U.calling g mk a).setFrames s₂.frames with heap := s₂.heap, slotsUsed := s₂.slotsUsed } : State).setVm s₂.vm := by
      have : s₂ = ({ s₂ with vm := (U.calling g mk a).vm } : State).setVm s₂.vm := rfl
      rw [e2] at this
      exact this
    have hf₂ : s₂.frames = .throwing q :: .java g :: U.frames.tail := hend
    have hW' : U.WarmedH s₂.vm := hW₂
    have hs₂ : s₂ = ((({ U with heap := s₂.heap, slotsUsed := s₂.slotsUsed } : State).setVm s₂.vm).setTop g).pushFrame (.throwing q) := by
      refine e3.trans ?_
      rw [hf₂, State.calling_eq h.top, State.setFrames_setFrames, State.pushFrame, State.frames_setTop _ hr', State.setTop_of_frames _ hr', State.setFrames_setFrames, hr]
      rfl
    have hsame : U.sameButNew ({ U with heap := s₂.heap, slotsUsed := s₂.slotsUsed } : State) L mc ms := by
      refine ⟨?_, q2, q3, q4, q5, q6⟩
      obtain ⟨t, ht, -⟩ := State.frames_cons hr
      show ({ U with heap := s₂.heap, slotsUsed := s₂.slotsUsed } : State) = { U.setFrames U.frames with heap := s₂.heap, slotsUsed := s₂.slotsUsed }
      rw [State.setFrames_self ht]
    subst hg
    refine Or.inr ⟨q, ⟨(({ U with heap := s₂.heap, slotsUsed := s₂.slotsUsed } : State).setVm s₂.vm), Ls ++ L, c0 + mc, s0 + ms⟩,
      ⟨X.admits, X.cas, X.clock, X.frames, X.room, X.hears, X.method, X.code, (X.here.setHeapUsed s₂.heap s₂.slotsUsed).setVm hW'.alike, X.tail, State.WarmedH.trans X.warmed hW', X.limits, X.bytes, X.same.trans (hsame.setVm s.vm)⟩,
      ⟨g, mk, s₂, L, E, ce, rfl, rfl, hx, hce, hcv, hcl, rfl, hL, rfl, rfl⟩, ?_⟩
    show Steps p.tables e below _ (((({ U with heap := s₂.heap, slotsUsed := s₂.slotsUsed } : State).setVm s₂.vm).setTop g).pushFrame (.throwing q))
    rw [← hs₂]
    exact hsteps
end
variable {p : Program} {l : Launch} {e : Env} {R : Room} {s : State} {m : MethodId} {args : Array Value} {below : List Frame} {meth : Method} {c : Code} {T : State} {H : Heap} {locs : List Loc} {cells slots : Nat}
theorem vx_callVX (X : Stand p l e R s m args below meth c T locs cells slots) (hexec : p.tables.exec = Jvm.exec) {own C : String} {index : Nat} {y : MethodName} {bytes : ByteArray} {maxL : Nat} {ret : Option FieldType} {hh : List (Nat × Nat × Nat × Nat)}
    (hown : s.vm.findClass own = some m.cls) (hlink : (Cond.methodLink own index y).before args s = true) (hinst : (Cond.instanceMethod y).before args s = true) (hsel : (Cond.selects C y y).before args s = true)
    (hcode : (Cond.codeWith y bytes maxL ret hh).before args s = true) (hy : y.cls ≠ "java/lang/invoke/MethodHandle" ∧ y.cls ≠ "java/lang/invoke/VarHandle")
    {W9 : Nat} {Pre : Pt → Array Value → Prop} {Post : Pt → Array Value → Option Value → Pt → Prop} {PostX : Pt → Array Value → Addr → Pt → Prop} (hK : vx_Back l R p e below s args y 3 W9 Pre Post PostX)
    {b : Addr} {cellB : Cell} (hcell : T.heap[b]? = some cellB) (hobj : cellB.vm.isStatics = false) (hcls : s.vm.findClass C = some cellB.cls)
    {g : JFrame} (hg : g.method = m) (hsize : g.locals.size = c.maxLocals) {argsL rest : List Value} (hlen : ∀ sig, parseMethodDescriptor y.desc = some sig → argsL.length = sig.parameters.length)
    (hstack : g.stack = argsL.reverse ++ .ref b :: rest) (hW : 2 * g.monitorRoom + (rest.map fun v => v.category).sum ≤ W9) (hdg : decode c.code g.pc = .ok (.invokevirtual index, 3))
    (hpre : ∀ vm₁, s.WarmedH vm₁ → Pre ⟨T.setVm vm₁, locs, cells, slots⟩ (Value.ref b :: argsL).toArray) :
    (∃ (v : Option Value) (vm₁ : Vm) (B : Pt), s.WarmedH vm₁ ∧ Stand p l e R s m args below meth c B.U B.locs B.cells B.slots ∧ Post ⟨T.setVm vm₁, locs, cells, slots⟩ (Value.ref b :: argsL).toArray v B ∧
      ∀ target, Steps p.tables e below (B.U.setTop { g with pc := g.pc + 3, stack := v.toList ++ rest }) target → Steps p.tables e below (T.setTop g) target) ∨
    (∃ (q : Addr) (vm₁ : Vm) (B : Pt), s.WarmedH vm₁ ∧ Stand p l e R s m args below meth c B.U B.locs B.cells B.slots ∧ PostX ⟨T.setVm vm₁, locs, cells, slots⟩ (Value.ref b :: argsL).toArray q B ∧
      Steps p.tables e below (T.setTop g) ((B.U.setTop { g with stack := rest }).pushFrame (.throwing q))) := by
  obtain ⟨mk, methM, hnamed, hmethM, hstM, habM⟩ := Cond.instanceMethod_spec hinst
  obtain ⟨m8, methM', cM, hn8, hmethM', -, -, -, -, -, -, hsigM⟩ := Cond.codeWith_spec hcode
  cases Option.some.inj (hn8.symm.trans hnamed)
  cases hmethM.symm.trans hmethM'
  obtain ⟨c2, r2, m2, q1, q2, q3, q4, kP, hkP, hkPi⟩ := Cond.selects_spec hsel
  cases hcls.symm.trans q1
  cases (State.methodFound?_of_named hnamed hy).symm.trans q2
  cases hnamed.symm.trans q3
  have hselP : selectMethod e.platform s.vm cellB.cls mk = .method mk := by rw [Launch.admits_selectMethod X.admits]; exact q4
  obtain ⟨vm₁, X₁, hstep₁⟩ := X.invokevirtual hexec hown hlink hnamed hmethM hstM hkP hkPi hy (a := b) (cell := cellB) hcell
    (fun z h => by rw [h] at hobj; cases hobj) hselP hmethM habM hkP hkPi (g := g) hg (argsL := argsL) (rest := rest) (hlen _ hsigM) hstack hdg
  rcases hK m meth c ⟨T.setVm vm₁, locs, cells, slots⟩ { g with stack := rest } (.invokevirtual index) mk (Value.ref b :: argsL).toArray X₁ hg hsize hdg hW (X₁.named hnamed) (hpre vm₁ X₁.warmed) with ⟨v, B, X', hpost, hsteps⟩ | ⟨q, B, X', hpost, hsteps⟩
  · exact Or.inl ⟨v, vm₁, B, X₁.warmed, X', hpost, fun target h => hstep₁ _ fun acts => by rw [doInvoke_state]; exact hsteps.trans h⟩
  · exact Or.inr ⟨q, vm₁, B, X₁.warmed, X', hpost, hstep₁ _ fun acts => by rw [doInvoke_state]; exact hsteps⟩
theorem vx_callSX (X : Stand p l e R s m args below meth c T locs cells slots) (hexec : p.tables.exec = Jvm.exec) {own : String} {index : Nat} {y : MethodName} {bytes : ByteArray} {maxL : Nat} {ret : Option FieldType} {hh : List (Nat × Nat × Nat × Nat)}
    (hown : s.vm.findClass own = some m.cls) (hlink : (Cond.methodLink own index y).before args s = true) (hstat : (Cond.static y).before args s = true) (hinit : (Cond.initialized y.cls).before args s = true)
    (hcode : (Cond.codeWith y bytes maxL ret hh).before args s = true) (hy : y.cls ≠ "java/lang/invoke/MethodHandle" ∧ y.cls ≠ "java/lang/invoke/VarHandle")
    {W9 : Nat} {Pre : Pt → Array Value → Prop} {Post : Pt → Array Value → Option Value → Pt → Prop} {PostX : Pt → Array Value → Addr → Pt → Prop} (hK : vx_Back l R p e below s args y 3 W9 Pre Post PostX)
    {g : JFrame} (hg : g.method = m) (hsize : g.locals.size = c.maxLocals) {argsL rest : List Value} (hlen : ∀ sig, parseMethodDescriptor y.desc = some sig → argsL.length = sig.parameters.length)
    (hstack : g.stack = argsL.reverse ++ rest) (hW : 2 * g.monitorRoom + (rest.map fun v => v.category).sum ≤ W9) (hdg : decode c.code g.pc = .ok (.invokestatic index, 3))
    (hpre : ∀ vm₁, s.WarmedH vm₁ → Pre ⟨T.setVm vm₁, locs, cells, slots⟩ argsL.toArray) :
    (∃ (v : Option Value) (vm₁ : Vm) (B : Pt), s.WarmedH vm₁ ∧ Stand p l e R s m args below meth c B.U B.locs B.cells B.slots ∧ Post ⟨T.setVm vm₁, locs, cells, slots⟩ argsL.toArray v B ∧
      ∀ target, Steps p.tables e below (B.U.setTop { g with pc := g.pc + 3, stack := v.toList ++ rest }) target → Steps p.tables e below (T.setTop g) target) ∨
    (∃ (q : Addr) (vm₁ : Vm) (B : Pt), s.WarmedH vm₁ ∧ Stand p l e R s m args below meth c B.U B.locs B.cells B.slots ∧ PostX ⟨T.setVm vm₁, locs, cells, slots⟩ argsL.toArray q B ∧
      Steps p.tables e below (T.setTop g) ((B.U.setTop { g with stack := rest }).pushFrame (.throwing q))) := by
  obtain ⟨mk, methM, cM, hnamed, hmethM, -, -, -, -, -, -, hsigM⟩ := Cond.codeWith_spec hcode
  have hstatic : methM.isStatic = true := Cond.static_spec hnamed hmethM hstat
  obtain ⟨kP, hkP, -⟩ := className_of_methodNamed hnamed
  have hinitP : kP.init = .initialized := Cond.initialized_spec (findClass_of_methodNamed hnamed) hkP hinit
  obtain ⟨vm₁, X₁, hstep₁⟩ := X.invokestatic hexec hown hlink hnamed hmethM hstatic hkP hinitP hy (g := g) hg (argsL := argsL) (rest := rest) (hlen _ hsigM) hstack hdg
  rcases hK m meth c ⟨T.setVm vm₁, locs, cells, slots⟩ { g with stack := rest } (.invokestatic index) mk argsL.toArray X₁ hg hsize hdg hW (X₁.named hnamed) (hpre vm₁ X₁.warmed) with ⟨v, B, X', hpost, hsteps⟩ | ⟨q, B, X', hpost, hsteps⟩
  · exact Or.inl ⟨v, vm₁, B, X₁.warmed, X', hpost, fun target h => hstep₁ _ fun acts => by rw [doInvoke_state]; exact hsteps.trans h⟩
  · exact Or.inr ⟨q, vm₁, B, X₁.warmed, X', hpost, hstep₁ _ fun acts => by rw [doInvoke_state]; exact hsteps⟩
theorem vx_callVW (X : Stand p l e R s m args below meth c T locs cells slots) (hexec : p.tables.exec = Jvm.exec) {own C : String} {index : Nat} {y : MethodName} {bytes : ByteArray} {maxL : Nat} {ret : Option FieldType} {hh : List (Nat × Nat × Nat × Nat)}
    (hown : s.vm.findClass own = some m.cls) (hlink : (Cond.methodLink own index y).before args s = true) (hinst : (Cond.instanceMethod y).before args s = true) (hsel : (Cond.selects C y y).before args s = true)
    (hcode : (Cond.codeWith y bytes maxL ret hh).before args s = true) (hy : y.cls ≠ "java/lang/invoke/MethodHandle" ∧ y.cls ≠ "java/lang/invoke/VarHandle")
    {W9 : Nat} {Pre : Pt → Array Value → Prop} {Post : Pt → Array Value → Option Value → Pt → Prop} (hK : Back l R p e below s args y 3 W9 Pre Post)
    {b : Addr} {cellB : Cell} (hcell : T.heap[b]? = some cellB) (hobj : cellB.vm.isStatics = false) (hcls : s.vm.findClass C = some cellB.cls)
    {g : JFrame} (hg : g.method = m) (hsize : g.locals.size = c.maxLocals) {argsL rest : List Value} (hlen : ∀ sig, parseMethodDescriptor y.desc = some sig → argsL.length = sig.parameters.length)
    (hstack : g.stack = argsL.reverse ++ .ref b :: rest) (hW : 2 * g.monitorRoom + (rest.map fun v => v.category).sum ≤ W9) (hdg : decode c.code g.pc = .ok (.invokevirtual index, 3))
    (hpre : ∀ vm₁, s.WarmedH vm₁ → Pre ⟨T.setVm vm₁, locs, cells, slots⟩ (Value.ref b :: argsL).toArray) :
    ∃ (v : Option Value) (vm₁ : Vm) (B : Pt), s.WarmedH vm₁ ∧ Stand p l e R s m args below meth c B.U B.locs B.cells B.slots ∧ Post ⟨T.setVm vm₁, locs, cells, slots⟩ (Value.ref b :: argsL).toArray v B ∧
      ∀ target, Steps p.tables e below (B.U.setTop { g with pc := g.pc + 3, stack := v.toList ++ rest }) target → Steps p.tables e below (T.setTop g) target := by
  obtain ⟨mk, methM, hnamed, hmethM, hstM, habM⟩ := Cond.instanceMethod_spec hinst
  obtain ⟨m8, methM', cM, hn8, hmethM', -, -, -, -, -, -, hsigM⟩ := Cond.codeWith_spec hcode
  cases Option.some.inj (hn8.symm.trans hnamed)
  cases hmethM.symm.trans hmethM'
  obtain ⟨c2, r2, m2, q1, q2, q3, q4, kP, hkP, hkPi⟩ := Cond.selects_spec hsel
  cases hcls.symm.trans q1
  cases (State.methodFound?_of_named hnamed hy).symm.trans q2
  cases hnamed.symm.trans q3
  have hselP : selectMethod e.platform s.vm cellB.cls mk = .method mk := by rw [Launch.admits_selectMethod X.admits]; exact q4
  obtain ⟨vm₁, X₁, hstep₁⟩ := X.invokevirtual hexec hown hlink hnamed hmethM hstM hkP hkPi hy (a := b) (cell := cellB) hcell
    (fun z h => by rw [h] at hobj; cases hobj) hselP hmethM habM hkP hkPi (g := g) hg (argsL := argsL) (rest := rest) (hlen _ hsigM) hstack hdg
  obtain ⟨v, B, X', hpost, hsteps⟩ := hK m meth c ⟨T.setVm vm₁, locs, cells, slots⟩ { g with stack := rest } (.invokevirtual index) mk (Value.ref b :: argsL).toArray X₁ hg hsize hdg hW (X₁.named hnamed) (hpre vm₁ X₁.warmed)
  exact ⟨v, vm₁, B, X₁.warmed, X', hpost, fun target h => hstep₁ _ fun acts => by rw [doInvoke_state]; exact hsteps.trans h⟩
abbrev vx_CVW (R : Room) (s : State) (args : Array Value) (own C : String) (index : Nat) (y : MethodName) (bytes : ByteArray) (maxL : Nat) (ret : Option FieldType) (hh : List (Nat × Nat × Nat × Nat)) (ws : List Cond) (rm : Room) (mc ms n : Nat) : Prop :=
  (rm.cells = mc ∧ rm.slots = ms ∧ rm.frames + 1 ≤ R.frames ∧ 8 + (maxL + 11) + rm.locals ≤ R.locals ∧ (∀ w ∈ ws, ∀ (a' : Array Value) (U : State), s.WarmedH U.vm → w.before a' U = true) ∧ Cond.codeWith y bytes maxL ret hh ∈ ws) ∧
  (Cond.codeWith y bytes maxL ret hh).before args s = true ∧ (Cond.initialized y.cls).before args s = true ∧ (y.cls ≠ "java/lang/invoke/MethodHandle" ∧ y.cls ≠ "java/lang/invoke/VarHandle") ∧
  (∀ sig, parseMethodDescriptor y.desc = some sig → n = sig.parameters.length) ∧ (Cond.methodLink own index y).before args s = true ∧ (Cond.instanceMethod y).before args s = true ∧ (Cond.selects C y y).before args s = true
theorem vx_cwVW {own C : String} {index maxL mc ms : Nat} {y : MethodName} {bytes : ByteArray} {ret : Option FieldType} {hh : List (Nat × Nat × Nat × Nat)} {Ts ws ws' : List Cond} {rm : Room} (n : Nat) (ht : ∀ w ∈ Ts, w.before args s = true) (hT : GoodIn Ts (wsV own index C y ws)) (hw : ws = Cond.codeWith y bytes maxL ret hh :: ws') (hrc : rm.cells = mc) (hrs : rm.slots = ms)
    (hd : y.cls = C ∧ y.cls ≠ "java/lang/invoke/MethodHandle" ∧ y.cls ≠ "java/lang/invoke/VarHandle" ∧ (parseMethodDescriptor y.desc).map (fun d => d.parameters.length) = some n) (hR : rm.frames + 1 ≤ R.frames ∧ 8 + (maxL + 11) + rm.locals ≤ R.locals) :
    vx_CVW R s args own C index y bytes maxL ret hh ws rm mc ms n := by
  obtain ⟨hC, hd⟩ := hd
  subst hC
  have ok : ∀ w ∈ wsV own index y.cls y ws, w.before args s = true := fun w h => ht w (hT w h).1
  have hG : GoodIn Ts ws := fun w h => hT w (by unfold wsV; exact List.mem_append_right _ h)
  have hc : Cond.codeWith y bytes maxL ret hh ∈ ws := by rw [hw]; exact List.mem_cons_self
  refine ⟨⟨hrc, hrs, hR.1, hR.2, pay_in ht hG, hc⟩, ht _ (hG _ hc).1, ok _ (by simp [wsV]), ⟨hd.1, hd.2.1⟩, fun sig h => ?_, ok _ (by simp [wsV]), ok _ (by simp [wsV]), ok _ (by simp [wsV])⟩
  have h2 := hd.2.2
  rw [h] at h2
  exact (Option.some.inj h2).symm
theorem vx_runVW {y : MethodName} {bytes cc : ByteArray} {maxL nL mc ms n index : Nat} {ret : Option FieldType} {hh : List (Nat × Nat × Nat × Nat)} {ws : List Cond} {rm : Room} {Pc : Array Value → State → Prop} {Qc : Array Value → State → Outcome → State → Prop} {free : Addr → Prop} {Ts : List Cond} {own C : String} {b : Addr} {As rest : List Value} {g : JFrame}
    (S : CallFix p m c cc nL s args Ts own) (hM : Met l y ws rm Pc Qc mc ms free) (cw : vx_CVW R s args own C index y bytes maxL ret hh ws rm mc ms n) (hp : PreV s H C b Pc As)
    (hg : g.method = m) (hn : As.length = n) (hsize : g.locals.size = nL) (hstack : g.stack = As.reverse ++ .ref b :: rest) (hW : 2 * g.monitorRoom + (rest.map fun v => v.category).sum ≤ 8) (hdg : decode cc g.pc = .ok (.invokevirtual index, 3)) (hf : cells + mc ≤ R.cells ∧ slots + ms ≤ R.slots) :
    va_Run p l e R s m args below meth c H locs cells slots mc ms g rest (Qc (Value.ref b :: As).toArray) free := by
  obtain ⟨⟨hrc, hrs, hfr, hlo, hws, hcw⟩, hcode, hini, hy, hlen, hl, hin, hse⟩ := cw
  have hK : Back l R p e below s args y 3 8 (PreOf R mc ms Pc) (PostOf Qc mc ms free) := va_backW (hh := hh) (bytes := bytes) (maxL := maxL) (ret := ret) hM hp.1 hrc hrs hfr hlo hws hcw (fun a' U hW => word_at hW (Or.inl (by first | rfl | simp [Cond.onTables, Cond.keeps, Cond.steady])) hini)
  obtain ⟨hx, hb, hml, ho, -⟩ := S
  obtain ⟨-, ⟨cellB, hcB, hoB, hclB⟩, hPc⟩ := hp
  intro T hT X
  obtain ⟨v, vm₁, ⟨U', l2, c2, s2⟩, hW₁, X', ⟨g', mk, t, L, e1, e2, hq, h1, hL, h2, h3⟩, st⟩ := vx_callVW X hx (C := C) (hh := hh) (bytes := bytes) (maxL := maxL) (ret := ret) ho hl hin hse hcode hy hK (by rw [hT]; exact hcB) hoB hclB hg (hsize.trans hml.symm) (argsL := As) (rest := rest) (fun sig h => hn.trans (hlen sig h)) hstack hW (by rw [hb]; exact hdg)
    (fun vm₁ hW₁ => ⟨hf.1, hf.2, hPc (T.setVm vm₁) hT hW₁⟩)
  dsimp only [Pt.U, Pt.locs, Pt.cells, Pt.slots] at X' e1 e2 h1 h2 h3 st
  subst h1; subst h2; subst h3
  exact ⟨v, (T.setVm vm₁).calling g' mk (Value.ref b :: As).toArray, t, U', L, hT, X', hL, e1, e2, hq, st⟩
section
variable {y : MethodName} {bytes cc : ByteArray} {maxL nL mc ms n index : Nat} {ret : Option FieldType} {ws : List Cond} {rm : Room} {Pc : Array Value → State → Prop} {Qc : Array Value → State → Outcome → State → Prop} {XC : String → State → State → Prop} {free : Addr → Prop} {Ts : List Cond} {own C : String} {b : Addr} {As rest : List Value} {g : JFrame}
theorem vx_runVX {hh : List (Nat × Nat × Nat × Nat)} (S : CallFix p m c cc nL s args Ts own) (hM : vx_Met l y ws rm Pc Qc XC mc ms free) (cw : vx_CVW R s args own C index y bytes maxL ret hh ws rm mc ms n) (hp : PreV s H C b Pc As)
    (hg : g.method = m) (hn : As.length = n) (hsize : g.locals.size = nL) (hstack : g.stack = As.reverse ++ .ref b :: rest) (hW : 2 * g.monitorRoom + (rest.map fun v => v.category).sum ≤ 8) (hdg : decode cc g.pc = .ok (.invokevirtual index, 3)) (hf : cells + mc ≤ R.cells ∧ slots + ms ≤ R.slots) :
    vx_Run p l e R s m args below meth c H locs cells slots mc ms g rest (Qc (Value.ref b :: As).toArray) XC free := by
  obtain ⟨⟨hrc, hrs, hfr, hlo, hws, hcw⟩, hcode, hini, hy, hlen, hl, hin, hse⟩ := cw
  have hK : vx_Back l R p e below s args y 3 8 (PreOf R mc ms Pc) (PostOf Qc mc ms free) (vx_Post XC mc ms free) := vx_backW (hh := hh) (bytes := bytes) (maxL := maxL) (ret := ret) hM hp.1 hrc hrs hfr hlo hws hcw (fun a' U hW => word_at hW (Or.inl (by first | rfl | simp [Cond.onTables, Cond.keeps, Cond.steady])) hini)
  obtain ⟨hx, hb, hml, ho, -⟩ := S
  obtain ⟨-, ⟨cellB, hcB, hoB, hclB⟩, hPc⟩ := hp
  intro T hT X
  rcases vx_callVX X hx (C := C) (hh := hh) (bytes := bytes) (maxL := maxL) (ret := ret) ho hl hin hse hcode hy hK (by rw [hT]; exact hcB) hoB hclB hg (hsize.trans hml.symm) (argsL := As) (rest := rest) (fun sig h => hn.trans (hlen sig h)) hstack hW (by rw [hb]; exact hdg)
    (fun vm₁ hW₁ => ⟨hf.1, hf.2, hPc (T.setVm vm₁) hT hW₁⟩) with ⟨v, vm₁, ⟨U', l2, c2, s2⟩, hW₁, X', ⟨g', mk, t, L, e1, e2, hq, h1, hL, h2, h3⟩, st⟩ | ⟨q, vm₁, ⟨U', l2, c2, s2⟩, hW₁, X', ⟨g', mk, t, L, E, ce, e1, e2, hq, hce, hcv, hcl, h1, hL, h2, h3⟩, st⟩
  · dsimp only [Pt.U, Pt.locs, Pt.cells, Pt.slots] at X' e1 e2 h1 h2 h3 st
    subst h1; subst h2; subst h3
    exact Or.inl ⟨v, (T.setVm vm₁).calling g' mk (Value.ref b :: As).toArray, t, U', L, hT, X', hL, e1, e2, hq, st⟩
  · dsimp only [Pt.U, Pt.locs, Pt.cells, Pt.slots] at X' e1 e2 h1 h2 h3 st hcl
    subst h1; subst h2; subst h3
    exact Or.inr ⟨q, (T.setVm vm₁).calling g' mk (Value.ref b :: As).toArray, t, U', L, E, ce, hT, X', hL, e1, e2, hq, hce, hcv, vx_cls hW₁ hcl, st⟩
theorem vx_runSX {hh : List (Nat × Nat × Nat × Nat)} (S : CallFix p m c cc nL s args Ts own) (hM : vx_Met l y ws rm Pc Qc XC mc ms free) (cw : vx_CSW R s args own index y bytes maxL ret hh ws rm mc ms n) (hp : PreS s H Pc As)
    (hg : g.method = m) (hn : As.length = n) (hsize : g.locals.size = nL) (hstack : g.stack = As.reverse ++ rest) (hW : 2 * g.monitorRoom + (rest.map fun v => v.category).sum ≤ 8) (hdg : decode cc g.pc = .ok (.invokestatic index, 3)) (hf : cells + mc ≤ R.cells ∧ slots + ms ≤ R.slots) :
    vx_Run p l e R s m args below meth c H locs cells slots mc ms g rest (Qc As.toArray) XC free := by
  obtain ⟨⟨hrc, hrs, hfr, hlo, hws, hcw⟩, hcode, hini, hy, hlen, hl, hstt⟩ := cw
  have hK : vx_Back l R p e below s args y 3 8 (PreOf R mc ms Pc) (PostOf Qc mc ms free) (vx_Post XC mc ms free) := vx_backW (hh := hh) (bytes := bytes) (maxL := maxL) (ret := ret) hM hp.1 hrc hrs hfr hlo hws hcw (fun a' U hW => word_at hW (Or.inl (by first | rfl | simp [Cond.onTables, Cond.keeps, Cond.steady])) hini)
  obtain ⟨hx, hb, hml, ho, -⟩ := S
  intro T hT X
  rcases vx_callSX X hx (hh := hh) (bytes := bytes) (maxL := maxL) (ret := ret) ho hl hstt hini hcode hy hK hg (hsize.trans hml.symm) (argsL := As) (rest := rest) (fun sig h => hn.trans (hlen sig h)) hstack hW (by rw [hb]; exact hdg)
    (fun vm₁ hW₁ => ⟨hf.1, hf.2, hp.2 (T.setVm vm₁) hT hW₁⟩) with ⟨v, vm₁, ⟨U', l2, c2, s2⟩, hW₁, X', ⟨g', mk, t, L, e1, e2, hq, h1, hL, h2, h3⟩, st⟩ | ⟨q, vm₁, ⟨U', l2, c2, s2⟩, hW₁, X', ⟨g', mk, t, L, E, ce, e1, e2, hq, hce, hcv, hcl, h1, hL, h2, h3⟩, st⟩
  · dsimp only [Pt.U, Pt.locs, Pt.cells, Pt.slots] at X' e1 e2 h1 h2 h3 st
    subst h1; subst h2; subst h3
    exact Or.inl ⟨v, (T.setVm vm₁).calling g' mk As.toArray, t, U', L, hT, X', hL, e1, e2, hq, st⟩
  · dsimp only [Pt.U, Pt.locs, Pt.cells, Pt.slots] at X' e1 e2 h1 h2 h3 st hcl
    subst h1; subst h2; subst h3
    exact Or.inr ⟨q, (T.setVm vm₁).calling g' mk As.toArray, t, U', L, E, ce, hT, X', hL, e1, e2, hq, hce, hcv, vx_cls hW₁ hcl, st⟩
end
end VXH
theorem vx_ofWH {l : Launch} {y : MethodName} {ws ws' : List Cond} {rm : Room} {Pc : Array Value → State → Prop} {Qc : Array Value → State → Outcome → State → Prop} {XC : String → State → State → Prop} {mc ms : Nat} {free : Addr → Prop} {cc : ByteArray} {maxL : Nat} {ret : Option FieldType} {hh : List (Nat × Nat × Nat × Nat)}
    (hy : plainName y.cls = true) (hw : ws = Cond.codeWith y cc maxL ret hh :: ws')
    (body : ∀ p e s m args below meth c s₁, BodyLoose p l y (headSpec ws rm) cc maxL ret e s m args below meth c s₁ → c.maxLocals = maxL → Pc args s →
      W p l e (headSpec ws rm).room s m args below meth c s.heap [] 0 0 (vx_MQ below Qc XC args s mc ms free) (entryFrame m args maxL)) : vx_Met l y ws rm Pc Qc XC mc ms free := by
  refine MetFree.of_bodyS (code := cc) (maxLocals := maxL) (ret := ret) hy ?_ ?_
  · intro args s m h hn
    obtain ⟨m9, meth, c, hn9, h1, h2, h3, h4, -, h5, h6, -⟩ := Cond.codeWith_spec (atoms_spec (ws := ws) h _ (by rw [hw]; exact List.mem_cons_self))
    cases hn.symm.trans hn9
    exact ⟨meth, c, h1, h2, h3, h4, h5, h6⟩
  · intro p e s m args below meth c s₁ B hml hP _
    have hh0 : s₁.heap = s.heap := by rw [B.state]; rfl
    obtain ⟨t, a1, o, b1, b2, b3⟩ := body p e s m args below meth c s₁ B hml hP s₁ hh0 (Stand.of_body B)
    exact ⟨t, o, a1, b1, b2, b3⟩
/-! ===== END ===== -/
end
section
/-! tables of the system, written by wip/whole/gen.py out of the claim's names and words: classes, fields, methods, links -/
def xC : Nat → String := fun c => match c with
  | 0 => "Saddletree$Hide"
  | 1 => "Saddletree$Part"
  | 2 => "Saddletree$Horse"
  | 3 => "Saddletree$Saddle"
  | 4 => "Saddletree$Route"
  | 5 => "Saddletree$Seat"
  | 6 => "Saddletree"
  | 7 => "SaddletreeModel"
  | 8 => "java/lang/IllegalArgumentException"
  | 9 => "java/lang/IllegalStateException"
  | 10 => "java/lang/IndexOutOfBoundsException"
  | 11 => "java/lang/Math"
  | _ => "SaddletreeLaw"
def xT0 : u_T := fun k => match k with
  | 0 => ("Saddletree$Hide", "thickness", "I", true)
  | _ => ("Saddletree$Hide", "gone", "[Z", true)
def xY0 : Nat → FieldType := fun k => match k with
  | 0 => .int
  | _ => .array .boolean
def xT1 : u_T := fun k => match k with
  | 0 => ("Saddletree$Part", "columns", "I", true)
  | 1 => ("Saddletree$Part", "rows", "I", true)
  | 2 => ("Saddletree$Part", "firstRow", "I", true)
  | 3 => ("Saddletree$Part", "isStrap", "Z", true)
  | 4 => ("Saddletree$Part", "holes", "[Z", true)
  | 5 => ("Saddletree$Part", "thickness", "I", false)
  | 6 => ("Saddletree$Part", "holeCount", "I", false)
  | 7 => ("Saddletree$Part", "wear", "I", false)
  | 8 => ("Saddletree$Part", "seams", "I", false)
  | 9 => ("Saddletree$Part", "lowerRing", "I", false)
  | 10 => ("Saddletree$Part", "upperRing", "I", false)
  | 11 => ("Saddletree$Part", "length", "I", false)
  | _ => ("Saddletree$Part", "broke", "Z", false)
def xY1 : Nat → FieldType := fun k => match k with
  | 0 => .int
  | 1 => .int
  | 2 => .int
  | 3 => .boolean
  | 4 => .array .boolean
  | 5 => .int
  | 6 => .int
  | 7 => .int
  | 8 => .int
  | 9 => .int
  | 10 => .int
  | 11 => .int
  | _ => .boolean
def xT2 : u_T := fun k => match k with
  | 0 => ("Saddletree$Horse", "heights", "[I", true)
  | 1 => ("Saddletree$Horse", "sores", "[I", true)
  | _ => ("Saddletree$Horse", "blames", "[I", true)
def xY2 : Nat → FieldType := fun k => match k with
  | 0 => .array .int
  | 1 => .array .int
  | _ => .array .int
def xT3 : u_T := fun k => match k with
  | 0 => ("Saddletree$Saddle", "heights", "[I", true)
  | _ => ("Saddletree$Saddle", "flocks", "[I", true)
def xY3 : Nat → FieldType := fun k => match k with
  | 0 => .array .int
  | _ => .array .int
def xT4 : u_T := fun k => match k with
  | 0 => ("Saddletree$Route", "shortest", "[I", true)
  | 1 => ("Saddletree$Route", "sharing", "[I", true)
  | 2 => ("Saddletree$Route", "isTaken", "[Z", true)
  | 3 => ("Saddletree$Route", "toGoal", "[I", true)
  | 4 => ("Saddletree$Route", "rings", "[I", true)
  | _ => ("Saddletree$Route", "ringCount", "I", false)
def xY4 : Nat → FieldType := fun k => match k with
  | 0 => .array .int
  | 1 => .array .int
  | 2 => .array .boolean
  | 3 => .array .int
  | 4 => .array .int
  | _ => .int
def xT5 : u_T := fun k => match k with
  | 0 => ("Saddletree$Seat", "gaps", "[I", true)
  | _ => ("Saddletree$Seat", "sorted", "[I", true)
def xY5 : Nat → FieldType := fun k => match k with
  | 0 => .array .int
  | _ => .array .int
def xT6 : u_T := fun k => match k with
  | 0 => ("Saddletree", "hides", "[LSaddletree$Hide;", true)
  | 1 => ("Saddletree", "hideCount", "I", false)
  | 2 => ("Saddletree", "parts", "[LSaddletree$Part;", true)
  | 3 => ("Saddletree", "partCount", "I", false)
  | 4 => ("Saddletree", "route", "LSaddletree$Route;", true)
  | 5 => ("Saddletree", "horses", "[LSaddletree$Horse;", true)
  | 6 => ("Saddletree", "saddles", "[LSaddletree$Saddle;", true)
  | 7 => ("Saddletree", "seat", "LSaddletree$Seat;", true)
  | _ => ("Saddletree", "rideCount", "I", false)
def xY6 : Nat → FieldType := fun k => match k with
  | 0 => .array (.object "Saddletree$Hide")
  | 1 => .int
  | 2 => .array (.object "Saddletree$Part")
  | 3 => .int
  | 4 => .object "Saddletree$Route"
  | 5 => .array (.object "Saddletree$Horse")
  | 6 => .array (.object "Saddletree$Saddle")
  | 7 => .object "Saddletree$Seat"
  | _ => .int
def xT7 : u_T := fun k => match k with
  | 0 => ("SaddletreeModel", "hides", "I", false)
  | 1 => ("SaddletreeModel", "thick", "[I", true)
  | 2 => ("SaddletreeModel", "bad", "[I", true)
  | 3 => ("SaddletreeModel", "parts", "I", false)
  | 4 => ("SaddletreeModel", "along", "[I", true)
  | 5 => ("SaddletreeModel", "wide", "[I", true)
  | 6 => ("SaddletreeModel", "thickness", "[I", true)
  | 7 => ("SaddletreeModel", "firstRow", "[I", true)
  | 8 => ("SaddletreeModel", "isStrap", "[Z", true)
  | 9 => ("SaddletreeModel", "holes", "[J", true)
  | 10 => ("SaddletreeModel", "wear", "[I", true)
  | 11 => ("SaddletreeModel", "seams", "[I", true)
  | 12 => ("SaddletreeModel", "isBroken", "[Z", true)
  | 13 => ("SaddletreeModel", "one", "[I", true)
  | 14 => ("SaddletreeModel", "other", "[I", true)
  | 15 => ("SaddletreeModel", "length", "[I", true)
  | 16 => ("SaddletreeModel", "far", "[I", true)
  | 17 => ("SaddletreeModel", "rings", "I", false)
  | 18 => ("SaddletreeModel", "ring", "[I", true)
  | 19 => ("SaddletreeModel", "borne", "[I", true)
  | 20 => ("SaddletreeModel", "back", "[I", true)
  | 21 => ("SaddletreeModel", "tree", "[I", true)
  | 22 => ("SaddletreeModel", "flock", "[I", true)
  | 23 => ("SaddletreeModel", "sore", "[I", true)
  | 24 => ("SaddletreeModel", "rides", "I", false)
  | 25 => ("SaddletreeModel", "bySaddle", "[I", true)
  | 26 => ("SaddletreeModel", "byRider", "[I", true)
  | 27 => ("SaddletreeModel", "byGait", "[I", true)
  | _ => ("SaddletreeModel", "thrown", "I", false)
def xY7 : Nat → FieldType := fun k => match k with
  | 0 => .int
  | 1 => .array .int
  | 2 => .array .int
  | 3 => .int
  | 4 => .array .int
  | 5 => .array .int
  | 6 => .array .int
  | 7 => .array .int
  | 8 => .array .boolean
  | 9 => .array .long
  | 10 => .array .int
  | 11 => .array .int
  | 12 => .array .boolean
  | 13 => .array .int
  | 14 => .array .int
  | 15 => .array .int
  | 16 => .array .int
  | 17 => .int
  | 18 => .array .int
  | 19 => .array .int
  | 20 => .array .int
  | 21 => .array .int
  | 22 => .array .int
  | 23 => .array .int
  | 24 => .int
  | 25 => .array .int
  | 26 => .array .int
  | 27 => .array .int
  | _ => .int
def xT : Nat → u_T := fun c => match c with
  | 0 => xT0
  | 1 => xT1
  | 2 => xT2
  | 3 => xT3
  | 4 => xT4
  | 5 => xT5
  | 6 => xT6
  | 7 => xT7
  | _ => fun _ => ("", "", "", false)
def xY : Nat → Nat → FieldType := fun c => match c with
  | 0 => xY0
  | 1 => xY1
  | 2 => xY2
  | 3 => xY3
  | 4 => xY4
  | 5 => xY5
  | 6 => xY6
  | 7 => xY7
  | _ => fun _ => .int
def xN : Nat → Nat := fun c => match c with
  | 0 => 2
  | 1 => 13
  | 2 => 3
  | 3 => 2
  | 4 => 6
  | 5 => 2
  | 6 => 9
  | 7 => 29
  | _ => 0
/-- a field: 0 an int, 1 a boolean, 2 a reference -/
def xfk (c k : Nat) : Nat := match xY c k with | .int => 0 | .boolean => 1 | _ => 2
/-- methods: the place of the word that holds the code, the owner, how many arguments, how many locals, whether static -/
def xMs : List (Nat × Nat × Nat × Nat × Bool) := [
  (284, 0, 2, 2, false), -- 0 X0_init
  (328, 0, 5, 7, false), -- 1 X0_spoil
  (332, 0, 1, 6, false), -- 2 X0_squaresLeft
  (357, 0, 3, 3, false), -- 3 X0_thinnest
  (343, 0, 6, 6, false), -- 4 X0_canGive
  (427, 0, 5, 11, false), -- 5 X0_leastWorth
  (435, 0, 5, 6, false), -- 6 X0_firstColumn
  (350, 0, 5, 7, false), -- 7 X0_isWhole
  (346, 0, 2, 2, true), -- 8 X0_reachesBelly
  (430, 0, 3, 6, true), -- 9 X0_worth
  (107, 2, 1, 1, false), -- 10 X1_init
  (765, 2, 1, 5, false), -- 11 X1_isLame
  (782, 2, 2, 3, false), -- 12 X1_heal
  (771, 2, 5, 5, false), -- 13 X1_blame
  (801, 2, 4, 4, false), -- 14 X1_blameOf
  (360, 1, 6, 6, false), -- 15 X2_init
  (460, 1, 2, 2, false), -- 16 X2_hasHoleNear
  (470, 1, 2, 4, false), -- 17 X2_addHole
  (511, 1, 2, 4, false), -- 18 X2_placeOf
  (488, 1, 1, 3, false), -- 19 X2_strength
  (465, 1, 1, 1, false), -- 20 X2_isBuckled
  (651, 1, 1, 1, false), -- 21 X2_canBeSewn
  (523, 1, 1, 1, false), -- 22 X2_letGo
  (615, 1, 1, 1, false), -- 23 X2_snap
  (79, 4, 1, 1, false), -- 24 X3_init
  (537, 4, 4, 8, false), -- 25 X3_look
  (602, 4, 1, 1, false), -- 26 X3_exists
  (591, 4, 2, 2, false), -- 27 X3_ringAt
  (579, 4, 2, 3, false), -- 28 X3_isBearing
  (575, 4, 3, 4, false), -- 29 X3_burden
  (632, 4, 2, 3, false), -- 30 X3_mostFor
  (545, 4, 2, 2, true), -- 31 X3_pair
  (541, 4, 1, 2, false), -- 32 X3_clear
  (549, 4, 3, 3, false), -- 33 X3_note
  (553, 4, 2, 6, false), -- 34 X3_reckon
  (558, 4, 2, 4, false), -- 35 X3_nearest
  (562, 4, 3, 4, false), -- 36 X3_through
  (567, 4, 3, 6, false), -- 37 X3_walk
  (571, 4, 2, 3, false), -- 38 X3_lowestNext
  (127, 3, 1, 1, false), -- 39 X4_init
  (144, 5, 1, 1, false), -- 40 X5_init
  (699, 5, 3, 4, false), -- 41 X5_measure
  (712, 5, 3, 3, false), -- 42 X5_pressureAt
  (703, 5, 2, 7, false), -- 43 X5_depthBySearch
  (724, 5, 2, 6, false), -- 44 X5_depthByGaps
  (750, 5, 2, 4, false), -- 45 X5_bridgeBits
  (754, 5, 4, 5, false), -- 46 X5_isPressed
  (708, 5, 2, 4, false), -- 47 X5_together
  (728, 5, 1, 4, false), -- 48 X5_sortGaps
  (67, 6, 1, 2, false), -- 49 X6_init
  (193, 6, 2, 3, false), -- 50 X6_hide
  (300, 6, 4, 5, false), -- 51 X6_fault
  (339, 6, 7, 9, false), -- 52 X6_cut
  (423, 6, 6, 7, false), -- 53 X6_find
  (443, 6, 3, 5, false), -- 54 X6_skive
  (456, 6, 3, 4, false), -- 55 X6_pierce
  (477, 6, 3, 5, false), -- 56 X6_match
  (484, 6, 3, 4, false), -- 57 X6_part
  (498, 6, 5, 6, false), -- 58 X6_buckle
  (518, 6, 2, 4, false), -- 59 X6_unbuckle
  (530, 6, 5, 6, false), -- 60 X6_bears
  (586, 6, 4, 4, false), -- 61 X6_way
  (598, 6, 4, 5, false), -- 62 X6_pull
  (627, 6, 3, 6, false), -- 63 X6_holds
  (640, 6, 2, 3, false), -- 64 X6_oil
  (647, 6, 5, 11, false), -- 65 X6_sew
  (660, 6, 4, 6, false), -- 66 X6_back
  (672, 6, 4, 6, false), -- 67 X6_tree
  (684, 6, 4, 6, false), -- 68 X6_flock
  (691, 6, 4, 4, false), -- 69 X6_sinks
  (720, 6, 4, 4, false), -- 70 X6_sinksAnew
  (738, 6, 5, 5, false), -- 71 X6_pressure
  (746, 6, 4, 4, false), -- 72 X6_bridges
  (761, 6, 7, 14, false), -- 73 X6_ride
  (778, 6, 2, 7, false), -- 74 X6_rest
  (790, 6, 4, 5, false), -- 75 X6_sore
  (797, 6, 5, 6, false), -- 76 X6_share
  (808, 6, 4, 9, false), -- 77 X6_cause
  (184, 6, 1, 1, false), -- 78 X6_rides
  (607, 6, 4, 7, false), -- 79 X6_breakStraps
  (611, 6, 2, 4, false), -- 80 X6_firstOverborne
  (620, 6, 2, 4, false), -- 81 X6_wearStraps
  (695, 6, 4, 6, false), -- 82 X6_measureGaps
  (304, 6, 2, 3, false), -- 83 X6_hideAt
  (447, 6, 2, 3, false), -- 84 X6_partAt
  (664, 6, 2, 3, false), -- 85 X6_horseAt
  (676, 6, 2, 3, false), -- 86 X6_saddleAt
  (323, 6, 2, 2, true), -- 87 X6_checkIndex
  (196, 6, 3, 3, true), -- 88 X6_checkArgument
  (501, 6, 2, 2, true), -- 89 X6_checkDifferent
  (533, 6, 2, 2, true), -- 90 X6_checkRings
  (813, 7, 1, 1, false), -- 91 X7_init
  (907, 7, 1, 1, false), -- 92 X7_thrown
  (918, 7, 2, 2, false), -- 93 X7_fails
  (914, 7, 3, 3, true), -- 94 X7_isIn
  (926, 7, 2, 2, false), -- 95 X7_isHide
  (959, 7, 2, 2, false), -- 96 X7_isPart
  (991, 7, 1, 1, true), -- 97 X7_isRing
  (929, 7, 2, 2, true), -- 98 X7_isSquare
  (911, 7, 2, 2, false), -- 99 X7_hide
  (922, 7, 4, 6, false), -- 100 X7_fault
  (936, 7, 2, 2, true), -- 101 X7_areSizes
  (940, 7, 7, 10, false), -- 102 X7_isWhole
  (944, 7, 4, 4, false), -- 103 X7_thicknessOf
  (933, 7, 7, 11, false), -- 104 X7_cut
  (951, 7, 3, 5, true), -- 105 X7_worth
  (948, 7, 6, 12, false), -- 106 X7_find
  (955, 7, 3, 4, false), -- 107 X7_skive
  (968, 7, 2, 2, false), -- 108 X7_isBuckled
  (963, 7, 3, 8, false), -- 109 X7_pierce
  (980, 7, 2, 4, false), -- 110 X7_holesOf
  (972, 7, 3, 4, false), -- 111 X7_match
  (984, 7, 2, 3, false), -- 112 X7_strength
  (976, 7, 3, 3, false), -- 113 X7_part
  (995, 7, 3, 6, false), -- 114 X7_placeOf
  (1003, 7, 2, 2, false), -- 115 X7_frees
  (988, 7, 5, 7, false), -- 116 X7_buckle
  (999, 7, 2, 3, false), -- 117 X7_unbuckle
  (1020, 7, 4, 4, false), -- 118 X7_joins
  (1016, 7, 3, 5, false), -- 119 X7_shortest
  (1011, 7, 3, 8, false), -- 120 X7_finds
  (1028, 7, 2, 4, false), -- 121 X7_sharers
  (1032, 7, 3, 3, false), -- 122 X7_isSharer
  (1024, 7, 2, 5, false), -- 123 X7_loads
  (1007, 7, 5, 6, false), -- 124 X7_bears
  (1036, 7, 4, 5, false), -- 125 X7_way
  (1044, 7, 1, 3, false), -- 126 X7_breaking
  (1040, 7, 4, 10, false), -- 127 X7_pull
  (1048, 7, 3, 9, false), -- 128 X7_holds
  (1052, 7, 2, 2, false), -- 129 X7_oil
  (1060, 7, 2, 2, false), -- 130 X7_canSew
  (1056, 7, 5, 11, false), -- 131 X7_sew
  (1067, 7, 1, 1, true), -- 132 X7_isHorse
  (1081, 7, 1, 1, true), -- 133 X7_isSaddle
  (1070, 7, 1, 1, true), -- 134 X7_isSection
  (1074, 7, 7, 8, false), -- 135 X7_sets
  (1064, 7, 4, 4, false), -- 136 X7_back
  (1078, 7, 4, 4, false), -- 137 X7_tree
  (1085, 7, 4, 4, false), -- 138 X7_flock
  (1108, 7, 4, 4, false), -- 139 X7_gap
  (1104, 7, 5, 6, false), -- 140 X7_pressureAt
  (1100, 7, 4, 7, false), -- 141 X7_depthOf
  (1096, 7, 5, 5, false), -- 142 X7_missesSaddle
  (1092, 7, 1, 1, true), -- 143 X7_isWeight
  (1089, 7, 4, 4, false), -- 144 X7_sinks
  (1112, 7, 4, 4, false), -- 145 X7_sinksAnew
  (1117, 7, 5, 5, false), -- 146 X7_pressure
  (1121, 7, 4, 9, false), -- 147 X7_bridges
  (1129, 7, 2, 4, false), -- 148 X7_isLame
  (1125, 7, 7, 15, false), -- 149 X7_ride
  (1133, 7, 2, 4, false), -- 150 X7_rest
  (1137, 7, 4, 4, false), -- 151 X7_sore
  (1149, 7, 4, 5, false), -- 152 X7_shareOf
  (1145, 7, 4, 4, false), -- 153 X7_missesShare
  (1141, 7, 5, 5, false), -- 154 X7_share
  (1153, 7, 4, 7, false), -- 155 X7_cause
  (1157, 7, 1, 1, false), -- 156 X7_rides
  (731, 11, 2, 3, true), -- 157 J9_floorDiv_7cf53
  (491, 11, 2, 2, true), -- 158 J9_max_7cf53
  (506, 11, 2, 2, true), -- 159 J9_min_7cf53
  (187, 12, 3, 4, true), -- 160 L_hide
  (295, 12, 5, 6, true), -- 161 L_fault
  (335, 12, 8, 9, true), -- 162 L_cut
  (419, 12, 7, 8, true), -- 163 L_find
  (439, 12, 4, 5, true), -- 164 L_skive
  (452, 12, 4, 5, true), -- 165 L_pierce
  (473, 12, 4, 5, true), -- 166 L_match
  (480, 12, 4, 5, true), -- 167 L_part
  (494, 12, 6, 7, true), -- 168 L_buckle
  (514, 12, 3, 4, true), -- 169 L_unbuckle
  (526, 12, 6, 7, true), -- 170 L_bears
  (582, 12, 5, 6, true), -- 171 L_way
  (594, 12, 5, 6, true), -- 172 L_pull
  (623, 12, 4, 5, true), -- 173 L_holds
  (636, 12, 3, 4, true), -- 174 L_oil
  (643, 12, 6, 7, true), -- 175 L_sew
  (656, 12, 5, 6, true), -- 176 L_back
  (668, 12, 5, 6, true), -- 177 L_tree
  (680, 12, 5, 6, true), -- 178 L_flock
  (687, 12, 5, 6, true), -- 179 L_sinks
  (716, 12, 5, 6, true), -- 180 L_sinksAnew
  (734, 12, 6, 7, true), -- 181 L_pressure
  (742, 12, 5, 6, true), -- 182 L_bridges
  (757, 12, 8, 9, true), -- 183 L_ride
  (774, 12, 3, 4, true), -- 184 L_rest
  (786, 12, 5, 6, true), -- 185 L_sore
  (793, 12, 6, 7, true), -- 186 L_share
  (804, 12, 5, 6, true), -- 187 L_cause
  (100000, 12, 1, 7, true)] -- 188 L_law
/-- field links: owner, index; class, field; by a nest mate; its place among the words -/
def xFL : List ((Nat × Nat) × (Nat × Nat × Bool × Nat)) := [
  ((4, 9), (4, 0, false, 81)),
  ((4, 15), (4, 1, false, 82)),
  ((4, 18), (4, 2, false, 83)),
  ((4, 22), (4, 3, false, 84)),
  ((4, 25), (4, 4, false, 85)),
  ((4, 62), (4, 5, false, 86)),
  ((2, 9), (2, 0, false, 109)),
  ((5, 26), (2, 0, true, 110)),
  ((6, 236), (2, 0, true, 111)),
  ((2, 15), (2, 1, false, 112)),
  ((6, 277), (2, 1, true, 113)),
  ((2, 18), (2, 2, false, 114)),
  ((3, 9), (3, 0, false, 129)),
  ((5, 18), (3, 0, true, 130)),
  ((6, 244), (3, 0, true, 131)),
  ((3, 15), (3, 1, false, 132)),
  ((5, 23), (3, 1, true, 133)),
  ((6, 245), (3, 1, true, 134)),
  ((5, 9), (5, 0, false, 146)),
  ((5, 15), (5, 1, false, 147)),
  ((6, 11), (6, 0, false, 153)),
  ((6, 53), (6, 1, false, 154)),
  ((6, 17), (6, 2, false, 155)),
  ((6, 89), (6, 3, false, 156)),
  ((6, 24), (6, 4, false, 157)),
  ((6, 30), (6, 5, false, 158)),
  ((6, 37), (6, 6, false, 159)),
  ((6, 45), (6, 7, false, 160)),
  ((6, 268), (6, 8, false, 161)),
  ((0, 9), (0, 0, false, 286)),
  ((0, 15), (0, 1, false, 287)),
  ((1, 9), (1, 0, false, 362)),
  ((6, 117), (1, 0, true, 363)),
  ((1, 15), (1, 1, false, 364)),
  ((6, 143), (1, 1, true, 365)),
  ((1, 18), (1, 2, false, 366)),
  ((6, 146), (1, 2, true, 367)),
  ((1, 24), (1, 3, false, 368)),
  ((6, 140), (1, 3, true, 369)),
  ((1, 28), (1, 4, false, 370)),
  ((1, 21), (1, 5, false, 371)),
  ((6, 109), (1, 5, true, 372)),
  ((1, 41), (1, 6, false, 373)),
  ((6, 149), (1, 6, true, 374)),
  ((1, 44), (1, 7, false, 375)),
  ((6, 152), (1, 7, true, 376)),
  ((6, 112), (1, 8, true, 377)),
  ((1, 53), (1, 8, false, 378)),
  ((1, 32), (1, 9, false, 379)),
  ((4, 37), (1, 9, true, 380)),
  ((6, 158), (1, 9, true, 381)),
  ((1, 35), (1, 10, false, 382)),
  ((4, 41), (1, 10, true, 383)),
  ((6, 161), (1, 10, true, 384)),
  ((1, 38), (1, 11, false, 385)),
  ((4, 48), (1, 11, true, 386)),
  ((6, 164), (1, 11, true, 387)),
  ((1, 60), (1, 12, false, 388)),
  ((6, 130), (1, 12, true, 389)),
  ((7, 88), (7, 0, false, 815)),
  ((7, 7), (7, 1, false, 816)),
  ((7, 13), (7, 2, false, 817)),
  ((7, 95), (7, 3, false, 818)),
  ((7, 16), (7, 4, false, 819)),
  ((7, 19), (7, 5, false, 820)),
  ((7, 22), (7, 6, false, 821)),
  ((7, 25), (7, 7, false, 822)),
  ((7, 28), (7, 8, false, 823)),
  ((7, 32), (7, 9, false, 824)),
  ((7, 36), (7, 10, false, 825)),
  ((7, 39), (7, 11, false, 826)),
  ((7, 42), (7, 12, false, 827)),
  ((7, 45), (7, 13, false, 828)),
  ((7, 48), (7, 14, false, 829)),
  ((7, 51), (7, 15, false, 830)),
  ((7, 54), (7, 16, false, 831)),
  ((7, 156), (7, 17, false, 832)),
  ((7, 57), (7, 18, false, 833)),
  ((7, 60), (7, 19, false, 834)),
  ((7, 63), (7, 20, false, 835)),
  ((7, 66), (7, 21, false, 836)),
  ((7, 69), (7, 22, false, 837)),
  ((7, 72), (7, 23, false, 838)),
  ((7, 214), (7, 24, false, 839)),
  ((7, 75), (7, 25, false, 840)),
  ((7, 78), (7, 26, false, 841)),
  ((7, 81), (7, 27, false, 842)),
  ((7, 84), (7, 28, false, 843))]
/-- calls: owner, index; method, kind (0 static, 1 virtual, 2 a constructor); the places of methodLink, of instanceMethod or static, of selects -/
def xCL : List ((Nat × Nat) × (Nat × Nat × Nat × Nat × Nat)) := [
  ((12, 107), (49, 2, 65, 66, 0)),
  ((6, 23), (24, 2, 77, 78, 0)),
  ((6, 34), (10, 2, 105, 106, 0)),
  ((6, 41), (39, 2, 125, 126, 0)),
  ((6, 44), (40, 2, 142, 143, 0)),
  ((12, 208), (78, 1, 181, 182, 183)),
  ((12, 111), (160, 0, 185, 186, 0)),
  ((12, 7), (50, 1, 190, 191, 192)),
  ((6, 49), (88, 0, 194, 195, 0)),
  ((6, 64), (0, 2, 282, 283, 0)),
  ((12, 121), (161, 0, 293, 294, 0)),
  ((12, 17), (51, 1, 297, 298, 299)),
  ((6, 67), (83, 1, 301, 303, 1)),
  ((6, 71), (87, 0, 321, 322, 0)),
  ((6, 75), (1, 1, 325, 326, 327)),
  ((6, 79), (2, 1, 329, 330, 331)),
  ((12, 125), (162, 0, 333, 334, 0)),
  ((12, 23), (52, 1, 336, 337, 338)),
  ((6, 83), (4, 1, 340, 341, 342)),
  ((0, 19), (8, 0, 344, 345, 0)),
  ((0, 23), (7, 1, 347, 349, 2)),
  ((6, 94), (3, 1, 354, 355, 356)),
  ((6, 98), (15, 2, 358, 359, 0)),
  ((12, 129), (163, 0, 417, 418, 0)),
  ((12, 27), (53, 1, 420, 421, 422)),
  ((6, 101), (5, 1, 424, 425, 426)),
  ((0, 27), (9, 0, 428, 429, 0)),
  ((0, 31), (3, 1, 431, 355, 356)),
  ((0, 35), (6, 1, 432, 434, 3)),
  ((0, 39), (4, 1, 436, 341, 342)),
  ((12, 133), (164, 0, 437, 438, 0)),
  ((12, 31), (54, 1, 440, 441, 442)),
  ((6, 105), (84, 1, 444, 446, 4)),
  ((12, 137), (165, 0, 450, 451, 0)),
  ((12, 35), (55, 1, 453, 454, 455)),
  ((6, 120), (16, 1, 457, 458, 459)),
  ((6, 126), (20, 1, 462, 463, 464)),
  ((6, 136), (17, 1, 467, 468, 469)),
  ((12, 140), (166, 0, 471, 472, 0)),
  ((12, 38), (56, 1, 474, 475, 476)),
  ((12, 143), (167, 0, 478, 479, 0)),
  ((12, 42), (57, 1, 481, 482, 483)),
  ((6, 155), (19, 1, 485, 486, 487)),
  ((1, 47), (158, 0, 489, 490, 0)),
  ((12, 146), (168, 0, 492, 493, 0)),
  ((12, 45), (58, 1, 495, 496, 497)),
  ((6, 167), (89, 0, 499, 500, 0)),
  ((6, 172), (159, 0, 504, 505, 0)),
  ((6, 177), (158, 0, 507, 490, 0)),
  ((6, 180), (18, 1, 508, 509, 510)),
  ((12, 150), (169, 0, 512, 513, 0)),
  ((12, 49), (59, 1, 515, 516, 517)),
  ((6, 185), (22, 1, 520, 521, 522)),
  ((12, 153), (170, 0, 524, 525, 0)),
  ((12, 52), (60, 1, 527, 528, 529)),
  ((6, 188), (90, 0, 531, 532, 0)),
  ((6, 191), (25, 1, 534, 535, 536)),
  ((4, 28), (32, 1, 538, 540, 5)),
  ((4, 31), (20, 1, 542, 463, 464)),
  ((4, 44), (31, 0, 543, 544, 0)),
  ((4, 51), (33, 1, 546, 548, 6)),
  ((4, 55), (34, 1, 550, 552, 7)),
  ((4, 74), (35, 1, 555, 557, 8)),
  ((4, 78), (36, 1, 559, 561, 9)),
  ((4, 81), (159, 0, 563, 505, 0)),
  ((4, 59), (37, 1, 564, 566, 10)),
  ((4, 86), (38, 1, 568, 570, 11)),
  ((6, 195), (29, 1, 572, 573, 574)),
  ((4, 65), (28, 1, 576, 577, 578)),
  ((12, 156), (171, 0, 580, 581, 0)),
  ((12, 55), (61, 1, 583, 584, 585)),
  ((6, 204), (27, 1, 588, 589, 590)),
  ((12, 159), (172, 0, 592, 593, 0)),
  ((12, 58), (62, 1, 595, 596, 597)),
  ((6, 207), (26, 1, 599, 600, 601)),
  ((6, 212), (79, 1, 604, 606, 12)),
  ((6, 289), (80, 1, 608, 610, 13)),
  ((6, 292), (23, 1, 612, 613, 614)),
  ((1, 63), (22, 1, 616, 521, 522)),
  ((6, 216), (81, 1, 617, 619, 14)),
  ((12, 162), (173, 0, 621, 622, 0)),
  ((12, 61), (63, 1, 624, 625, 626)),
  ((6, 219), (28, 1, 628, 577, 578)),
  ((6, 223), (30, 1, 629, 630, 631)),
  ((4, 69), (19, 1, 633, 486, 487)),
  ((12, 165), (174, 0, 634, 635, 0)),
  ((12, 64), (64, 1, 637, 638, 639)),
  ((12, 168), (175, 0, 641, 642, 0)),
  ((12, 67), (65, 1, 644, 645, 646)),
  ((6, 227), (21, 1, 648, 649, 650)),
  ((1, 56), (20, 1, 652, 463, 464)),
  ((12, 171), (176, 0, 654, 655, 0)),
  ((12, 70), (66, 1, 657, 658, 659)),
  ((6, 232), (85, 1, 661, 663, 15)),
  ((12, 174), (177, 0, 666, 667, 0)),
  ((12, 73), (67, 1, 669, 670, 671)),
  ((6, 240), (86, 1, 673, 675, 16)),
  ((12, 177), (178, 0, 678, 679, 0)),
  ((12, 76), (68, 1, 681, 682, 683)),
  ((12, 180), (179, 0, 685, 686, 0)),
  ((12, 79), (69, 1, 688, 689, 690)),
  ((6, 248), (82, 1, 692, 694, 17)),
  ((6, 273), (41, 1, 696, 697, 698)),
  ((6, 251), (43, 1, 700, 701, 702)),
  ((5, 35), (159, 0, 704, 505, 0)),
  ((5, 38), (47, 1, 705, 707, 18)),
  ((5, 48), (42, 1, 709, 710, 711)),
  ((5, 29), (158, 0, 713, 490, 0)),
  ((12, 183), (180, 0, 714, 715, 0)),
  ((12, 82), (70, 1, 717, 718, 719)),
  ((6, 254), (44, 1, 721, 722, 723)),
  ((5, 42), (48, 1, 725, 727, 19)),
  ((5, 45), (157, 0, 729, 730, 0)),
  ((12, 186), (181, 0, 732, 733, 0)),
  ((12, 85), (71, 1, 735, 736, 737)),
  ((6, 257), (42, 1, 739, 710, 711)),
  ((12, 189), (182, 0, 740, 741, 0)),
  ((12, 88), (72, 1, 743, 744, 745)),
  ((6, 260), (45, 1, 747, 748, 749)),
  ((5, 51), (46, 1, 751, 753, 20)),
  ((12, 192), (183, 0, 755, 756, 0)),
  ((12, 91), (73, 1, 758, 759, 760)),
  ((6, 263), (11, 1, 762, 763, 764)),
  ((6, 280), (13, 1, 768, 769, 770)),
  ((12, 196), (184, 0, 772, 773, 0)),
  ((12, 95), (74, 1, 775, 776, 777)),
  ((6, 283), (12, 1, 779, 780, 781)),
  ((2, 21), (158, 0, 783, 490, 0)),
  ((12, 199), (185, 0, 784, 785, 0)),
  ((12, 98), (75, 1, 787, 788, 789)),
  ((12, 202), (186, 0, 791, 792, 0)),
  ((12, 101), (76, 1, 794, 795, 796)),
  ((6, 286), (14, 1, 798, 799, 800)),
  ((12, 205), (187, 0, 802, 803, 0)),
  ((12, 104), (77, 1, 805, 806, 807)),
  ((12, 110), (91, 2, 811, 812, 0)),
  ((12, 117), (92, 1, 904, 905, 906)),
  ((12, 116), (99, 1, 908, 909, 910)),
  ((7, 91), (94, 0, 912, 913, 0)),
  ((7, 98), (93, 1, 915, 917, 21)),
  ((12, 124), (100, 1, 919, 920, 921)),
  ((7, 102), (95, 1, 923, 925, 22)),
  ((7, 105), (98, 0, 927, 928, 0)),
  ((12, 128), (104, 1, 930, 931, 932)),
  ((7, 109), (101, 0, 934, 935, 0)),
  ((7, 112), (102, 1, 937, 939, 23)),
  ((7, 116), (103, 1, 941, 943, 24)),
  ((12, 132), (106, 1, 945, 946, 947)),
  ((7, 120), (105, 0, 949, 950, 0)),
  ((12, 136), (107, 1, 952, 953, 954)),
  ((7, 123), (96, 1, 956, 958, 25)),
  ((12, 139), (109, 1, 960, 961, 962)),
  ((7, 128), (108, 1, 965, 967, 26)),
  ((12, 142), (111, 1, 969, 970, 971)),
  ((12, 145), (113, 1, 973, 974, 975)),
  ((7, 131), (110, 1, 977, 979, 27)),
  ((7, 135), (112, 1, 981, 983, 28)),
  ((12, 149), (116, 1, 985, 986, 987)),
  ((7, 138), (97, 0, 989, 990, 0)),
  ((7, 141), (114, 1, 992, 994, 29)),
  ((12, 152), (117, 1, 996, 997, 998)),
  ((7, 145), (115, 1, 1000, 1002, 30)),
  ((12, 155), (124, 1, 1004, 1005, 1006)),
  ((7, 165), (120, 1, 1008, 1010, 31)),
  ((7, 153), (119, 1, 1013, 1015, 32)),
  ((7, 150), (118, 1, 1017, 1019, 33)),
  ((7, 168), (123, 1, 1021, 1023, 34)),
  ((7, 162), (121, 1, 1025, 1027, 35)),
  ((7, 159), (122, 1, 1029, 1031, 36)),
  ((12, 158), (125, 1, 1033, 1034, 1035)),
  ((12, 161), (127, 1, 1037, 1038, 1039)),
  ((7, 171), (126, 1, 1041, 1043, 37)),
  ((12, 164), (128, 1, 1045, 1046, 1047)),
  ((12, 167), (129, 1, 1049, 1050, 1051)),
  ((12, 170), (131, 1, 1053, 1054, 1055)),
  ((7, 175), (130, 1, 1057, 1059, 38)),
  ((12, 173), (136, 1, 1061, 1062, 1063)),
  ((7, 178), (132, 0, 1065, 1066, 0)),
  ((7, 181), (134, 0, 1068, 1069, 0)),
  ((7, 184), (135, 1, 1071, 1073, 39)),
  ((12, 176), (137, 1, 1075, 1076, 1077)),
  ((7, 188), (133, 0, 1079, 1080, 0)),
  ((12, 179), (138, 1, 1082, 1083, 1084)),
  ((12, 182), (144, 1, 1086, 1087, 1088)),
  ((7, 198), (143, 0, 1090, 1091, 0)),
  ((7, 201), (142, 1, 1093, 1095, 40)),
  ((7, 205), (141, 1, 1097, 1099, 41)),
  ((7, 194), (140, 1, 1101, 1103, 42)),
  ((7, 191), (139, 1, 1105, 1107, 43)),
  ((12, 185), (145, 1, 1109, 1110, 1111)),
  ((7, 208), (144, 1, 1113, 1087, 1088)),
  ((12, 188), (146, 1, 1114, 1115, 1116)),
  ((12, 191), (147, 1, 1118, 1119, 1120)),
  ((12, 195), (149, 1, 1122, 1123, 1124)),
  ((7, 211), (148, 1, 1126, 1128, 44)),
  ((12, 198), (150, 1, 1130, 1131, 1132)),
  ((12, 201), (151, 1, 1134, 1135, 1136)),
  ((12, 204), (154, 1, 1138, 1139, 1140)),
  ((7, 217), (153, 1, 1142, 1144, 45)),
  ((7, 220), (152, 1, 1146, 1148, 46)),
  ((12, 207), (155, 1, 1150, 1151, 1152)),
  ((12, 211), (156, 1, 1154, 1155, 1156))]
/-- Object.<init>, by owner and index -/
def xOL : List ((Nat × Nat) × Nat) := [
  ((6, 1), 68),
  ((4, 3), 80),
  ((2, 3), 108),
  ((3, 3), 128),
  ((5, 3), 145),
  ((0, 3), 285),
  ((1, 3), 361),
  ((7, 1), 814)]
/-- the constructors of exceptions, by owner and index: which -/
def xIL : List ((Nat × Nat) × Nat) := [
  ((6, 309), 8),
  ((6, 61), 9),
  ((6, 203), 10)]
/-- class links: owner, index; class; place -/
def xKL : List ((Nat × Nat) × (Nat × Nat)) := [
  ((12, 8), (6, 63)),
  ((6, 9), (0, 71)),
  ((6, 15), (1, 73)),
  ((6, 21), (4, 75)),
  ((6, 28), (2, 102)),
  ((6, 35), (3, 122)),
  ((6, 42), (5, 140)),
  ((12, 13), (8, 188)),
  ((12, 15), (9, 189)),
  ((6, 305), (8, 197)),
  ((6, 57), (9, 265)),
  ((12, 21), (10, 296)),
  ((6, 199), (10, 305)),
  ((12, 108), (7, 809))]
/-- String constants: owner, index; text -/
def xSL : List ((Nat × Nat) × String) := [
  ((6, 307), "out of range"),
  ((6, 59), "there are 8 hides"),
  ((6, 295), "there is no such hide"),
  ((6, 303), "there is no such number"),
  ((6, 87), "it cannot be cut there"),
  ((6, 92), "there were 40 parts"),
  ((6, 297), "there is no such part"),
  ((6, 115), "it is in a seam"),
  ((6, 124), "it is too near to another hole"),
  ((6, 134), "it is in a seam, buckled, or broke"),
  ((6, 310), "both are one"),
  ((6, 170), "it is no strap, is buckled, or broke"),
  ((6, 183), "it is not buckled"),
  ((6, 201), "place is below 0"),
  ((6, 210), "there is no way"),
  ((6, 230), "one has 4 seams, is buckled, or broke"),
  ((6, 299), "there is no such horse"),
  ((6, 301), "there is no such saddle"),
  ((6, 266), "the horse is lame"),
  ((6, 271), "there were 60 rides")]
/-- constants of the pools -/
def xIC : List ((Nat × Nat) × (Int32 × Nat)) := [
  ((4, 73), (1000000, 554)),
  ((7, 149), (100000000, 1012))]
def xJC : List ((Nat × Nat) × (Int64 × Nat)) := [
  ((7, 126), (7, 964))]
/-! THE PURE MACHINE: a heap of cells 0, 1, .. (shape; ints, longs, references by cell and place), a frame (place, locals, stack), a step, a run. A reference k stands for the real cell base + k, '.retAddr 0' for the script. -/
abbrev xH : Type := (Nat → Nat × Nat) × (Nat × Nat) × (Nat → Nat → Int32) × (Nat → Nat → Int64) × (Nat → Nat → Option Nat)
abbrev xL : Type := List (Option Value)
abbrev xO : Type := Option Value ⊕ Nat
abbrev xR : Type := Option (xO × xH)
abbrev xA : Type := Option ((Nat × xL × List Value × xH) ⊕ ((xO × xH) ⊕ (Nat × List Value × Nat × List Value)))
abbrev xS : Type := Nat × (Nat → Int32)
def xup2 {α : Type} (f : Nat → Nat → α) (a k : Nat) (v : α) : Nat → Nat → α := fun b j => if b = a ∧ j = k then v else f b j
/-- a new cell, all 0 -/
def xnew (h : xH) (sh : Nat × Nat) (n : Nat) : xH := (va_up h.1 h.2.1.1 sh, (h.2.1.1 + 1, h.2.1.2 + n), va_up h.2.2.1 h.2.1.1 (fun _ => 0), va_up h.2.2.2.1 h.2.1.1 (fun _ => 0), va_up h.2.2.2.2 h.2.1.1 (fun _ => none))
def xgo (pc : Nat) (L : xL) (S : List Value) (h : xH) : xA := some (.inl (pc, L, S, h))
def xend (o : xO) (h : xH) : xA := some (.inr (.inl (o, h)))
def xcal (j : Nat) (as : List Value) (pc : Nat) (S : List Value) : xA := some (.inr (.inr (j, as, pc, S)))
def xjmp (pc : Nat) (off : Int) : Nat := ((pc : Int) + off).toNat
/-- methods by number -/
def xhd (j : Nat) : Cond := lw_tbl.getD (xMs.getD j (100000, 0, 0, 0, false)).1 (.code x code maxLocals ret)
def xmy (j : Nat) : MethodName := match xhd j with
  | .code y _ _ _ => y
  | .codeWith y _ _ _ _ => y
  | _ => ⟨"", "", ""⟩
def xmc (j : Nat) : ByteArray := match xhd j with
  | .code _ c _ _ => c
  | .codeWith _ c _ _ _ => c
  | _ => ⟨#[]⟩
def xmr (j : Nat) : Option FieldType := match xhd j with
  | .code _ _ _ r => r
  | .codeWith _ _ _ r _ => r
  | _ => none
def xmh (j : Nat) : List (Nat × Nat × Nat × Nat) := match xhd j with
  | .codeWith _ _ _ _ h => h
  | _ => []
def xmo (j : Nat) : Nat := (xMs.getD j (100000, 0, 0, 0, false)).2.1
def xmn (j : Nat) : Nat := (xMs.getD j (100000, 0, 0, 0, false)).2.2.1
def xml (j : Nat) : Nat := (xMs.getD j (100000, 0, 0, 0, false)).2.2.2.1
def xms (j : Nat) : Bool := (xMs.getD j (100000, 0, 0, 0, false)).2.2.2.2
/-- an instruction's length; 0 of what is not among these -/
def xlen : Instr → Nat
  | .iconst _ | .lconst _ | .aconst_null | .iload_n _ | .aload_n _ | .istore_n _ | .astore_n _ | .iadd | .isub | .imul | .idiv | .irem | .iand | .ior | .ixor | .ishl | .ishr | .i2l | .l2i | .land | .lor | .lshl | .lshr | .lcmp | .dup | .dup2 | .ireturn | .areturn | .return_ | .arraylength | .iaload | .iastore | .baload | .bastore | .laload | .lastore | .aaload | .aastore | .athrow => 1
  | .bipush _ | .ldc _ | .iload _ | .aload _ | .istore _ | .astore _ | .newarray _ => 2
  | .sipush _ | .ldc_w _ | .ldc2_w _ | .iinc _ _ | .if_icmp _ _ | .ifCond _ _ | .goto _ | .ifnull _ | .ifnonnull _ | .getfield _ | .putfield _ | .invokestatic _ | .invokevirtual _ | .invokespecial _ | .new _ | .anewarray _ => 3
  | _ => 0
def xsw : Instr → Bool
  | .tableswitch _ _ _ _ => true
  | _ => false
/-- the instruction at a place -/
def xft (j pc : Nat) : Option Instr := match decode (xmc j) pc with
  | .ok (ins, len) => if xlen ins = len ∨ xsw ins = true then some ins else none
  | .error _ => none
def xlk {β : Type} : List ((Nat × Nat) × β) → Nat → Nat → Option β
  | [], _, _ => none
  | (k, v) :: r, o, i => if k.1 = o ∧ k.2 = i then some v else xlk r o i
def xcat1 : Value → Bool
  | .long _ => false
  | .double _ => false
  | _ => true
/-- a call of method j, with the arguments on the stack -/
def xinv (j pc : Nat) (S : List Value) : xA :=
  if xmn j ≤ S.length ∧ ((S.drop (xmn j)).length ≤ 4 ∨ ((S.drop (xmn j)).length ≤ 8 ∧ (S.drop (xmn j)).all xcat1 = true)) then xcal j ((S.take (xmn j)).reverse) (pc + 3) (S.drop (xmn j)) else none
/-- what a receiver must be -/
def xrcv (j : Nat) (h : xH) : List Value → Bool
  | .ref a :: _ => decide (h.1 a = (1 + xmo j, 0))
  | _ => false
/-- a jump's two ways -/
def xbr (c : Prop) [Decidable c] (pc : Nat) (off : Int) (L : xL) (S : List Value) (h : xH) : xA :=
  if 0 ≤ (pc : Int) + off then xgo (if c then xjmp pc off else pc + 3) L S h else none
def xst (L : xL) (k : Nat) (v : Value) (pc : Nat) (S : List Value) (h : xH) : xA := if k < L.length then xgo pc (L.set k (some v)) S h else none
def xis01 (x : Int32) : Prop := x = 0 ∨ x = 1
/-- 'throw new E(text)' at pc -/
def xthr (d i pc e : Nat) (S : List Value) (h : xH) : xA :=
  if 6 ≤ d ∧ S.length ≤ 4 ∧ xmh i = [] ∧ xft i (pc + 3) = some .dup then
    match xft i (pc + 4) with
    | some (.ldc s) => match xlk xSL (xmo i) s, xft i (pc + 6), xft i (pc + 9) with
      | some _, some (.invokespecial c), some .athrow => if xlk xIL (xmo i) c = some e then xend (.inr e) (xnew h (1 + e, 0) 6) else none
      | _, _, _ => none
    | some (.ldc_w s) => match xlk xSL (xmo i) s, xft i (pc + 7), xft i (pc + 10) with
      | some _, some (.invokespecial c), some .athrow => if xlk xIL (xmo i) c = some e then xend (.inr e) (xnew h (1 + e, 0) 6) else none
      | _, _, _ => none
    | _ => none
  else none
def xact (sc : xS) (d i : Nat) (ins : Instr) (pc : Nat) (L : xL) (S : List Value) (h : xH) : xA := match ins with
  | .iconst n => xgo (pc + 1) L (.int (Int32.ofInt n) :: S) h
  | .bipush n => xgo (pc + 2) L (.int (Int8.ofInt n).toInt32 :: S) h
  | .sipush n => xgo (pc + 3) L (.int (Int16.ofInt n).toInt32 :: S) h
  | .lconst n => xgo (pc + 1) L (.long (Int64.ofNat n.val) :: S) h
  | .ldc k => match xlk xIC (xmo i) k with
    | some v => xgo (pc + 2) L (.int v.1 :: S) h
    | none => none
  | .ldc2_w k => match xlk xJC (xmo i) k with
    | some v => xgo (pc + 3) L (.long v.1 :: S) h
    | none => none
  | .aconst_null => xgo (pc + 1) L (.null :: S) h
  | .iload_n k => match L[k.val]? with
    | some (some (.int x)) => xgo (pc + 1) L (.int x :: S) h
    | _ => none
  | .iload k => match L[k]? with
    | some (some (.int x)) => xgo (pc + 2) L (.int x :: S) h
    | _ => none
  | .aload_n k => match L[k.val]? with
    | some (some (.ref a)) => xgo (pc + 1) L (.ref a :: S) h
    | some (some .null) => xgo (pc + 1) L (.null :: S) h
    | some (some (.retAddr z)) => xgo (pc + 1) L (.retAddr z :: S) h
    | _ => none
  | .aload k => match L[k]? with
    | some (some (.ref a)) => xgo (pc + 2) L (.ref a :: S) h
    | some (some .null) => xgo (pc + 2) L (.null :: S) h
    | some (some (.retAddr z)) => xgo (pc + 2) L (.retAddr z :: S) h
    | _ => none
  | .istore_n k => match S with
    | .int x :: S => xst L k.val (.int x) (pc + 1) S h
    | _ => none
  | .istore k => match S with
    | .int x :: S => xst L k (.int x) (pc + 2) S h
    | _ => none
  | .astore_n k => match S with
    | .ref a :: S => xst L k.val (.ref a) (pc + 1) S h
    | .null :: S => xst L k.val .null (pc + 1) S h
    | _ => none
  | .astore k => match S with
    | .ref a :: S => xst L k (.ref a) (pc + 2) S h
    | .null :: S => xst L k .null (pc + 2) S h
    | _ => none
  | .iinc k n => match L[k]? with
    | some (some (.int x)) => xst L k (.int (x + Int32.ofInt n)) (pc + 3) S h
    | _ => none
  | .iadd => match S with
    | .int y :: .int x :: S => xgo (pc + 1) L (.int (x + y) :: S) h
    | _ => none
  | .isub => match S with
    | .int y :: .int x :: S => xgo (pc + 1) L (.int (x - y) :: S) h
    | _ => none
  | .imul => match S with
    | .int y :: .int x :: S => xgo (pc + 1) L (.int (x * y) :: S) h
    | _ => none
  | .idiv => match S with
    | .int y :: .int x :: S => if y = 0 then none else xgo (pc + 1) L (.int (x / y) :: S) h
    | _ => none
  | .irem => match S with
    | .int y :: .int x :: S => if y = 0 then none else xgo (pc + 1) L (.int (x - x / y * y) :: S) h
    | _ => none
  | .iand => match S with
    | .int y :: .int x :: S => xgo (pc + 1) L (.int (x &&& y) :: S) h
    | _ => none
  | .ior => match S with
    | .int y :: .int x :: S => xgo (pc + 1) L (.int (x ||| y) :: S) h
    | _ => none
  | .ixor => match S with
    | .int y :: .int x :: S => xgo (pc + 1) L (.int (x ^^^ y) :: S) h
    | _ => none
  | .ishl => match S with
    | .int y :: .int x :: S => xgo (pc + 1) L (.int (x <<< (y &&& 31)) :: S) h
    | _ => none
  | .ishr => match S with
    | .int y :: .int x :: S => xgo (pc + 1) L (.int (x >>> (y &&& 31)) :: S) h
    | _ => none
  | .i2l => match S with
    | .int x :: S => xgo (pc + 1) L (.long x.toInt64 :: S) h
    | _ => none
  | .l2i => match S with
    | .long x :: S => xgo (pc + 1) L (.int x.toInt32 :: S) h
    | _ => none
  | .land => match S with
    | .long y :: .long x :: S => xgo (pc + 1) L (.long (x &&& y) :: S) h
    | _ => none
  | .lor => match S with
    | .long y :: .long x :: S => xgo (pc + 1) L (.long (x ||| y) :: S) h
    | _ => none
  | .lshl => match S with
    | .int y :: .long x :: S => xgo (pc + 1) L (.long (x <<< (y.toInt64 &&& 63)) :: S) h
    | _ => none
  | .lshr => match S with
    | .int y :: .long x :: S => xgo (pc + 1) L (.long (x >>> (y.toInt64 &&& 63)) :: S) h
    | _ => none
  | .lcmp => match S with
    | .long y :: .long x :: S => xgo (pc + 1) L (.int (lg_cmp x y) :: S) h
    | _ => none
  | .dup => match S with
    | v :: S => if xcat1 v = true then xgo (pc + 1) L (v :: v :: S) h else none
    | _ => none
  | .dup2 => match S with
    | v :: w :: S => if xcat1 v = true ∧ xcat1 w = true then xgo (pc + 1) L (v :: w :: v :: w :: S) h else none
    | _ => none
  | .if_icmp .eq off => match S with
    | .int y :: .int x :: S => xbr (x = y) pc off L S h
    | _ => none
  | .if_icmp .ne off => match S with
    | .int y :: .int x :: S => xbr (¬ x = y) pc off L S h
    | _ => none
  | .if_icmp .lt off => match S with
    | .int y :: .int x :: S => xbr (x < y) pc off L S h
    | _ => none
  | .if_icmp .ge off => match S with
    | .int y :: .int x :: S => xbr (y ≤ x) pc off L S h
    | _ => none
  | .if_icmp .gt off => match S with
    | .int y :: .int x :: S => xbr (y < x) pc off L S h
    | _ => none
  | .if_icmp .le off => match S with
    | .int y :: .int x :: S => xbr (x ≤ y) pc off L S h
    | _ => none
  | .ifCond .eq off => match S with
    | .int x :: S => xbr (x = 0) pc off L S h
    | _ => none
  | .ifCond .ne off => match S with
    | .int x :: S => xbr (¬ x = 0) pc off L S h
    | _ => none
  | .ifCond .lt off => match S with
    | .int x :: S => xbr (x < 0) pc off L S h
    | _ => none
  | .ifCond .ge off => match S with
    | .int x :: S => xbr (0 ≤ x) pc off L S h
    | _ => none
  | .ifCond .gt off => match S with
    | .int x :: S => xbr (0 < x) pc off L S h
    | _ => none
  | .ifCond .le off => match S with
    | .int x :: S => xbr (x ≤ 0) pc off L S h
    | _ => none
  | .goto off => if 0 ≤ (pc : Int) + off then xgo (xjmp pc off) L S h else none
  | .ifnull off => match S with
    | .null :: S => if 0 ≤ (pc : Int) + off then xgo (xjmp pc off) L S h else none
    | .ref _ :: S => xgo (pc + 3) L S h
    | _ => none
  | .ifnonnull off => match S with
    | .ref _ :: S => if 0 ≤ (pc : Int) + off then xgo (xjmp pc off) L S h else none
    | .null :: S => xgo (pc + 3) L S h
    | _ => none
  | .tableswitch dflt lo hi offs => match S with
    | .int x :: S =>
      if x.toInt < lo ∨ hi < x.toInt then (if 0 ≤ (pc : Int) + dflt then xgo (xjmp pc dflt) L S h else none)
      else match offs[(x.toInt - lo).toNat]? with
        | some off => if 0 ≤ (pc : Int) + off then xgo (xjmp pc off) L S h else none
        | none => none
    | _ => none
  | .ireturn => match S with
    | [.int x] => if xmr i = some .int then xend (.inl (some (.int x))) h
      else if xmr i = some .boolean ∧ (x = 0 ∨ x = 1) then xend (.inl (some (.int x))) h else none
    | _ => none
  | .areturn => match S with
    | [.ref a] => match xmr i with
      | some (.object _) => xend (.inl (some (.ref a))) h
      | _ => none
    | [.null] => match xmr i with
      | some (.object _) => xend (.inl (some .null)) h
      | _ => none
    | _ => none
  | .return_ => match S with
    | [] => if xmr i = none then xend (.inl none) h else none
    | _ => none
  | .getfield idx => match S with
    | .ref a :: S => match xlk xFL (xmo i) idx with
      | some (c, k, _, _) => if h.1 a = (1 + c, 0) then xgo (pc + 3) L ((if xfk c k = 2 then va_rf (h.2.2.2.2 a k) else .int (h.2.2.1 a k)) :: S) h else none
      | none => none
    | _ => none
  | .putfield idx => match S with
    | .int x :: .ref a :: S => match xlk xFL (xmo i) idx with
      | some (c, k, n, _) => if h.1 a = (1 + c, 0) ∧ (xfk c k = 0 ∨ (xfk c k = 1 ∧ (x = 0 ∨ x = 1))) ∧ ((xT c k).2.2.2 = false ∨ ((xmy i).name = "<init>" ∧ xmo i = c ∧ n = false)) then xgo (pc + 3) L S (h.1, h.2.1, xup2 h.2.2.1 a k x, h.2.2.2.1, h.2.2.2.2) else none
      | none => none
    | .ref q :: .ref a :: S => match xlk xFL (xmo i) idx with
      | some (c, k, n, _) => if h.1 a = (1 + c, 0) ∧ xfk c k = 2 ∧ ((xT c k).2.2.2 = false ∨ ((xmy i).name = "<init>" ∧ xmo i = c ∧ n = false)) then xgo (pc + 3) L S (h.1, h.2.1, h.2.2.1, h.2.2.2.1, xup2 h.2.2.2.2 a k (some q)) else none
      | none => none
    | _ => none
  | .invokestatic idx => match xlk xCL (xmo i) idx with
    | some (j, 0, _) => xinv j pc S
    | _ => none
  | .invokevirtual idx => match xlk xCL (xmo i) idx with
    | some (j, 1, _) => if xrcv j h (S.drop (xmn j - 1)) = true then xinv j pc S else none
    | _ => none
  | .invokespecial idx => match xlk xCL (xmo i) idx with
    | some (j, 2, _) => if xrcv j h (S.drop (xmn j - 1)) = true then xinv j pc S else none
    | some _ => none
    | none => match xlk xOL (xmo i) idx, S with
      | some _, .ref _ :: S => if 1 ≤ d ∧ S.length ≤ 4 then xgo (pc + 3) L S h else none
      | _, _ => none
  | .new idx => match xlk xKL (xmo i) idx with
    | some (c, _) => if c < 8 then xgo (pc + 3) L (.ref h.2.1.1 :: S) (xnew h (1 + c, 0) (xN c)) else if c < 11 then xthr d i pc c S h else none
    | none => none
  | .newarray ty => match S with
    | .int x :: S => if x < 0 ∨ 1000 < x.toNatClampNeg then none else match ty with
      | .int => xgo (pc + 2) L (.ref h.2.1.1 :: S) (xnew h (32, x.toNatClampNeg) x.toNatClampNeg)
      | .boolean => xgo (pc + 2) L (.ref h.2.1.1 :: S) (xnew h (33, x.toNatClampNeg) x.toNatClampNeg)
      | .long => xgo (pc + 2) L (.ref h.2.1.1 :: S) (xnew h (34, x.toNatClampNeg) x.toNatClampNeg)
      | _ => none
    | _ => none
  | .anewarray idx => match S with
    | .int x :: S => match xlk xKL (xmo i) idx with
      | some (c, _) => if x < 0 ∨ 1000 < x.toNatClampNeg ∨ 4 ≤ c then none else xgo (pc + 3) L (.ref h.2.1.1 :: S) (xnew h (40 + c, x.toNatClampNeg) x.toNatClampNeg)
      | none => none
    | _ => none
  | .arraylength => match S with
    | .ref a :: S => if (32 ≤ (h.1 a).1 ∧ (h.1 a).1 < 35) ∨ (40 ≤ (h.1 a).1 ∧ (h.1 a).1 < 44) then xgo (pc + 1) L (.int (Int32.ofNat (h.1 a).2) :: S) h else none
    | .retAddr _ :: S => xgo (pc + 1) L (.int (Int32.ofNat sc.1) :: S) h
    | _ => none
  | .iaload => match S with
    | .int x :: .ref a :: S => if (h.1 a).1 = 32 ∧ ¬ x < 0 ∧ x.toNatClampNeg < (h.1 a).2 then xgo (pc + 1) L (.int (h.2.2.1 a x.toNatClampNeg) :: S) h else none
    | .int x :: .retAddr _ :: S => if ¬ x < 0 ∧ x.toNatClampNeg < sc.1 then xgo (pc + 1) L (.int (sc.2 x.toNatClampNeg) :: S) h else none
    | _ => none
  | .baload => match S with
    | .int x :: .ref a :: S => if (h.1 a).1 = 33 ∧ ¬ x < 0 ∧ x.toNatClampNeg < (h.1 a).2 then xgo (pc + 1) L (.int (h.2.2.1 a x.toNatClampNeg) :: S) h else none
    | _ => none
  | .laload => match S with
    | .int x :: .ref a :: S => if (h.1 a).1 = 34 ∧ ¬ x < 0 ∧ x.toNatClampNeg < (h.1 a).2 then xgo (pc + 1) L (.long (h.2.2.2.1 a x.toNatClampNeg) :: S) h else none
    | _ => none
  | .aaload => match S with
    | .int x :: .ref a :: S => if 40 ≤ (h.1 a).1 ∧ (h.1 a).1 < 44 ∧ ¬ x < 0 ∧ x.toNatClampNeg < (h.1 a).2 then xgo (pc + 1) L (va_rf (h.2.2.2.2 a x.toNatClampNeg) :: S) h else none
    | _ => none
  | .iastore => match S with
    | .int v :: .int x :: .ref a :: S => if (h.1 a).1 = 32 ∧ ¬ x < 0 ∧ x.toNatClampNeg < (h.1 a).2 then xgo (pc + 1) L S (h.1, h.2.1, xup2 h.2.2.1 a x.toNatClampNeg v, h.2.2.2.1, h.2.2.2.2) else none
    | _ => none
  | .bastore => match S with
    | .int v :: .int x :: .ref a :: S => if (h.1 a).1 = 33 ∧ ¬ x < 0 ∧ x.toNatClampNeg < (h.1 a).2 ∧ (v = 0 ∨ v = 1) then xgo (pc + 1) L S (h.1, h.2.1, xup2 h.2.2.1 a x.toNatClampNeg v, h.2.2.2.1, h.2.2.2.2) else none
    | _ => none
  | .lastore => match S with
    | .long v :: .int x :: .ref a :: S => if (h.1 a).1 = 34 ∧ ¬ x < 0 ∧ x.toNatClampNeg < (h.1 a).2 then xgo (pc + 1) L S (h.1, h.2.1, h.2.2.1, xup2 h.2.2.2.1 a x.toNatClampNeg v, h.2.2.2.2) else none
    | _ => none
  | .aastore => match S with
    | .ref q :: .int x :: .ref a :: S => if 40 ≤ (h.1 a).1 ∧ (h.1 a).1 < 44 ∧ ¬ x < 0 ∧ x.toNatClampNeg < (h.1 a).2 ∧ q < h.2.1.1 ∧ h.1 q = ((h.1 a).1 - 39, 0) then xgo (pc + 1) L S (h.1, h.2.1, h.2.2.1, h.2.2.2.1, xup2 h.2.2.2.2 a x.toNatClampNeg (some q)) else none
    | _ => none
  | _ => none
/-- where a thrown e is caught: behind the handler's astore; which local that takes -/
def xhan (i pc e : Nat) : List (Nat × Nat × Nat × Nat) → Option (Nat × Nat)
  | [] => none
  | (a, b, t, c) :: r => if a ≤ pc ∧ pc < b then (match xlk xKL (xmo i) c with
      | some (e', _) => if e' = e then (match xft i t with
          | some (.astore_n k) => some (t + 1, k.val)
          | some (.astore k) => some (t + 2, k)
          | _ => none) else if 8 ≤ e' ∧ e' < 11 then xhan i pc e r else none
      | none => none) else none
abbrev xC1 : Type := Nat → List Value → xH → xR
abbrev xK1 : Type := Nat → xL → List Value → xH → xR
/-- behind a call -/
def xret (i : Nat) (k : xK1) (pc pc' : Nat) (L : xL) (S : List Value) : xR → xR
  | none => none
  | some (.inl none, h) => k pc' L S h
  | some (.inl (some v), h) => k pc' L (v :: S) h
  | some (.inr e, h) => if xmh i = [] then some (.inr e, h) else match xhan i pc e (xmh i) with
    | some (t, n) => if n < L.length then k t (L.set n none) [] h else none
    | none => none
def xdo (i : Nat) (call : xC1) (k : xK1) (pc : Nat) (L : xL) (h : xH) : xA → xR
  | none => none
  | some (.inl (pc', L', S', h')) => k pc' L' S' h'
  | some (.inr (.inl r)) => some r
  | some (.inr (.inr (j, as, pc', S'))) => xret i k pc pc' L S' (call j as h)
def xrun (sc : xS) (d i : Nat) (call : xC1) : Nat → xK1
  | 0 => fun _ _ _ _ => none
  | F + 1 => fun pc L S h => match xft i pc with
    | none => none
    | some ins => xdo i call (xrun sc d i call F) pc L h (xact sc d i ins pc L S h)
def xent (j : Nat) (as : List Value) : xL := as.map some ++ List.replicate (xml j - as.length) none
def xcall (sc : xS) : Nat → Nat → xC1
  | 0, _ => fun _ _ _ => none
  | d + 1, F => fun j as h => if j < xMs.length ∧ as.length = xmn j ∧ as.all xcat1 = true ∧ as.length ≤ xml j then xrun sc d j (xcall sc d F) F 0 (xent j as) [] h else none
/-! more fuel -/
theorem xret_mono {i : Nat} {k k' : xK1} {pc pc' : Nat} {L : xL} {S : List Value} {r r' : xR} (hk : ∀ pc L S h o, k pc L S h = some o → k' pc L S h = some o) (hr : ∀ o, r = some o → r' = some o) {o : xO × xH} (h : xret i k pc pc' L S r = some o) : xret i k' pc pc' L S r' = some o := by
  cases r with
  | none => cases h
  | some q =>
    rw [hr q rfl]
    obtain ⟨q1, q2⟩ := q
    cases q1 with
    | inl v => cases v with
      | none => exact hk _ _ _ _ _ h
      | some v => exact hk _ _ _ _ _ h
    | inr e =>
      simp only [xret] at h ⊢
      split
      · next h1 => rw [if_pos h1] at h; exact h
      · next h1 =>
        rw [if_neg h1] at h
        revert h
        cases xhan i pc e (xmh i) with
        | none => intro h; cases h
        | some q =>
          intro h
          simp only at h ⊢
          split
          · next h2 => rw [if_pos h2] at h; exact hk _ _ _ _ _ h
          · next h2 => rw [if_neg h2] at h; cases h
theorem xdo_mono {i : Nat} {c c' : xC1} {k k' : xK1} {pc : Nat} {L : xL} {h0 : xH} {A : xA} (hk : ∀ pc L S h o, k pc L S h = some o → k' pc L S h = some o) (hc : ∀ j as h o, c j as h = some o → c' j as h = some o) {o : xO × xH} (h : xdo i c k pc L h0 A = some o) : xdo i c' k' pc L h0 A = some o := by
  match A, h with
  | some (.inl (pc', L', S', h')), h => exact hk _ _ _ _ _ h
  | some (.inr (.inl r)), h => exact h
  | some (.inr (.inr (j, as, pc', S'))), h => exact xret_mono hk (fun o h => hc _ _ _ _ h) h
theorem xrun_mono {sc : xS} {d i : Nat} {c c' : xC1} (hc : ∀ j as h o, c j as h = some o → c' j as h = some o) : ∀ (F F' : Nat), F ≤ F' → ∀ pc L S h o, xrun sc d i c F pc L S h = some o → xrun sc d i c' F' pc L S h = some o
  | 0, _, _, _, _, _, _, _, h => by cases h
  | F + 1, 0, hF, _, _, _, _, _, _ => by omega
  | F + 1, F' + 1, hF, pc, L, S, h, o, hh => by
    simp only [xrun] at hh ⊢
    cases hx : xft i pc with
    | none => rw [hx] at hh; cases hh
    | some ins =>
      rw [hx] at hh
      exact xdo_mono (fun pc L S h o q => xrun_mono hc F F' (by omega) pc L S h o q) hc hh
theorem xcall_0 {sc : xS} {F j : Nat} {as : List Value} {h : xH} : xcall sc 0 F j as h = none := by unfold xcall; rfl
theorem xcall_s {sc : xS} {d F j : Nat} {as : List Value} {h : xH} : xcall sc (d + 1) F j as h = if j < xMs.length ∧ as.length = xmn j ∧ as.all xcat1 = true ∧ as.length ≤ xml j then xrun sc d j (xcall sc d F) F 0 (xent j as) [] h else none := by
  conv => lhs; unfold xcall
theorem xcall_mono {sc : xS} (d : Nat) : ∀ (F F' : Nat), F ≤ F' → ∀ j as h o, xcall sc d F j as h = some o → xcall sc d F' j as h = some o := by
  induction d with
  | zero =>
    intro F F' hF j as h o hh
    rw [xcall_0] at hh
    cases hh
  | succ d ih =>
    intro F F' hF j as h o hh
    rw [xcall_s] at hh ⊢
    split
    · next h1 =>
      rw [if_pos h1] at hh
      exact xrun_mono (fun j as h o q => ih F F' hF j as h o q) F F' hF _ _ _ _ _ hh
    · next h1 => rw [if_neg h1] at hh; cases hh
/-! the limit -/
noncomputable def X (sc : xS) (d j : Nat) (as : List Value) (h : xH) : xR :=
  @dite _ (∃ q : Nat × (xO × xH), xcall sc d q.1 j as h = some q.2) (Classical.propDecidable _) (fun p => some (Classical.choose p).2) (fun _ => none)
noncomputable def XR (sc : xS) (d i : Nat) : xK1 := fun pc L S h =>
  @dite _ (∃ q : Nat × (xO × xH), xrun sc d i (xcall sc d q.1) q.1 pc L S h = some q.2) (Classical.propDecidable _) (fun p => some (Classical.choose p).2) (fun _ => none)
theorem X_iff {sc : xS} {d j : Nat} {as : List Value} {h : xH} {o : xO × xH} : X sc d j as h = some o ↔ ∃ F, xcall sc d F j as h = some o := by
  unfold X
  by_cases p : ∃ q : Nat × (xO × xH), xcall sc d q.1 j as h = some q.2
  · rw [dif_pos p]
    constructor
    · intro e
      cases e
      exact ⟨_, Classical.choose_spec p⟩
    · rintro ⟨F, hF⟩
      have h1 := xcall_mono d _ (max F (Classical.choose p).1) (Nat.le_max_left _ _) j as h o hF
      have h2 := xcall_mono d _ (max F (Classical.choose p).1) (Nat.le_max_right _ _) j as h _ (Classical.choose_spec p)
      exact h2.symm.trans h1
  · rw [dif_neg p]
    constructor
    · intro e; cases e
    · rintro ⟨F, hF⟩
      exact absurd ⟨(F, o), hF⟩ p
theorem XR_iff {sc : xS} {d i pc : Nat} {L : xL} {S : List Value} {h : xH} {o : xO × xH} : XR sc d i pc L S h = some o ↔ ∃ F, xrun sc d i (xcall sc d F) F pc L S h = some o := by
  have mono : ∀ F F', F ≤ F' → ∀ o, xrun sc d i (xcall sc d F) F pc L S h = some o → xrun sc d i (xcall sc d F') F' pc L S h = some o :=
    fun F F' hF o q => xrun_mono (fun j as h o q => xcall_mono d F F' hF j as h o q) F F' hF pc L S h o q
  unfold XR
  by_cases p : ∃ q : Nat × (xO × xH), xrun sc d i (xcall sc d q.1) q.1 pc L S h = some q.2
  · rw [dif_pos p]
    constructor
    · intro e
      cases e
      exact ⟨_, Classical.choose_spec p⟩
    · rintro ⟨F, hF⟩
      have h1 := mono _ (max F (Classical.choose p).1) (Nat.le_max_left _ _) o hF
      have h2 := mono _ (max F (Classical.choose p).1) (Nat.le_max_right _ _) _ (Classical.choose_spec p)
      exact h2.symm.trans h1
  · rw [dif_neg p]
    constructor
    · intro e; cases e
    · rintro ⟨F, hF⟩
      exact absurd ⟨(F, o), hF⟩ p
theorem xO_ext {α : Type} {a b : Option α} (h : ∀ o, a = some o ↔ b = some o) : a = b := by
  cases a with
  | none =>
    cases b with
    | none => rfl
    | some y => exact ((h y).mpr rfl)
  | some x => exact ((h x).mp rfl).symm
theorem xdo_fin {sc : xS} {d i pc : Nat} {L : xL} {h0 : xH} {A : xA} {o : xO × xH} (h : xdo i (X sc d) (XR sc d i) pc L h0 A = some o) : ∃ F, xdo i (xcall sc d F) (xrun sc d i (xcall sc d F) F) pc L h0 A = some o := by
  match A, h with
  | some (.inl (pc', L', S', h')), h => exact XR_iff.mp h
  | some (.inr (.inl r)), h => exact ⟨0, h⟩
  | some (.inr (.inr (j, as, pc', S'))), h =>
    simp only [xdo] at h ⊢
    cases hc : X sc d j as h0 with
    | none => rw [hc] at h; cases h
    | some q =>
      rw [hc] at h
      obtain ⟨F1, h1⟩ := X_iff.mp hc
      have key : ∃ F2, xret i (xrun sc d i (xcall sc d F2) F2) pc pc' L S' (some q) = some o := by
        obtain ⟨q1, q2⟩ := q
        cases q1 with
        | inl v => cases v with
          | none => exact XR_iff.mp h
          | some v => exact XR_iff.mp h
        | inr e =>
          simp only [xret] at h ⊢
          split at h
          · next hh => exact ⟨0, by rw [if_pos hh]; exact h⟩
          · next hh =>
            simp only [if_neg hh]
            revert h
            cases xhan i pc e (xmh i) with
            | none => intro h; cases h
            | some z =>
              intro h
              simp only at h ⊢
              split at h
              · next h2 => simp only [if_pos h2]; exact XR_iff.mp h
              · cases h
      obtain ⟨F2, h2⟩ := key
      refine ⟨max F1 F2, xret_mono (fun pc L S h o q => xrun_mono (fun j as h o q => xcall_mono d F2 _ (Nat.le_max_right _ _) j as h o q) F2 _ (Nat.le_max_right _ _) pc L S h o q) (fun o ho => ?_) h2⟩
      cases ho
      exact xcall_mono d F1 _ (Nat.le_max_left _ _) j as h0 q h1
/-- one step -/
theorem XR_eq {sc : xS} {d i pc : Nat} {L : xL} {S : List Value} {h : xH} {ins : Instr} (hf : xft i pc = some ins) : XR sc d i pc L S h = xdo i (X sc d) (XR sc d i) pc L h (xact sc d i ins pc L S h) := by
  refine xO_ext fun o => ⟨fun h1 => ?_, fun h1 => ?_⟩
  · obtain ⟨F, hF⟩ := XR_iff.mp h1
    cases F with
    | zero => cases hF
    | succ F =>
      simp only [xrun, hf] at hF
      exact xdo_mono (fun pc L S h o q => XR_iff.mpr ⟨F + 1, xrun_mono (fun _ _ _ _ q => q) F (F + 1) (Nat.le_succ F) pc L S h o q⟩) (fun j as h o q => X_iff.mpr ⟨F + 1, q⟩) hF
  · obtain ⟨F, hF⟩ := xdo_fin h1
    refine XR_iff.mpr ⟨F + 1, ?_⟩
    simp only [xrun, hf]
    exact xdo_mono (fun pc L S h o q => xrun_mono (fun j as h o q => xcall_mono d F _ (Nat.le_succ F) j as h o q) F F (Nat.le_refl F) pc L S h o q) (fun j as h o q => xcall_mono d F _ (Nat.le_succ F) j as h o q) hF
/-- a call -/
theorem X_eq {sc : xS} {d j : Nat} {as : List Value} {h : xH} (hj : j < xMs.length ∧ as.length = xmn j ∧ as.all xcat1 = true ∧ as.length ≤ xml j) : X sc (d + 1) j as h = XR sc d j 0 (xent j as) [] h := by
  refine xO_ext fun o => ?_
  rw [X_iff, XR_iff]
  simp only [xcall_s, if_pos hj]
end
section
/-! the tables are right: links stand among the words, methods are as the words have them -/
theorem xlk_mem {β : Type} {v : β} : ∀ {l : List ((Nat × Nat) × β)} {o i : Nat}, xlk l o i = some v → ((o, i), v) ∈ l
  | [], _, _, h => by cases h
  | (k, w) :: r, o, i, h => by
    simp only [xlk] at h
    split at h
    · next e =>
      cases h
      obtain ⟨a, b⟩ := k
      obtain ⟨e1, e2⟩ := e
      simp only at e1 e2
      subst e1; subst e2
      exact List.mem_cons_self
    · exact List.mem_cons_of_mem _ (xlk_mem h)
def xG0 : List Cond := lw_tbl.filter goodWord
theorem xG0_of {w : Cond} {i : Nat} (h : lw_tbl[i]? = some w) (g : goodWord w = true) : w ∈ xG0 := List.mem_filter.mpr ⟨List.mem_of_getElem? h, g⟩
def xlkF (o i : Nat) (e : Nat × Nat × Bool × Nat) : Cond := if e.2.2.1 = true then .fieldLinkNest (xC o) i (xT e.1 e.2.1).1 (xT e.1 e.2.1).2.1 (xT e.1 e.2.1).2.2.1 "Saddletree" else .fieldLink (xC o) i (xT e.1 e.2.1).1 (xT e.1 e.2.1).2.1 (xT e.1 e.2.1).2.2.1
def xwAt (i : Nat) (w : Cond) : Bool := decide (lw_tbl[i]? = some w)
set_option maxRecDepth 100000 in
theorem xFL_ok : xFL.all (fun e => decide (e.2.1 < 8 ∧ e.2.2.1 < xN e.2.1) && xwAt e.2.2.2.2 (xlkF e.1.1 e.1.2 e.2)) = true := by decide +kernel
set_option maxRecDepth 100000 in
theorem xFL_good : xFL.all (fun e => e.2.2.2.1 || goodWord (xlkF e.1.1 e.1.2 e.2)) = true := by decide +kernel
set_option maxRecDepth 100000 in
theorem xY_ok : (List.range 8).all (fun c => (List.range (xN c)).all fun k => decide (parseFieldDescriptor (xT c k).2.2.1 = some (xY c k)) && (List.range (xN c)).all fun k2 => decide (k = k2 ∨ (xT c k).2.1 ≠ (xT c k2).2.1)) = true := by decide +kernel
set_option maxRecDepth 100000 in
theorem xY_own : (List.range 8).all (fun c => (List.range (xN c)).all fun k => decide ((xT c k).1 = xC c)) = true := by decide +kernel
set_option maxRecDepth 100000 in
theorem xUW_ok : (List.range 8).all (fun c => (u_ws (xC c) (xT c) (xN c)).all fun w => decide (w ∈ lw_tbl) && goodWord w) = true := by decide +kernel
/-- a called method, by its place in the table of calls -/
def xCLt (e : (Nat × Nat) × (Nat × Nat × Nat × Nat × Nat)) : Bool :=
  xwAt e.2.2.2.1 (.methodLink (xC e.1.1) e.1.2 (xmy e.2.1)) &&
  (match e.2.2.1 with
    | 0 => xwAt e.2.2.2.2.1 (.static (xmy e.2.1)) && xms e.2.1
    | 1 => xwAt e.2.2.2.2.1 (.instanceMethod (xmy e.2.1)) && xwAt e.2.2.2.2.2 (.selects (xC (xmo e.2.1)) (xmy e.2.1) (xmy e.2.1)) && !xms e.2.1
    | 2 => xwAt e.2.2.2.2.1 (.instanceMethod (xmy e.2.1)) && !xms e.2.1 && decide ((xmy e.2.1).name = "<init>" ∧ xmr e.2.1 = none ∧ xmh e.2.1 = [])
    | _ => false)
set_option maxRecDepth 100000 in
theorem xCL_ok : xCL.all xCLt = true := by decide +kernel
/-- a method's head, as it must be -/
def xhdt (j : Nat) : Bool := (match xhd j with
    | .code _ _ m _ => decide (m = xml j)
    | .codeWith _ _ m _ h => decide (m = xml j ∧ h ≠ [])
    | _ => false) && goodWord (xhd j)
set_option maxRecDepth 100000 in
theorem xhd_ok : (List.range xMs.length).all xhdt = true := by decide +kernel
/-- of a called method: its class, its arguments, its locals -/
def xMt (j : Nat) : Bool :=
  decide ((xmy j).cls = xC (xmo j)) && plainFor (xmy j) && decide (xml j ≤ 15) && decide ((xmy j).cls ≠ "java/lang/invoke/MethodHandle" ∧ (xmy j).cls ≠ "java/lang/invoke/VarHandle") &&
  decide ((parseMethodDescriptor (xmy j).desc).map (fun q => q.parameters.length) = some (if xms j = true then xmn j else xmn j - 1)) && decide (xms j = true ∨ 1 ≤ xmn j) && decide (.initialized (xC (xmo j)) ∈ lw_tbl)
set_option maxRecDepth 100000 in
theorem xMt_ok : (List.range xMs.length).all xMt = true := by decide +kernel
set_option maxRecDepth 100000 in
theorem xCL_lt : xCL.all (fun e => decide (e.2.1 < xMs.length ∧ (xMs.getD e.2.1 (100000, 0, 0, 0, false)).1 < lw_tbl.length)) = true := by decide +kernel
set_option maxRecDepth 100000 in
theorem xOL_ok : xOL.all (fun e => xwAt e.2 (.methodLink (xC e.1.1) e.1.2 Lib.objectInit) && goodWord (.methodLink (xC e.1.1) e.1.2 Lib.objectInit)) = true := by decide +kernel
set_option maxRecDepth 100000 in
theorem xOW_ok : (decide (.instanceMethod Lib.objectInit ∈ lw_tbl) && decide (.code Lib.objectInit ⟨#[0xb1]⟩ 1 none ∈ lw_tbl) && goodWord (.instanceMethod Lib.objectInit) && goodWord (.code Lib.objectInit ⟨#[0xb1]⟩ 1 none)) = true := by decide +kernel
set_option maxRecDepth 100000 in
theorem xKL_ok : xKL.all (fun e => xwAt e.2.2 (.classLink (xC e.1.1) e.1.2 (xC e.2.1)) && goodWord (.classLink (xC e.1.1) e.1.2 (xC e.2.1))) = true := by decide +kernel
set_option maxRecDepth 100000 in
theorem xNW_ok : (List.range 8).all (fun c => decide (.instantiable (xC c) (xN c) ∈ lw_tbl) && decide (.initialized (xC c) ∈ lw_tbl) && goodWord (.instantiable (xC c) (xN c)) && goodWord (.initialized (xC c))) = true := by decide +kernel
set_option maxRecDepth 100000 in
theorem xAW_ok : (decide (.arrayClass .int ∈ lw_tbl) && decide (.arrayClass .boolean ∈ lw_tbl) && decide (.arrayClass .long ∈ lw_tbl)) = true := by decide +kernel
set_option maxRecDepth 100000 in
theorem xIC_ok : (xIC.all (fun e => xwAt e.2.2 (.constant (xC e.1.1) e.1.2 e.2.1)) && xJC.all (fun e => xwAt e.2.2 (.constantLong (xC e.1.1) e.1.2 e.2.1))) = true := by decide +kernel
/-- words that no list carries -/
def xnwW : Cond → Bool
  | .fieldLinkNest _ _ _ _ _ _ => true
  | .castable _ _ => true
  | .declares _ => true
  | _ => false
def xNW : List Cond := lw_tbl.filter xnwW
/-- the throwing of exceptions -/
def xEx : List String := ["java/lang/RuntimeException", "java/lang/Exception"]
set_option maxRecDepth 100000 in
theorem xIL_ok : xIL.all (fun e => decide (8 ≤ e.2 ∧ e.2 < 11) && (vx_atS (xC e.1.1) e.1.2 (xC e.2) xEx).all (fun w => vx_ot w && ((decide (w ∈ lw_tbl) && goodWord w) || decide (w ∈ xNW)))) = true := by decide +kernel
set_option maxRecDepth 100000 in
theorem xEW_ok : (List.range 11).all (fun c => decide (c < 8) || (decide (.initialized (xC c) ∈ lw_tbl) && goodWord (.initialized (xC c)) && Bundle.fit (xC c) && decide (.castable (xC c) (xC c) ∈ lw_tbl))) = true := by decide +kernel
set_option maxRecDepth 100000 in
theorem xfk_ok : (List.range 8).all (fun c => (List.range (xN c)).all fun k => match xY c k with
  | .int => true
  | .boolean => true
  | .object _ => true
  | .array _ => true
  | _ => false) = true := by decide +kernel
end
section
/-! how the pure state stands for the machine's -/
def xtr (base b : Nat) : Value → Value
  | .ref k => .ref (base + k)
  | .retAddr _ => .ref b
  | v => v
def xfld (base : Nat) (h : xH) (a c : Nat) : List Value := (List.range (xN c)).map (fun k => if xfk c k = 2 then va_rf ((h.2.2.2.2 a k).map (fun q => base + q)) else .int (h.2.2.1 a k))
def xcell (dA : Nat → ClassId) (base : Nat) (h : xH) (a : Nat) : va_E :=
  if (h.1 a).1 = 32 then .inl (dA 0, (h.1 a).2, .inl (h.2.2.1 a))
  else if (h.1 a).1 = 33 then .inl (dA 1, (h.1 a).2, .inl (h.2.2.1 a))
  else if (h.1 a).1 = 34 then .inl (dA 2, (h.1 a).2, .inr (.inl (h.2.2.2.1 a)))
  else if 40 ≤ (h.1 a).1 then .inl (dA ((h.1 a).1 - 37), (h.1 a).2, .inr (.inr (.inr (.inr (fun j => (h.2.2.2.2 a j).map (fun q => base + q))))))
  else .inr ((h.1 a).1 - 1, xfld base h a ((h.1 a).1 - 1))
def xws (dA : Nat → ClassId) (base : Nat) (h : xH) : va_W := (List.range h.2.1.1).map (fun a => (base + a, xcell dA base h a))
def xcl : List vw_C := (List.range 11).map (fun c => (xC c, xT c, xN c))
def xAt : Nat → FieldType
  | 0 => .int
  | 1 => .boolean
  | 2 => .long
  | n + 3 => .object (xC n)
def xty (dA : Nat → ClassId) : List (ClassId × FieldType) := (List.range 7).map (fun t => (dA t, xAt t))
def xAA (base : Nat) : Nat → Prop := fun q => base ≤ q
theorem xws_get {dA : Nat → ClassId} {base : Nat} {h : xH} {a : Nat} (ha : a < h.2.1.1) : (xws dA base h)[a]? = some (base + a, xcell dA base h a) := by
  simp [xws, ha]
theorem xws_len {dA : Nat → ClassId} {base : Nat} {h : xH} : (xws dA base h).length = h.2.1.1 := by simp [xws]
theorem xcl_get {c : Nat} (hc : c < 11) : xcl[c]? = some (xC c, xT c, xN c) := by simp [xcl, hc]
theorem xty_get {dA : Nat → ClassId} {t : Nat} (ht : t < 7) : (xty dA)[t]? = some (dA t, xAt t) := by simp [xty, ht]
theorem xws_set {dA : Nat → ClassId} {base : Nat} {h h' : xH} {a : Nat} (hn : h'.2.1.1 = h.2.1.1) (ho : ∀ q, q ≠ a → xcell dA base h' q = xcell dA base h q) : (xws dA base h).set a (base + a, xcell dA base h' a) = xws dA base h' := by
  refine List.ext_getElem? fun i => ?_
  rw [List.getElem?_set]
  by_cases hi : i < h.2.1.1
  · by_cases e : a = i
    · subst e
      rw [if_pos rfl, if_pos (by rw [xws_len]; exact hi), xws_get (by rw [hn]; exact hi)]
    · rw [if_neg e, xws_get hi, xws_get (by rw [hn]; exact hi), ho i (fun q => e q.symm)]
  · have h1 : (xws dA base h)[i]? = none := by rw [List.getElem?_eq_none_iff, xws_len]; omega
    have h2 : (xws dA base h')[i]? = none := by rw [List.getElem?_eq_none_iff, xws_len]; omega
    by_cases e : a = i
    · subst e
      rw [if_pos rfl, if_neg (by rw [xws_len]; exact hi), h2]
    · rw [if_neg e, h1, h2]
theorem xws_push {dA : Nat → ClassId} {base : Nat} {h h' : xH} (hn : h'.2.1.1 = h.2.1.1 + 1) (ho : ∀ q, q < h.2.1.1 → xcell dA base h' q = xcell dA base h q) : xws dA base h ++ [(base + h.2.1.1, xcell dA base h' h.2.1.1)] = xws dA base h' := by
  refine List.ext_getElem? fun i => ?_
  by_cases hi : i < h.2.1.1
  · rw [List.getElem?_append_left (by rw [xws_len]; exact hi), xws_get hi, xws_get (by omega), ho i hi]
  · rw [List.getElem?_append_right (by rw [xws_len]; omega), xws_len]
    by_cases e : i = h.2.1.1
    · subst e
      rw [Nat.sub_self, xws_get (by omega)]
      rfl
    · have h2 : (xws dA base h')[i]? = none := by rw [List.getElem?_eq_none_iff, xws_len]; omega
      rw [h2, List.getElem?_eq_none_iff]
      show 1 ≤ _
      omega
theorem xws_D {dA : Nat → ClassId} {base : Nat} {h : xH} : va_D (xAA base) (xws dA base h) := by
  have key : ∀ (k : Nat) (q : Nat × va_E), (xws dA base h)[k]? = some q → q.1 = base + k := by
    intro k q hk
    have hl : k < h.2.1.1 := by
      have := (List.getElem?_eq_some_iff.mp hk).1
      rwa [xws_len] at this
    rw [xws_get hl] at hk
    cases hk
    rfl
  refine ⟨fun i j x y hi hj hxy => ?_, fun k q hk => ?_⟩
  · have h1 := key i x hi
    have h2 := key j y hj
    omega
  · show base ≤ q.1
    rw [key k q hk]
    omega
/-- cells that one write leaves -/
theorem xcell_I {dA : Nat → ClassId} {base : Nat} {h : xH} {a k : Nat} {v : Int32} {q : Nat} (hq : q ≠ a) : xcell dA base (h.1, h.2.1, xup2 h.2.2.1 a k v, h.2.2.2.1, h.2.2.2.2) q = xcell dA base h q := by
  have e : xup2 h.2.2.1 a k v q = h.2.2.1 q := by funext j; simp [xup2, hq]
  simp only [xcell, xfld, e]
theorem xcell_J {dA : Nat → ClassId} {base : Nat} {h : xH} {a k : Nat} {v : Int64} {q : Nat} (hq : q ≠ a) : xcell dA base (h.1, h.2.1, h.2.2.1, xup2 h.2.2.2.1 a k v, h.2.2.2.2) q = xcell dA base h q := by
  have e : xup2 h.2.2.2.1 a k v q = h.2.2.2.1 q := by funext j; simp [xup2, hq]
  simp only [xcell, xfld, e]
theorem xcell_R {dA : Nat → ClassId} {base : Nat} {h : xH} {a k : Nat} {v : Option Nat} {q : Nat} (hq : q ≠ a) : xcell dA base (h.1, h.2.1, h.2.2.1, h.2.2.2.1, xup2 h.2.2.2.2 a k v) q = xcell dA base h q := by
  have e : xup2 h.2.2.2.2 a k v q = h.2.2.2.2 q := by funext j; simp [xup2, hq]
  simp only [xcell, xfld, e]
theorem xcell_N {dA : Nat → ClassId} {base : Nat} {h : xH} {sh : Nat × Nat} {n q : Nat} (hq : q < h.2.1.1) : xcell dA base (xnew h sh n) q = xcell dA base h q := by
  have hne : q ≠ h.2.1.1 := Nat.ne_of_lt hq
  simp only [xcell, xfld, xnew, va_up, if_neg hne]
/-! the locals -/
def xlst (base b : Nat) (L : xL) : List (Nat × Value) := (List.range L.length).filterMap fun k => match L[k]? with
  | some (some v) => if xcat1 v = true then some (k, xtr base b v) else none
  | _ => none
theorem xlst_mem {base b : Nat} {L : xL} {q : Nat × Value} : q ∈ xlst base b L ↔ ∃ v, L[q.1]? = some (some v) ∧ xcat1 v = true ∧ q.2 = xtr base b v := by
  unfold xlst
  rw [List.mem_filterMap]
  constructor
  · rintro ⟨k, -, h⟩
    split at h
    · next v hv =>
      split at h
      · next hc => cases h; exact ⟨v, hv, hc, rfl⟩
      · cases h
    · cases h
  · rintro ⟨v, hv, hc, e⟩
    have hk : q.1 < L.length := (List.getElem?_eq_some_iff.mp hv).1
    refine ⟨q.1, List.mem_range.mpr hk, ?_⟩
    rw [hv]
    simp only [hc, if_true]
    rw [← e]
theorem xtr_cat {base b : Nat} {v : Value} (h : xcat1 v = true) : (xtr base b v).category = 1 := by
  cases v <;> first | rfl | cases h
theorem xlst_set {base b : Nat} {L : xL} {ls : Array Slot} {n i : Nat} {v : Value} (hc : xcat1 v = true)
    (hl : lv_has ls n ((i, xtr base b v) :: (xlst base b L).filter (fun q => !(q.1 == i) && !(q.1 + 1 == i && q.2.category == 2)))) : lv_has ls n (xlst base b (L.set i (some v))) := by
  refine ⟨hl.1, hl.2.1, fun q hq => hl.2.2 q ?_⟩
  obtain ⟨w, hw, hcw, e⟩ := xlst_mem.mp hq
  rw [List.getElem?_set] at hw
  by_cases hi : i = q.1
  · rw [if_pos hi] at hw
    split at hw
    · cases hw
      have : q = (i, xtr base b v) := by
        obtain ⟨q1, q2⟩ := q
        simp only at hi e
        subst hi; subst e
        rfl
      rw [this]
      exact List.mem_cons_self
    · cases hw
  · rw [if_neg hi] at hw
    refine List.mem_cons_of_mem _ (List.mem_filter.mpr ⟨xlst_mem.mpr ⟨w, hw, hcw, e⟩, ?_⟩)
    rw [e, xtr_cat hcw]
    have : ¬ q.1 = i := fun z => hi z.symm
    simp [this]
theorem xlst_none {base b : Nat} {L : xL} {ls : Array Slot} {n i : Nat} {v : Value} (hl : lv_has ls n ((i, v) :: (xlst base b L).filter (fun q => !(q.1 == i) && !(q.1 + 1 == i && q.2.category == 2)))) : lv_has ls n (xlst base b (L.set i none)) := by
  refine ⟨hl.1, hl.2.1, fun q hq => hl.2.2 q ?_⟩
  obtain ⟨w, hw, hcw, e⟩ := xlst_mem.mp hq
  rw [List.getElem?_set] at hw
  by_cases hi : i = q.1
  · rw [if_pos hi] at hw
    split at hw <;> cases hw
  · rw [if_neg hi] at hw
    refine List.mem_cons_of_mem _ (List.mem_filter.mpr ⟨xlst_mem.mpr ⟨w, hw, hcw, e⟩, ?_⟩)
    rw [e, xtr_cat hcw]
    have : ¬ q.1 = i := fun z => hi z.symm
    simp [this]
/-- what stays all through: the tables, the script, the statics, the texts -/
def xG (D : va_G) (dA : Nat → ClassId) (base b : Nat) (sc : xS) (U : State) : Prop :=
  va_K D xcl (xty dA) U ∧ va_X b sc.1 sc.2 U U.heap ∧ b < base ∧ base ≤ U.heap.size ∧
  vx_Zq Bundle.tN "UNASSIGNED_STACK" Bundle.steD (xAA base) U U.heap ∧ vx_Zq Bundle.tN "SUPPRESSED_SENTINEL" Bundle.listD (xAA base) U U.heap ∧
  (∀ w ∈ xNW, va_Nw w U) ∧ (∀ e f, 8 ≤ e → e < 11 → 8 ≤ f → f < 11 → e ≠ f → va_Nc (xC e) (xC f) U) ∧ (∀ t, t < 4 → va_AO (xC t) U) ∧ ∀ q ∈ xSL, ∃ sa, vk_R (xC q.1.1) q.1.2 q.2 sa U
theorem xNw_warm {w : Cond} {s U : State} (hw : xnwW w = true) (hW : s.WarmedH U.vm) (h : va_Nw w s) : va_Nw w U := by
  cases w with
  | fieldLinkNest a i b n d h9 => exact va_Nw.warmF hW h
  | castable a b => exact va_Nw.warmC hW h
  | declares x => exact va_Nw.warmD hW h
  | _ => cases hw
theorem xG_at {D : va_G} {dA : Nat → ClassId} {base b : Nat} {sc : xS} {s U : State} {H : Heap} {locs : List Loc} (h : xG D dA base b sc s) (hS : va_S (xAA base) s.heap H locs) (hH : U.heap = H) (hW : s.WarmedH U.vm) : xG D dA base b sc U := by
  obtain ⟨h1, h2, h3, h4, h5, h6, h7, h8, h9, h10⟩ := h
  have hb : ¬ xAA base b := Nat.not_le.mpr h3
  have hbs : b < s.heap.size := by omega
  refine ⟨va_K.moved hW.alike h1, ?_, h3, ?_, ?_, ?_, fun w hw => xNw_warm (List.mem_filter.mp hw).2 hW (h7 w hw), fun e f a1 a2 a3 a4 a5 => va_Nc.moved hW.alike (h8 e f a1 a2 a3 a4 a5), fun t ht => va_AO.moved hW.alike (h9 t ht), fun q hq => ?_⟩
  · rw [hH]
    exact va_X.moved hW.alike (va_X.kept h2 (hS.2.1 b hbs hb))
  · rw [hH]
    exact Nat.le_trans h4 hS.1
  · rw [hH]
    exact vx_Zq.moved hW.alike (h5.kept hS.2.1)
  · rw [hH]
    exact vx_Zq.moved hW.alike (h6.kept hS.2.1)
  · obtain ⟨sa, hsa⟩ := h10 q hq
    exact ⟨sa, vk_R.warm hW hsa⟩
/-- the heap -/
def xI (D : va_G) (dA : Nat → ClassId) (base : Nat) (h : xH) (U : State) : Prop := U.heap.size = base + h.2.1.1 ∧ va_P D xcl (xws dA base h) U.heap ∧ ∀ a, h.2.1.1 ≤ a → (h.1 a).1 = 0
/-- a method's run: where it is, what is known -/
def xCtx (p : Program) (D : va_G) (dA : Nat → ClassId) (base b : Nat) (sc : xS) (j : Nat) (s : State) (m : MethodId) (args : Array Value) (meth : Method) (c : Code) : Prop :=
  p.tables.exec = Jvm.exec ∧ c.code = xmc j ∧ meth.sig.returnType = xmr j ∧ c.maxLocals = xml j ∧ s.vm.findClass (xC (xmo j)) = some m.cls ∧ (∀ w ∈ xG0, w.before args s = true) ∧ meth.locks = false ∧ meth.name = (xmy j).name ∧ c.exceptionTable.toList.map (fun h => (h.startPc, h.endPc, h.handlerPc, h.catchType)) = xmh j ∧ xG D dA base b sc s
def xRel (D : va_G) (dA : Nat → ClassId) (base b n0 u0 j : Nat) (s : State) (h : xH) (L : xL) (H : Heap) (locs : List Loc) (ls : Array Slot) : Prop :=
  va_P D xcl (xws dA base h) H ∧ va_S (xAA base) s.heap H locs ∧ L.length = xml j ∧ lv_has ls (xml j) (xlst base b L) ∧ n0 ≤ h.2.1.1 ∧ u0 ≤ h.2.1.2 ∧ ∀ a, h.2.1.1 ≤ a → (h.1 a).1 = 0
/-- the goal of a frame at pc -/
def xW (p : Program) (l : Launch) (e : Env) (R : Room) (s : State) (m : MethodId) (args : Array Value) (below : List Frame) (meth : Method) (c : Code) (Q : State → Prop) (D : va_G) (dA : Nat → ClassId) (base b n0 u0 j pc : Nat) (L : xL) (S : List Value) (h : xH) : Prop :=
  ∀ (H : Heap) (locs : List Loc) (ls : Array Slot), xRel D dA base b n0 u0 j s h L H locs ls → W p l e R s m args below meth c H locs (h.2.1.1 - n0) (h.2.1.2 - u0) Q (F0 m pc ls (S.map (xtr base b)))
/-- how large the heap is follows from the cells that are counted -/
theorem xsz {p : Program} {l : Launch} {e : Env} {R : Room} {s : State} {m : MethodId} {args : Array Value} {below : List Frame} {meth : Method} {c : Code} {Q : State → Prop} {D : va_G} {dA : Nat → ClassId} {base b n0 u0 j slots : Nat} {h : xH} {L : xL} {H : Heap} {locs : List Loc} {ls : Array Slot} {g : JFrame} (h0 : s.heap.size = base + n0) (hR : xRel D dA base b n0 u0 j s h L H locs ls)
    (k : H.size = base + h.2.1.1 → W p l e R s m args below meth c H locs (h.2.1.1 - n0) slots Q g) : W p l e R s m args below meth c H locs (h.2.1.1 - n0) slots Q g := by
  intro T hT X
  have h1 : s.heap.size ≤ T.heap.size := X.same.2.1
  have h2 : T.heap.size ≤ s.heap.size + (h.2.1.1 - n0) := X.same.2.2.1
  have h3 : n0 ≤ h.2.1.1 := hR.2.2.2.2.1
  have h4 : base + h.2.1.1 ≤ H.size := by
    by_cases e : n0 = h.2.1.1
    · rw [← hT]; omega
    · have h5 := (hR.1 (h.2.1.1 - 1) _ (xws_get (by omega))).lt
      have h6 : base + (h.2.1.1 - 1) < H.size := h5
      omega
  exact k (by rw [hT] at h1 h2; omega) T hT X
end
section
/-! one instruction that goes on: the machine does what the pure one does -/
theorem xgo_inj {a a2 : Nat} {L L2 : xL} {S S2 : List Value} {h h2 : xH} (e : xgo a L S h = some (.inl (a2, L2, S2, h2))) : a = a2 ∧ L = L2 ∧ S = S2 ∧ h = h2 := by
  unfold xgo at e
  cases e
  exact ⟨rfl, rfl, rfl, rfl⟩
section XST
variable {p : Program} {l : Launch} {e : Env} {R : Room} {s : State} {m : MethodId} {args : Array Value} {below : List Frame} {meth : Method} {c : Code} {Q : State → Prop} {D : va_G} {dA : Nat → ClassId} {base b n0 u0 j d pc pc' : Nat} {L L' : xL} {S S' : List Value} {h h' : xH} {sc : xS}
theorem xs_iconst {n : Int} (C : xCtx p D dA base b sc j s m args meth c) (hd : decode (xmc j) pc = .ok (.iconst n, 1)) (hA : xact sc d j (.iconst n) pc L S h = some (.inl (pc', L', S', h'))) (kk : xW p l e R s m args below meth c Q D dA base b n0 u0 j (pc') (L') (S') (h')) : xW p l e R s m args below meth c Q D dA base b n0 u0 j (pc) (L) (S) (h) := by
  obtain ⟨hx, hb, hr, hml, hown, hts, hlocks, hnm, htb, hG⟩ := C
  intro H locs ls hR
  simp only [xact] at hA
  obtain ⟨rfl, rfl, rfl, rfl⟩ := xgo_inj hA
  exact lv_iconst hx hb hd rfl (kk H locs ls hR)
theorem xs_bipush {n : Int} (C : xCtx p D dA base b sc j s m args meth c) (hd : decode (xmc j) pc = .ok (.bipush n, 2)) (hA : xact sc d j (.bipush n) pc L S h = some (.inl (pc', L', S', h'))) (kk : xW p l e R s m args below meth c Q D dA base b n0 u0 j (pc') (L') (S') (h')) : xW p l e R s m args below meth c Q D dA base b n0 u0 j (pc) (L) (S) (h) := by
  obtain ⟨hx, hb, hr, hml, hown, hts, hlocks, hnm, htb, hG⟩ := C
  intro H locs ls hR
  simp only [xact] at hA
  obtain ⟨rfl, rfl, rfl, rfl⟩ := xgo_inj hA
  exact lv_bipush hx hb hd rfl (kk H locs ls hR)
theorem xs_sipush {n : Int} (C : xCtx p D dA base b sc j s m args meth c) (hd : decode (xmc j) pc = .ok (.sipush n, 3)) (hA : xact sc d j (.sipush n) pc L S h = some (.inl (pc', L', S', h'))) (kk : xW p l e R s m args below meth c Q D dA base b n0 u0 j (pc') (L') (S') (h')) : xW p l e R s m args below meth c Q D dA base b n0 u0 j (pc) (L) (S) (h) := by
  obtain ⟨hx, hb, hr, hml, hown, hts, hlocks, hnm, htb, hG⟩ := C
  intro H locs ls hR
  simp only [xact] at hA
  obtain ⟨rfl, rfl, rfl, rfl⟩ := xgo_inj hA
  exact lv_sipush hx hb hd rfl (kk H locs ls hR)
theorem xs_lconst {n : Fin 2} (C : xCtx p D dA base b sc j s m args meth c) (hd : decode (xmc j) pc = .ok (.lconst n, 1)) (hA : xact sc d j (.lconst n) pc L S h = some (.inl (pc', L', S', h'))) (kk : xW p l e R s m args below meth c Q D dA base b n0 u0 j (pc') (L') (S') (h')) : xW p l e R s m args below meth c Q D dA base b n0 u0 j (pc) (L) (S) (h) := by
  obtain ⟨hx, hb, hr, hml, hown, hts, hlocks, hnm, htb, hG⟩ := C
  intro H locs ls hR
  simp only [xact] at hA
  obtain ⟨rfl, rfl, rfl, rfl⟩ := xgo_inj hA
  exact lv_lconst hx hb hd rfl (kk H locs ls hR)
theorem xs_null (C : xCtx p D dA base b sc j s m args meth c) (hd : decode (xmc j) pc = .ok (.aconst_null, 1)) (hA : xact sc d j (.aconst_null) pc L S h = some (.inl (pc', L', S', h'))) (kk : xW p l e R s m args below meth c Q D dA base b n0 u0 j (pc') (L') (S') (h')) : xW p l e R s m args below meth c Q D dA base b n0 u0 j (pc) (L) (S) (h) := by
  obtain ⟨hx, hb, hr, hml, hown, hts, hlocks, hnm, htb, hG⟩ := C
  intro H locs ls hR
  simp only [xact] at hA
  obtain ⟨rfl, rfl, rfl, rfl⟩ := xgo_inj hA
  exact lv_null hx hb hd (kk H locs ls hR)
theorem xs_iadd (C : xCtx p D dA base b sc j s m args meth c) (hd : decode (xmc j) pc = .ok (.iadd, 1)) (hA : xact sc d j (.iadd) pc L S h = some (.inl (pc', L', S', h'))) (kk : xW p l e R s m args below meth c Q D dA base b n0 u0 j (pc') (L') (S') (h')) : xW p l e R s m args below meth c Q D dA base b n0 u0 j (pc) (L) (S) (h) := by
  obtain ⟨hx, hb, hr, hml, hown, hts, hlocks, hnm, htb, hG⟩ := C
  intro H locs ls hR
  simp only [xact] at hA
  split at hA
  · obtain ⟨rfl, rfl, rfl, rfl⟩ := xgo_inj hA
    exact lv_iadd hx hb hd (kk H locs ls hR)
  · cases hA
theorem xs_isub (C : xCtx p D dA base b sc j s m args meth c) (hd : decode (xmc j) pc = .ok (.isub, 1)) (hA : xact sc d j (.isub) pc L S h = some (.inl (pc', L', S', h'))) (kk : xW p l e R s m args below meth c Q D dA base b n0 u0 j (pc') (L') (S') (h')) : xW p l e R s m args below meth c Q D dA base b n0 u0 j (pc) (L) (S) (h) := by
  obtain ⟨hx, hb, hr, hml, hown, hts, hlocks, hnm, htb, hG⟩ := C
  intro H locs ls hR
  simp only [xact] at hA
  split at hA
  · obtain ⟨rfl, rfl, rfl, rfl⟩ := xgo_inj hA
    exact lv_isub hx hb hd (kk H locs ls hR)
  · cases hA
theorem xs_imul (C : xCtx p D dA base b sc j s m args meth c) (hd : decode (xmc j) pc = .ok (.imul, 1)) (hA : xact sc d j (.imul) pc L S h = some (.inl (pc', L', S', h'))) (kk : xW p l e R s m args below meth c Q D dA base b n0 u0 j (pc') (L') (S') (h')) : xW p l e R s m args below meth c Q D dA base b n0 u0 j (pc) (L) (S) (h) := by
  obtain ⟨hx, hb, hr, hml, hown, hts, hlocks, hnm, htb, hG⟩ := C
  intro H locs ls hR
  simp only [xact] at hA
  split at hA
  · obtain ⟨rfl, rfl, rfl, rfl⟩ := xgo_inj hA
    exact lv_imul hx hb hd (kk H locs ls hR)
  · cases hA
theorem xs_iand (C : xCtx p D dA base b sc j s m args meth c) (hd : decode (xmc j) pc = .ok (.iand, 1)) (hA : xact sc d j (.iand) pc L S h = some (.inl (pc', L', S', h'))) (kk : xW p l e R s m args below meth c Q D dA base b n0 u0 j (pc') (L') (S') (h')) : xW p l e R s m args below meth c Q D dA base b n0 u0 j (pc) (L) (S) (h) := by
  obtain ⟨hx, hb, hr, hml, hown, hts, hlocks, hnm, htb, hG⟩ := C
  intro H locs ls hR
  simp only [xact] at hA
  split at hA
  · obtain ⟨rfl, rfl, rfl, rfl⟩ := xgo_inj hA
    exact lv_iand hx hb hd (kk H locs ls hR)
  · cases hA
theorem xs_ior (C : xCtx p D dA base b sc j s m args meth c) (hd : decode (xmc j) pc = .ok (.ior, 1)) (hA : xact sc d j (.ior) pc L S h = some (.inl (pc', L', S', h'))) (kk : xW p l e R s m args below meth c Q D dA base b n0 u0 j (pc') (L') (S') (h')) : xW p l e R s m args below meth c Q D dA base b n0 u0 j (pc) (L) (S) (h) := by
  obtain ⟨hx, hb, hr, hml, hown, hts, hlocks, hnm, htb, hG⟩ := C
  intro H locs ls hR
  simp only [xact] at hA
  split at hA
  · obtain ⟨rfl, rfl, rfl, rfl⟩ := xgo_inj hA
    exact lv_ior hx hb hd (kk H locs ls hR)
  · cases hA
theorem xs_ixor (C : xCtx p D dA base b sc j s m args meth c) (hd : decode (xmc j) pc = .ok (.ixor, 1)) (hA : xact sc d j (.ixor) pc L S h = some (.inl (pc', L', S', h'))) (kk : xW p l e R s m args below meth c Q D dA base b n0 u0 j (pc') (L') (S') (h')) : xW p l e R s m args below meth c Q D dA base b n0 u0 j (pc) (L) (S) (h) := by
  obtain ⟨hx, hb, hr, hml, hown, hts, hlocks, hnm, htb, hG⟩ := C
  intro H locs ls hR
  simp only [xact] at hA
  split at hA
  · obtain ⟨rfl, rfl, rfl, rfl⟩ := xgo_inj hA
    exact lv_ixor hx hb hd (kk H locs ls hR)
  · cases hA
theorem xs_ishl (C : xCtx p D dA base b sc j s m args meth c) (hd : decode (xmc j) pc = .ok (.ishl, 1)) (hA : xact sc d j (.ishl) pc L S h = some (.inl (pc', L', S', h'))) (kk : xW p l e R s m args below meth c Q D dA base b n0 u0 j (pc') (L') (S') (h')) : xW p l e R s m args below meth c Q D dA base b n0 u0 j (pc) (L) (S) (h) := by
  obtain ⟨hx, hb, hr, hml, hown, hts, hlocks, hnm, htb, hG⟩ := C
  intro H locs ls hR
  simp only [xact] at hA
  split at hA
  · obtain ⟨rfl, rfl, rfl, rfl⟩ := xgo_inj hA
    exact lv_ishl hx hb hd (kk H locs ls hR)
  · cases hA
theorem xs_ishr (C : xCtx p D dA base b sc j s m args meth c) (hd : decode (xmc j) pc = .ok (.ishr, 1)) (hA : xact sc d j (.ishr) pc L S h = some (.inl (pc', L', S', h'))) (kk : xW p l e R s m args below meth c Q D dA base b n0 u0 j (pc') (L') (S') (h')) : xW p l e R s m args below meth c Q D dA base b n0 u0 j (pc) (L) (S) (h) := by
  obtain ⟨hx, hb, hr, hml, hown, hts, hlocks, hnm, htb, hG⟩ := C
  intro H locs ls hR
  simp only [xact] at hA
  split at hA
  · obtain ⟨rfl, rfl, rfl, rfl⟩ := xgo_inj hA
    exact lv_ishr hx hb hd (kk H locs ls hR)
  · cases hA
theorem xs_land (C : xCtx p D dA base b sc j s m args meth c) (hd : decode (xmc j) pc = .ok (.land, 1)) (hA : xact sc d j (.land) pc L S h = some (.inl (pc', L', S', h'))) (kk : xW p l e R s m args below meth c Q D dA base b n0 u0 j (pc') (L') (S') (h')) : xW p l e R s m args below meth c Q D dA base b n0 u0 j (pc) (L) (S) (h) := by
  obtain ⟨hx, hb, hr, hml, hown, hts, hlocks, hnm, htb, hG⟩ := C
  intro H locs ls hR
  simp only [xact] at hA
  split at hA
  · obtain ⟨rfl, rfl, rfl, rfl⟩ := xgo_inj hA
    exact lv_land hx hb hd (kk H locs ls hR)
  · cases hA
theorem xs_lor (C : xCtx p D dA base b sc j s m args meth c) (hd : decode (xmc j) pc = .ok (.lor, 1)) (hA : xact sc d j (.lor) pc L S h = some (.inl (pc', L', S', h'))) (kk : xW p l e R s m args below meth c Q D dA base b n0 u0 j (pc') (L') (S') (h')) : xW p l e R s m args below meth c Q D dA base b n0 u0 j (pc) (L) (S) (h) := by
  obtain ⟨hx, hb, hr, hml, hown, hts, hlocks, hnm, htb, hG⟩ := C
  intro H locs ls hR
  simp only [xact] at hA
  split at hA
  · obtain ⟨rfl, rfl, rfl, rfl⟩ := xgo_inj hA
    exact lv_lor hx hb hd (kk H locs ls hR)
  · cases hA
theorem xs_lshl (C : xCtx p D dA base b sc j s m args meth c) (hd : decode (xmc j) pc = .ok (.lshl, 1)) (hA : xact sc d j (.lshl) pc L S h = some (.inl (pc', L', S', h'))) (kk : xW p l e R s m args below meth c Q D dA base b n0 u0 j (pc') (L') (S') (h')) : xW p l e R s m args below meth c Q D dA base b n0 u0 j (pc) (L) (S) (h) := by
  obtain ⟨hx, hb, hr, hml, hown, hts, hlocks, hnm, htb, hG⟩ := C
  intro H locs ls hR
  simp only [xact] at hA
  split at hA
  · obtain ⟨rfl, rfl, rfl, rfl⟩ := xgo_inj hA
    exact lv_lshl hx hb hd rfl (kk H locs ls hR)
  · cases hA
theorem xs_lshr (C : xCtx p D dA base b sc j s m args meth c) (hd : decode (xmc j) pc = .ok (.lshr, 1)) (hA : xact sc d j (.lshr) pc L S h = some (.inl (pc', L', S', h'))) (kk : xW p l e R s m args below meth c Q D dA base b n0 u0 j (pc') (L') (S') (h')) : xW p l e R s m args below meth c Q D dA base b n0 u0 j (pc) (L) (S) (h) := by
  obtain ⟨hx, hb, hr, hml, hown, hts, hlocks, hnm, htb, hG⟩ := C
  intro H locs ls hR
  simp only [xact] at hA
  split at hA
  · obtain ⟨rfl, rfl, rfl, rfl⟩ := xgo_inj hA
    exact lv_lshr hx hb hd rfl (kk H locs ls hR)
  · cases hA
theorem xs_i2l (C : xCtx p D dA base b sc j s m args meth c) (hd : decode (xmc j) pc = .ok (.i2l, 1)) (hA : xact sc d j (.i2l) pc L S h = some (.inl (pc', L', S', h'))) (kk : xW p l e R s m args below meth c Q D dA base b n0 u0 j (pc') (L') (S') (h')) : xW p l e R s m args below meth c Q D dA base b n0 u0 j (pc) (L) (S) (h) := by
  obtain ⟨hx, hb, hr, hml, hown, hts, hlocks, hnm, htb, hG⟩ := C
  intro H locs ls hR
  simp only [xact] at hA
  split at hA
  · obtain ⟨rfl, rfl, rfl, rfl⟩ := xgo_inj hA
    exact lv_i2l hx hb hd rfl (kk H locs ls hR)
  · cases hA
theorem xs_l2i (C : xCtx p D dA base b sc j s m args meth c) (hd : decode (xmc j) pc = .ok (.l2i, 1)) (hA : xact sc d j (.l2i) pc L S h = some (.inl (pc', L', S', h'))) (kk : xW p l e R s m args below meth c Q D dA base b n0 u0 j (pc') (L') (S') (h')) : xW p l e R s m args below meth c Q D dA base b n0 u0 j (pc) (L) (S) (h) := by
  obtain ⟨hx, hb, hr, hml, hown, hts, hlocks, hnm, htb, hG⟩ := C
  intro H locs ls hR
  simp only [xact] at hA
  split at hA
  · obtain ⟨rfl, rfl, rfl, rfl⟩ := xgo_inj hA
    exact lv_l2i hx hb hd rfl (kk H locs ls hR)
  · cases hA
theorem xs_lcmp (C : xCtx p D dA base b sc j s m args meth c) (hd : decode (xmc j) pc = .ok (.lcmp, 1)) (hA : xact sc d j (.lcmp) pc L S h = some (.inl (pc', L', S', h'))) (kk : xW p l e R s m args below meth c Q D dA base b n0 u0 j (pc') (L') (S') (h')) : xW p l e R s m args below meth c Q D dA base b n0 u0 j (pc) (L) (S) (h) := by
  obtain ⟨hx, hb, hr, hml, hown, hts, hlocks, hnm, htb, hG⟩ := C
  intro H locs ls hR
  simp only [xact] at hA
  split at hA
  · obtain ⟨rfl, rfl, rfl, rfl⟩ := xgo_inj hA
    exact W.lcmp hx hb hd (kk H locs ls hR)
  · cases hA
theorem xs_idiv (C : xCtx p D dA base b sc j s m args meth c) (hd : decode (xmc j) pc = .ok (.idiv, 1)) (hA : xact sc d j (.idiv) pc L S h = some (.inl (pc', L', S', h'))) (kk : xW p l e R s m args below meth c Q D dA base b n0 u0 j (pc') (L') (S') (h')) : xW p l e R s m args below meth c Q D dA base b n0 u0 j (pc) (L) (S) (h) := by
  obtain ⟨hx, hb, hr, hml, hown, hts, hlocks, hnm, htb, hG⟩ := C
  intro H locs ls hR
  simp only [xact] at hA
  split at hA
  · split at hA
    · cases hA
    · next hz =>
      obtain ⟨rfl, rfl, rfl, rfl⟩ := xgo_inj hA
      exact lv_idiv hx hb hd hz (kk H locs ls hR)
  · cases hA
theorem xs_irem (C : xCtx p D dA base b sc j s m args meth c) (hd : decode (xmc j) pc = .ok (.irem, 1)) (hA : xact sc d j (.irem) pc L S h = some (.inl (pc', L', S', h'))) (kk : xW p l e R s m args below meth c Q D dA base b n0 u0 j (pc') (L') (S') (h')) : xW p l e R s m args below meth c Q D dA base b n0 u0 j (pc) (L) (S) (h) := by
  obtain ⟨hx, hb, hr, hml, hown, hts, hlocks, hnm, htb, hG⟩ := C
  intro H locs ls hR
  simp only [xact] at hA
  split at hA
  · split at hA
    · cases hA
    · next hz =>
      obtain ⟨rfl, rfl, rfl, rfl⟩ := xgo_inj hA
      exact lv_irem hx hb hd hz (kk H locs ls hR)
  · cases hA
theorem xcat1_tr {v : Value} (h : xcat1 v = true) : (xtr base b v).category = 1 := xtr_cat h
theorem xs_dup (C : xCtx p D dA base b sc j s m args meth c) (hd : decode (xmc j) pc = .ok (.dup, 1)) (hA : xact sc d j (.dup) pc L S h = some (.inl (pc', L', S', h'))) (kk : xW p l e R s m args below meth c Q D dA base b n0 u0 j (pc') (L') (S') (h')) : xW p l e R s m args below meth c Q D dA base b n0 u0 j (pc) (L) (S) (h) := by
  obtain ⟨hx, hb, hr, hml, hown, hts, hlocks, hnm, htb, hG⟩ := C
  intro H locs ls hR
  simp only [xact] at hA
  split at hA
  · split at hA
    · next hz =>
      obtain ⟨rfl, rfl, rfl, rfl⟩ := xgo_inj hA
      exact lv_dup hx hb hd (xtr_cat hz) (kk H locs ls hR)
    · cases hA
  · cases hA
theorem xs_dup2 (C : xCtx p D dA base b sc j s m args meth c) (hd : decode (xmc j) pc = .ok (.dup2, 1)) (hA : xact sc d j (.dup2) pc L S h = some (.inl (pc', L', S', h'))) (kk : xW p l e R s m args below meth c Q D dA base b n0 u0 j (pc') (L') (S') (h')) : xW p l e R s m args below meth c Q D dA base b n0 u0 j (pc) (L) (S) (h) := by
  obtain ⟨hx, hb, hr, hml, hown, hts, hlocks, hnm, htb, hG⟩ := C
  intro H locs ls hR
  simp only [xact] at hA
  split at hA
  · split at hA
    · next hz =>
      obtain ⟨rfl, rfl, rfl, rfl⟩ := xgo_inj hA
      exact lv_dup2_11 hx hb hd (xtr_cat hz.1) (xtr_cat hz.2) (kk H locs ls hR)
    · cases hA
  · cases hA
theorem xRel_at {base b : Nat} {L : xL} {ls : Array Slot} {n k : Nat} {v : Value} (hl : lv_has ls n (xlst base b L)) (hv : L[k]? = some (some v)) (hc : xcat1 v = true) : ls[k]? = some (.val (xtr base b v)) := hl.2.2 (k, xtr base b v) (xlst_mem.mpr ⟨v, hv, hc, rfl⟩)
theorem xs_iload_n {k : Fin 4} (C : xCtx p D dA base b sc j s m args meth c) (hd : decode (xmc j) pc = .ok (.iload_n k, 1)) (hA : xact sc d j (.iload_n k) pc L S h = some (.inl (pc', L', S', h'))) (kk : xW p l e R s m args below meth c Q D dA base b n0 u0 j (pc') (L') (S') (h')) : xW p l e R s m args below meth c Q D dA base b n0 u0 j (pc) (L) (S) (h) := by
  obtain ⟨hx, hb, hr, hml, hown, hts, hlocks, hnm, htb, hG⟩ := C
  intro H locs ls hR
  simp only [xact] at hA
  split at hA
  · next x hv =>
    obtain ⟨rfl, rfl, rfl, rfl⟩ := xgo_inj hA
    exact lv_iload_n hx hb hd rfl (xRel_at hR.2.2.2.1 hv rfl) (kk H locs ls hR)
  · cases hA
theorem xs_iload {k : Nat} (C : xCtx p D dA base b sc j s m args meth c) (hd : decode (xmc j) pc = .ok (.iload k, 2)) (hA : xact sc d j (.iload k) pc L S h = some (.inl (pc', L', S', h'))) (kk : xW p l e R s m args below meth c Q D dA base b n0 u0 j (pc') (L') (S') (h')) : xW p l e R s m args below meth c Q D dA base b n0 u0 j (pc) (L) (S) (h) := by
  obtain ⟨hx, hb, hr, hml, hown, hts, hlocks, hnm, htb, hG⟩ := C
  intro H locs ls hR
  simp only [xact] at hA
  split at hA
  · next x hv =>
    obtain ⟨rfl, rfl, rfl, rfl⟩ := xgo_inj hA
    exact lv_iload hx hb hd (xRel_at hR.2.2.2.1 hv rfl) (kk H locs ls hR)
  · cases hA
theorem xs_aload_n {k : Fin 4} (C : xCtx p D dA base b sc j s m args meth c) (hd : decode (xmc j) pc = .ok (.aload_n k, 1)) (hA : xact sc d j (.aload_n k) pc L S h = some (.inl (pc', L', S', h'))) (kk : xW p l e R s m args below meth c Q D dA base b n0 u0 j (pc') (L') (S') (h')) : xW p l e R s m args below meth c Q D dA base b n0 u0 j (pc) (L) (S) (h) := by
  obtain ⟨hx, hb, hr, hml, hown, hts, hlocks, hnm, htb, hG⟩ := C
  intro H locs ls hR
  simp only [xact] at hA
  split at hA
  · next x hv =>
    obtain ⟨rfl, rfl, rfl, rfl⟩ := xgo_inj hA
    exact lv_aload_n hx hb hd rfl (xRel_at hR.2.2.2.1 hv rfl) (kk H locs ls hR)
  · next hv =>
    obtain ⟨rfl, rfl, rfl, rfl⟩ := xgo_inj hA
    exact lv_aload_nN hx hb hd rfl (xRel_at hR.2.2.2.1 hv rfl) (kk H locs ls hR)
  · next x hv =>
    obtain ⟨rfl, rfl, rfl, rfl⟩ := xgo_inj hA
    exact lv_aload_n hx hb hd rfl (xRel_at hR.2.2.2.1 hv rfl) (kk H locs ls hR)
  · cases hA
theorem xs_aload {k : Nat} (C : xCtx p D dA base b sc j s m args meth c) (hd : decode (xmc j) pc = .ok (.aload k, 2)) (hA : xact sc d j (.aload k) pc L S h = some (.inl (pc', L', S', h'))) (kk : xW p l e R s m args below meth c Q D dA base b n0 u0 j (pc') (L') (S') (h')) : xW p l e R s m args below meth c Q D dA base b n0 u0 j (pc) (L) (S) (h) := by
  obtain ⟨hx, hb, hr, hml, hown, hts, hlocks, hnm, htb, hG⟩ := C
  intro H locs ls hR
  simp only [xact] at hA
  split at hA
  · next x hv =>
    obtain ⟨rfl, rfl, rfl, rfl⟩ := xgo_inj hA
    exact lv_aload hx hb hd (xRel_at hR.2.2.2.1 hv rfl) (kk H locs ls hR)
  · next hv =>
    obtain ⟨rfl, rfl, rfl, rfl⟩ := xgo_inj hA
    exact lv_aloadN hx hb hd (xRel_at hR.2.2.2.1 hv rfl) (kk H locs ls hR)
  · next x hv =>
    obtain ⟨rfl, rfl, rfl, rfl⟩ := xgo_inj hA
    exact lv_aload hx hb hd (xRel_at hR.2.2.2.1 hv rfl) (kk H locs ls hR)
  · cases hA
theorem xst_inj {a a2 k : Nat} {v : Value} {L L2 : xL} {S S2 : List Value} {h h2 : xH} (e : xst L k v a S h = some (.inl (a2, L2, S2, h2))) : k < L.length ∧ a = a2 ∧ L.set k (some v) = L2 ∧ S = S2 ∧ h = h2 := by
  unfold xst at e
  split at e
  · next hk => exact ⟨hk, xgo_inj e⟩
  · cases e
theorem xRel_set {D : va_G} {dA : Nat → ClassId} {base b n0 u0 j : Nat} {s : State} {h : xH} {L : xL} {H : Heap} {locs : List Loc} {ls ls' : Array Slot} {k : Nat} {v : Value} (hR : xRel D dA base b n0 u0 j s h L H locs ls) (hc : xcat1 v = true)
    (hl : lv_has ls' (xml j) ((k, xtr base b v) :: (xlst base b L).filter (fun q => !(q.1 == k) && !(q.1 + 1 == k && q.2.category == 2)))) : xRel D dA base b n0 u0 j s h (L.set k (some v)) H locs ls' :=
  ⟨hR.1, hR.2.1, by rw [List.length_set]; exact hR.2.2.1, xlst_set hc hl, hR.2.2.2.2⟩
theorem xs_istore_n {k : Fin 4} (C : xCtx p D dA base b sc j s m args meth c) (hd : decode (xmc j) pc = .ok (.istore_n k, 1)) (hA : xact sc d j (.istore_n k) pc L S h = some (.inl (pc', L', S', h'))) (kk : xW p l e R s m args below meth c Q D dA base b n0 u0 j (pc') (L') (S') (h')) : xW p l e R s m args below meth c Q D dA base b n0 u0 j (pc) (L) (S) (h) := by
  obtain ⟨hx, hb, hr, hml, hown, hts, hlocks, hnm, htb, hG⟩ := C
  intro H locs ls hR
  simp only [xact] at hA
  split at hA
  · obtain ⟨hk, rfl, rfl, rfl, rfl⟩ := xst_inj hA
    exact lv_istore_n hx hb hd rfl hR.2.2.2.1 (by rw [← hR.2.2.1]; exact hk) rfl (fun ls' hl => kk H locs ls' (xRel_set hR rfl hl))
  · cases hA
theorem xs_istore {k : Nat} (C : xCtx p D dA base b sc j s m args meth c) (hd : decode (xmc j) pc = .ok (.istore k, 2)) (hA : xact sc d j (.istore k) pc L S h = some (.inl (pc', L', S', h'))) (kk : xW p l e R s m args below meth c Q D dA base b n0 u0 j (pc') (L') (S') (h')) : xW p l e R s m args below meth c Q D dA base b n0 u0 j (pc) (L) (S) (h) := by
  obtain ⟨hx, hb, hr, hml, hown, hts, hlocks, hnm, htb, hG⟩ := C
  intro H locs ls hR
  simp only [xact] at hA
  split at hA
  · obtain ⟨hk, rfl, rfl, rfl, rfl⟩ := xst_inj hA
    exact lv_istore hx hb hd hR.2.2.2.1 (by rw [← hR.2.2.1]; exact hk) rfl (fun ls' hl => kk H locs ls' (xRel_set hR rfl hl))
  · cases hA
theorem xs_astore_n {k : Fin 4} (C : xCtx p D dA base b sc j s m args meth c) (hd : decode (xmc j) pc = .ok (.astore_n k, 1)) (hA : xact sc d j (.astore_n k) pc L S h = some (.inl (pc', L', S', h'))) (kk : xW p l e R s m args below meth c Q D dA base b n0 u0 j (pc') (L') (S') (h')) : xW p l e R s m args below meth c Q D dA base b n0 u0 j (pc) (L) (S) (h) := by
  obtain ⟨hx, hb, hr, hml, hown, hts, hlocks, hnm, htb, hG⟩ := C
  intro H locs ls hR
  simp only [xact] at hA
  split at hA
  · obtain ⟨hk, rfl, rfl, rfl, rfl⟩ := xst_inj hA
    exact lv_astore_n hx hb hd rfl hR.2.2.2.1 (by rw [← hR.2.2.1]; exact hk) rfl (fun ls' hl => kk H locs ls' (xRel_set hR rfl hl))
  · obtain ⟨hk, rfl, rfl, rfl, rfl⟩ := xst_inj hA
    exact lv_astore_nN hx hb hd rfl hR.2.2.2.1 (by rw [← hR.2.2.1]; exact hk) rfl (fun ls' hl => kk H locs ls' (xRel_set hR rfl hl))
  · cases hA
theorem xs_astore {k : Nat} (C : xCtx p D dA base b sc j s m args meth c) (hd : decode (xmc j) pc = .ok (.astore k, 2)) (hA : xact sc d j (.astore k) pc L S h = some (.inl (pc', L', S', h'))) (kk : xW p l e R s m args below meth c Q D dA base b n0 u0 j (pc') (L') (S') (h')) : xW p l e R s m args below meth c Q D dA base b n0 u0 j (pc) (L) (S) (h) := by
  obtain ⟨hx, hb, hr, hml, hown, hts, hlocks, hnm, htb, hG⟩ := C
  intro H locs ls hR
  simp only [xact] at hA
  split at hA
  · obtain ⟨hk, rfl, rfl, rfl, rfl⟩ := xst_inj hA
    exact lv_astore hx hb hd hR.2.2.2.1 (by rw [← hR.2.2.1]; exact hk) rfl (fun ls' hl => kk H locs ls' (xRel_set hR rfl hl))
  · obtain ⟨hk, rfl, rfl, rfl, rfl⟩ := xst_inj hA
    exact lv_astoreN hx hb hd hR.2.2.2.1 (by rw [← hR.2.2.1]; exact hk) rfl (fun ls' hl => kk H locs ls' (xRel_set hR rfl hl))
  · cases hA
theorem xs_iinc {k : Nat} {n : Int} (C : xCtx p D dA base b sc j s m args meth c) (hd : decode (xmc j) pc = .ok (.iinc k n, 3)) (hA : xact sc d j (.iinc k n) pc L S h = some (.inl (pc', L', S', h'))) (kk : xW p l e R s m args below meth c Q D dA base b n0 u0 j (pc') (L') (S') (h')) : xW p l e R s m args below meth c Q D dA base b n0 u0 j (pc) (L) (S) (h) := by
  obtain ⟨hx, hb, hr, hml, hown, hts, hlocks, hnm, htb, hG⟩ := C
  intro H locs ls hR
  simp only [xact] at hA
  split at hA
  · next x hv =>
    obtain ⟨hk, rfl, rfl, rfl, rfl⟩ := xst_inj hA
    obtain ⟨i, hi⟩ := List.getElem?_of_mem (xlst_mem (base := base) (b := b) (q := (k, xtr base b (.int x))) |>.mpr ⟨_, hv, rfl, rfl⟩)
    exact lv_iinc hx hb hd hR.2.2.2.1 (k := i) (x := x) hi rfl (by rw [← hR.2.2.1]; exact hk) rfl (fun ls' hl => kk H locs ls' (xRel_set hR rfl hl))
  · cases hA
theorem xjmp_eq {pc : Nat} {off : Int} (h : 0 ≤ (pc : Int) + off) : (pc : Int) + off = ((xjmp pc off : Nat) : Int) := (Int.toNat_of_nonneg h).symm
theorem xbr_inj {cnd : Prop} {ic : Decidable cnd} {off : Int} (e : @xbr cnd ic pc off L S h = some (.inl (pc', L', S', h'))) : 0 ≤ (pc : Int) + off ∧ (@ite _ cnd ic (xjmp pc off) (pc + 3)) = pc' ∧ L = L' ∧ S = S' ∧ h = h' := by
  unfold xbr at e
  split at e
  · next ho => exact ⟨ho, xgo_inj e⟩
  · cases e
theorem xs_icmp_eq {off : Int} (C : xCtx p D dA base b sc j s m args meth c) (hd : decode (xmc j) pc = .ok (.if_icmp .eq off, 3)) (hA : xact sc d j (.if_icmp .eq off) pc L S h = some (.inl (pc', L', S', h'))) (kk : xW p l e R s m args below meth c Q D dA base b n0 u0 j (pc') (L') (S') (h')) : xW p l e R s m args below meth c Q D dA base b n0 u0 j (pc) (L) (S) (h) := by
  obtain ⟨hx, hb, hr, hml, hown, hts, hlocks, hnm, htb, hG⟩ := C
  intro H locs ls hR
  simp only [xact] at hA
  split at hA
  · obtain ⟨ho, rfl, rfl, rfl, rfl⟩ := xbr_inj hA
    exact lv_icmp_eq hx hb hd (xjmp_eq ho) (fun q => by rw [if_pos q] at kk; exact kk H locs ls hR) (fun q => by rw [if_neg q] at kk; exact kk H locs ls hR)
  · cases hA
theorem xs_if_eq {off : Int} (C : xCtx p D dA base b sc j s m args meth c) (hd : decode (xmc j) pc = .ok (.ifCond .eq off, 3)) (hA : xact sc d j (.ifCond .eq off) pc L S h = some (.inl (pc', L', S', h'))) (kk : xW p l e R s m args below meth c Q D dA base b n0 u0 j (pc') (L') (S') (h')) : xW p l e R s m args below meth c Q D dA base b n0 u0 j (pc) (L) (S) (h) := by
  obtain ⟨hx, hb, hr, hml, hown, hts, hlocks, hnm, htb, hG⟩ := C
  intro H locs ls hR
  simp only [xact] at hA
  split at hA
  · obtain ⟨ho, rfl, rfl, rfl, rfl⟩ := xbr_inj hA
    exact lv_if_eq hx hb hd (xjmp_eq ho) (fun q => by rw [if_pos q] at kk; exact kk H locs ls hR) (fun q => by rw [if_neg q] at kk; exact kk H locs ls hR)
  · cases hA
theorem xs_icmp_ne {off : Int} (C : xCtx p D dA base b sc j s m args meth c) (hd : decode (xmc j) pc = .ok (.if_icmp .ne off, 3)) (hA : xact sc d j (.if_icmp .ne off) pc L S h = some (.inl (pc', L', S', h'))) (kk : xW p l e R s m args below meth c Q D dA base b n0 u0 j (pc') (L') (S') (h')) : xW p l e R s m args below meth c Q D dA base b n0 u0 j (pc) (L) (S) (h) := by
  obtain ⟨hx, hb, hr, hml, hown, hts, hlocks, hnm, htb, hG⟩ := C
  intro H locs ls hR
  simp only [xact] at hA
  split at hA
  · obtain ⟨ho, rfl, rfl, rfl, rfl⟩ := xbr_inj hA
    exact lv_icmp_ne hx hb hd (xjmp_eq ho) (fun q => by rw [if_pos q] at kk; exact kk H locs ls hR) (fun q => by rw [if_neg (fun z => z q)] at kk; exact kk H locs ls hR)
  · cases hA
theorem xs_if_ne {off : Int} (C : xCtx p D dA base b sc j s m args meth c) (hd : decode (xmc j) pc = .ok (.ifCond .ne off, 3)) (hA : xact sc d j (.ifCond .ne off) pc L S h = some (.inl (pc', L', S', h'))) (kk : xW p l e R s m args below meth c Q D dA base b n0 u0 j (pc') (L') (S') (h')) : xW p l e R s m args below meth c Q D dA base b n0 u0 j (pc) (L) (S) (h) := by
  obtain ⟨hx, hb, hr, hml, hown, hts, hlocks, hnm, htb, hG⟩ := C
  intro H locs ls hR
  simp only [xact] at hA
  split at hA
  · obtain ⟨ho, rfl, rfl, rfl, rfl⟩ := xbr_inj hA
    exact lv_if_ne hx hb hd (xjmp_eq ho) (fun q => by rw [if_pos q] at kk; exact kk H locs ls hR) (fun q => by rw [if_neg (fun z => z q)] at kk; exact kk H locs ls hR)
  · cases hA
theorem xs_icmp_lt {off : Int} (C : xCtx p D dA base b sc j s m args meth c) (hd : decode (xmc j) pc = .ok (.if_icmp .lt off, 3)) (hA : xact sc d j (.if_icmp .lt off) pc L S h = some (.inl (pc', L', S', h'))) (kk : xW p l e R s m args below meth c Q D dA base b n0 u0 j (pc') (L') (S') (h')) : xW p l e R s m args below meth c Q D dA base b n0 u0 j (pc) (L) (S) (h) := by
  obtain ⟨hx, hb, hr, hml, hown, hts, hlocks, hnm, htb, hG⟩ := C
  intro H locs ls hR
  simp only [xact] at hA
  split at hA
  · obtain ⟨ho, rfl, rfl, rfl, rfl⟩ := xbr_inj hA
    exact lv_icmp_lt hx hb hd (xjmp_eq ho) (fun q => by rw [if_pos q] at kk; exact kk H locs ls hR) (fun q => by rw [if_neg q] at kk; exact kk H locs ls hR)
  · cases hA
theorem xs_if_lt {off : Int} (C : xCtx p D dA base b sc j s m args meth c) (hd : decode (xmc j) pc = .ok (.ifCond .lt off, 3)) (hA : xact sc d j (.ifCond .lt off) pc L S h = some (.inl (pc', L', S', h'))) (kk : xW p l e R s m args below meth c Q D dA base b n0 u0 j (pc') (L') (S') (h')) : xW p l e R s m args below meth c Q D dA base b n0 u0 j (pc) (L) (S) (h) := by
  obtain ⟨hx, hb, hr, hml, hown, hts, hlocks, hnm, htb, hG⟩ := C
  intro H locs ls hR
  simp only [xact] at hA
  split at hA
  · obtain ⟨ho, rfl, rfl, rfl, rfl⟩ := xbr_inj hA
    exact lv_if_lt hx hb hd (xjmp_eq ho) (fun q => by rw [if_pos q] at kk; exact kk H locs ls hR) (fun q => by rw [if_neg q] at kk; exact kk H locs ls hR)
  · cases hA
theorem xs_icmp_ge {off : Int} (C : xCtx p D dA base b sc j s m args meth c) (hd : decode (xmc j) pc = .ok (.if_icmp .ge off, 3)) (hA : xact sc d j (.if_icmp .ge off) pc L S h = some (.inl (pc', L', S', h'))) (kk : xW p l e R s m args below meth c Q D dA base b n0 u0 j (pc') (L') (S') (h')) : xW p l e R s m args below meth c Q D dA base b n0 u0 j (pc) (L) (S) (h) := by
  obtain ⟨hx, hb, hr, hml, hown, hts, hlocks, hnm, htb, hG⟩ := C
  intro H locs ls hR
  simp only [xact] at hA
  split at hA
  · obtain ⟨ho, rfl, rfl, rfl, rfl⟩ := xbr_inj hA
    exact lv_icmp_ge hx hb hd (xjmp_eq ho) (fun q => by rw [if_pos q] at kk; exact kk H locs ls hR) (fun q => by rw [if_neg q] at kk; exact kk H locs ls hR)
  · cases hA
theorem xs_if_ge {off : Int} (C : xCtx p D dA base b sc j s m args meth c) (hd : decode (xmc j) pc = .ok (.ifCond .ge off, 3)) (hA : xact sc d j (.ifCond .ge off) pc L S h = some (.inl (pc', L', S', h'))) (kk : xW p l e R s m args below meth c Q D dA base b n0 u0 j (pc') (L') (S') (h')) : xW p l e R s m args below meth c Q D dA base b n0 u0 j (pc) (L) (S) (h) := by
  obtain ⟨hx, hb, hr, hml, hown, hts, hlocks, hnm, htb, hG⟩ := C
  intro H locs ls hR
  simp only [xact] at hA
  split at hA
  · obtain ⟨ho, rfl, rfl, rfl, rfl⟩ := xbr_inj hA
    exact lv_if_ge hx hb hd (xjmp_eq ho) (fun q => by rw [if_pos q] at kk; exact kk H locs ls hR) (fun q => by rw [if_neg q] at kk; exact kk H locs ls hR)
  · cases hA
theorem xs_icmp_gt {off : Int} (C : xCtx p D dA base b sc j s m args meth c) (hd : decode (xmc j) pc = .ok (.if_icmp .gt off, 3)) (hA : xact sc d j (.if_icmp .gt off) pc L S h = some (.inl (pc', L', S', h'))) (kk : xW p l e R s m args below meth c Q D dA base b n0 u0 j (pc') (L') (S') (h')) : xW p l e R s m args below meth c Q D dA base b n0 u0 j (pc) (L) (S) (h) := by
  obtain ⟨hx, hb, hr, hml, hown, hts, hlocks, hnm, htb, hG⟩ := C
  intro H locs ls hR
  simp only [xact] at hA
  split at hA
  · obtain ⟨ho, rfl, rfl, rfl, rfl⟩ := xbr_inj hA
    exact lv_icmp_gt hx hb hd (xjmp_eq ho) (fun q => by rw [if_pos q] at kk; exact kk H locs ls hR) (fun q => by rw [if_neg q] at kk; exact kk H locs ls hR)
  · cases hA
theorem xs_if_gt {off : Int} (C : xCtx p D dA base b sc j s m args meth c) (hd : decode (xmc j) pc = .ok (.ifCond .gt off, 3)) (hA : xact sc d j (.ifCond .gt off) pc L S h = some (.inl (pc', L', S', h'))) (kk : xW p l e R s m args below meth c Q D dA base b n0 u0 j (pc') (L') (S') (h')) : xW p l e R s m args below meth c Q D dA base b n0 u0 j (pc) (L) (S) (h) := by
  obtain ⟨hx, hb, hr, hml, hown, hts, hlocks, hnm, htb, hG⟩ := C
  intro H locs ls hR
  simp only [xact] at hA
  split at hA
  · obtain ⟨ho, rfl, rfl, rfl, rfl⟩ := xbr_inj hA
    exact lv_if_gt hx hb hd (xjmp_eq ho) (fun q => by rw [if_pos q] at kk; exact kk H locs ls hR) (fun q => by rw [if_neg q] at kk; exact kk H locs ls hR)
  · cases hA
theorem xs_icmp_le {off : Int} (C : xCtx p D dA base b sc j s m args meth c) (hd : decode (xmc j) pc = .ok (.if_icmp .le off, 3)) (hA : xact sc d j (.if_icmp .le off) pc L S h = some (.inl (pc', L', S', h'))) (kk : xW p l e R s m args below meth c Q D dA base b n0 u0 j (pc') (L') (S') (h')) : xW p l e R s m args below meth c Q D dA base b n0 u0 j (pc) (L) (S) (h) := by
  obtain ⟨hx, hb, hr, hml, hown, hts, hlocks, hnm, htb, hG⟩ := C
  intro H locs ls hR
  simp only [xact] at hA
  split at hA
  · obtain ⟨ho, rfl, rfl, rfl, rfl⟩ := xbr_inj hA
    exact lv_icmp_le hx hb hd (xjmp_eq ho) (fun q => by rw [if_pos q] at kk; exact kk H locs ls hR) (fun q => by rw [if_neg q] at kk; exact kk H locs ls hR)
  · cases hA
theorem xs_if_le {off : Int} (C : xCtx p D dA base b sc j s m args meth c) (hd : decode (xmc j) pc = .ok (.ifCond .le off, 3)) (hA : xact sc d j (.ifCond .le off) pc L S h = some (.inl (pc', L', S', h'))) (kk : xW p l e R s m args below meth c Q D dA base b n0 u0 j (pc') (L') (S') (h')) : xW p l e R s m args below meth c Q D dA base b n0 u0 j (pc) (L) (S) (h) := by
  obtain ⟨hx, hb, hr, hml, hown, hts, hlocks, hnm, htb, hG⟩ := C
  intro H locs ls hR
  simp only [xact] at hA
  split at hA
  · obtain ⟨ho, rfl, rfl, rfl, rfl⟩ := xbr_inj hA
    exact lv_if_le hx hb hd (xjmp_eq ho) (fun q => by rw [if_pos q] at kk; exact kk H locs ls hR) (fun q => by rw [if_neg q] at kk; exact kk H locs ls hR)
  · cases hA
theorem xs_goto {off : Int} (C : xCtx p D dA base b sc j s m args meth c) (hd : decode (xmc j) pc = .ok (.goto off, 3)) (hA : xact sc d j (.goto off) pc L S h = some (.inl (pc', L', S', h'))) (kk : xW p l e R s m args below meth c Q D dA base b n0 u0 j (pc') (L') (S') (h')) : xW p l e R s m args below meth c Q D dA base b n0 u0 j (pc) (L) (S) (h) := by
  obtain ⟨hx, hb, hr, hml, hown, hts, hlocks, hnm, htb, hG⟩ := C
  intro H locs ls hR
  simp only [xact] at hA
  split at hA
  · next ho =>
    obtain ⟨rfl, rfl, rfl, rfl⟩ := xgo_inj hA
    exact lv_goto hx hb hd (xjmp_eq ho) (kk H locs ls hR)
  · cases hA
theorem xs_ifnull {off : Int} (C : xCtx p D dA base b sc j s m args meth c) (hd : decode (xmc j) pc = .ok (.ifnull off, 3)) (hA : xact sc d j (.ifnull off) pc L S h = some (.inl (pc', L', S', h'))) (kk : xW p l e R s m args below meth c Q D dA base b n0 u0 j (pc') (L') (S') (h')) : xW p l e R s m args below meth c Q D dA base b n0 u0 j (pc) (L) (S) (h) := by
  obtain ⟨hx, hb, hr, hml, hown, hts, hlocks, hnm, htb, hG⟩ := C
  intro H locs ls hR
  simp only [xact] at hA
  split at hA
  · split at hA
    · next ho =>
      obtain ⟨rfl, rfl, rfl, rfl⟩ := xgo_inj hA
      exact lv_ifnullN hx hb hd (xjmp_eq ho) (kk H locs ls hR)
    · cases hA
  · obtain ⟨rfl, rfl, rfl, rfl⟩ := xgo_inj hA
    exact lv_ifnull hx hb hd (kk H locs ls hR)
  · cases hA
theorem xs_ifnonnull {off : Int} (C : xCtx p D dA base b sc j s m args meth c) (hd : decode (xmc j) pc = .ok (.ifnonnull off, 3)) (hA : xact sc d j (.ifnonnull off) pc L S h = some (.inl (pc', L', S', h'))) (kk : xW p l e R s m args below meth c Q D dA base b n0 u0 j (pc') (L') (S') (h')) : xW p l e R s m args below meth c Q D dA base b n0 u0 j (pc) (L) (S) (h) := by
  obtain ⟨hx, hb, hr, hml, hown, hts, hlocks, hnm, htb, hG⟩ := C
  intro H locs ls hR
  simp only [xact] at hA
  split at hA
  · split at hA
    · next ho =>
      obtain ⟨rfl, rfl, rfl, rfl⟩ := xgo_inj hA
      exact lv_ifnonnull hx hb hd (xjmp_eq ho) (kk H locs ls hR)
    · cases hA
  · obtain ⟨rfl, rfl, rfl, rfl⟩ := xgo_inj hA
    exact lv_ifnonnullN hx hb hd (kk H locs ls hR)
  · cases hA
theorem xs_table {dflt lo hi : Int} {offs : Array Int} {len : Nat} (C : xCtx p D dA base b sc j s m args meth c) (hd : decode (xmc j) pc = .ok (.tableswitch dflt lo hi offs, len)) (hA : xact sc d j (.tableswitch dflt lo hi offs) pc L S h = some (.inl (pc', L', S', h'))) (kk : xW p l e R s m args below meth c Q D dA base b n0 u0 j (pc') (L') (S') (h')) : xW p l e R s m args below meth c Q D dA base b n0 u0 j (pc) (L) (S) (h) := by
  obtain ⟨hx, hb, hr, hml, hown, hts, hlocks, hnm, htb, hG⟩ := C
  intro H locs ls hR
  simp only [xact] at hA
  split at hA
  · split at hA
    · next hz =>
      split at hA
      · next ho =>
        obtain ⟨rfl, rfl, rfl, rfl⟩ := xgo_inj hA
        exact lv_tableOut hx hb hd hz (xjmp_eq ho) (kk H locs ls hR)
      · cases hA
    · next hz =>
      split at hA
      · next off hoff =>
        split at hA
        · next ho =>
          obtain ⟨rfl, rfl, rfl, rfl⟩ := xgo_inj hA
          exact lv_tableIn hx hb hd (fun q => hz (Or.inl q)) (fun q => hz (Or.inr q)) hoff (xjmp_eq ho) (kk H locs ls hR)
        · cases hA
      · cases hA
  · cases hA
theorem xIC_at {o i : Nat} {v : Int32 × Nat} (h : xlk xIC o i = some v) : (Cond.constant (xC o) i v.1) ∈ xG0 := by
  have h1 := xIC_ok
  rw [Bool.and_eq_true, List.all_eq_true, List.all_eq_true] at h1
  have h2 := h1.1 _ (xlk_mem h)
  exact xG0_of (of_decide_eq_true h2) rfl
theorem xJC_at {o i : Nat} {v : Int64 × Nat} (h : xlk xJC o i = some v) : (Cond.constantLong (xC o) i v.1) ∈ xG0 := by
  have h1 := xIC_ok
  rw [Bool.and_eq_true, List.all_eq_true, List.all_eq_true] at h1
  have h2 := h1.2 _ (xlk_mem h)
  exact xG0_of (of_decide_eq_true h2) rfl
theorem xs_ldc {k : Nat} (C : xCtx p D dA base b sc j s m args meth c) (hd : decode (xmc j) pc = .ok (.ldc k, 2)) (hA : xact sc d j (.ldc k) pc L S h = some (.inl (pc', L', S', h'))) (kk : xW p l e R s m args below meth c Q D dA base b n0 u0 j (pc') (L') (S') (h')) : xW p l e R s m args below meth c Q D dA base b n0 u0 j (pc) (L) (S) (h) := by
  obtain ⟨hx, hb, hr, hml, hown, hts, hlocks, hnm, htb, hG⟩ := C
  intro H locs ls hR
  simp only [xact] at hA
  split at hA
  · next v hv =>
    obtain ⟨rfl, rfl, rfl, rfl⟩ := xgo_inj hA
    exact lv_ldc hx hb hown (hts _ (xIC_at hv)) hd (kk H locs ls hR)
  · cases hA
theorem xs_ldc2 {k : Nat} (C : xCtx p D dA base b sc j s m args meth c) (hd : decode (xmc j) pc = .ok (.ldc2_w k, 3)) (hA : xact sc d j (.ldc2_w k) pc L S h = some (.inl (pc', L', S', h'))) (kk : xW p l e R s m args below meth c Q D dA base b n0 u0 j (pc') (L') (S') (h')) : xW p l e R s m args below meth c Q D dA base b n0 u0 j (pc) (L) (S) (h) := by
  obtain ⟨hx, hb, hr, hml, hown, hts, hlocks, hnm, htb, hG⟩ := C
  intro H locs ls hR
  simp only [xact] at hA
  split at hA
  · next v hv =>
    obtain ⟨rfl, rfl, rfl, rfl⟩ := xgo_inj hA
    exact lv_ldc2 hx hb hown (hts _ (xJC_at hv)) hd (kk H locs ls hR)
  · cases hA
/-! fields and arrays -/
theorem xFL_at {o i : Nat} {v : Nat × Nat × Bool × Nat} (h : xlk xFL o i = some v) : v.1 < 8 ∧ v.2.1 < xN v.1 ∧ xlkF o i v ∈ lw_tbl ∧ (v.2.2.1 = false → xlkF o i v ∈ xG0) := by
  have h1 := List.all_eq_true.mp xFL_ok _ (xlk_mem h)
  have h2 := List.all_eq_true.mp xFL_good _ (xlk_mem h)
  rw [Bool.and_eq_true] at h1
  have h3 := of_decide_eq_true h1.1
  have h4 : lw_tbl[v.2.2.2]? = some (xlkF o i v) := of_decide_eq_true h1.2
  refine ⟨h3.1, h3.2, List.mem_of_getElem? h4, fun e => xG0_of h4 ?_⟩
  simp only [e, Bool.false_or] at h2
  exact h2
theorem xUW_at {c : Nat} (hc : c < 8) : ∀ w ∈ u_ws (xC c) (xT c) (xN c), w ∈ xG0 := by
  intro w hw
  have h1 := List.all_eq_true.mp xUW_ok c (List.mem_range.mpr hc)
  have h2 := List.all_eq_true.mp h1 w hw
  rw [Bool.and_eq_true] at h2
  exact List.mem_filter.mpr ⟨of_decide_eq_true h2.1, h2.2⟩
theorem xY_at {c : Nat} (hc : c < 8) : (∀ k, k < xN c → parseFieldDescriptor (xT c k).2.2.1 = some (xY c k)) ∧ ∀ a, a < xN c → ∀ b, b < xN c → a ≠ b → (xT c a).2.1 ≠ (xT c b).2.1 := by
  have h1 := List.all_eq_true.mp xY_ok c (List.mem_range.mpr hc)
  refine ⟨fun k hk => ?_, fun a ha b hb hab => ?_⟩
  · have h2 := List.all_eq_true.mp h1 k (List.mem_range.mpr hk)
    rw [Bool.and_eq_true] at h2
    exact of_decide_eq_true h2.1
  · have h2 := List.all_eq_true.mp h1 a (List.mem_range.mpr ha)
    rw [Bool.and_eq_true] at h2
    have h3 := of_decide_eq_true (List.all_eq_true.mp h2.2 b (List.mem_range.mpr hb))
    exact h3.resolve_left hab
theorem xY_own_at {c k : Nat} (hc : c < 8) (hk : k < xN c) : (xT c k).1 = xC c := by
  have h1 := List.all_eq_true.mp xY_own c (List.mem_range.mpr hc)
  exact of_decide_eq_true (List.all_eq_true.mp h1 k (List.mem_range.mpr hk))
/-- an object's cell -/
theorem xcell_obj {c a : Nat} (hc : c < 11) (hT : h.1 a = (1 + c, 0)) : xcell dA base h a = .inr (c, xfld base h a c) := by
  have e : (h.1 a).1 = 1 + c := by rw [hT]
  have e2 : 1 + c - 1 = c := by omega
  simp only [xcell, e]
  rw [if_neg (by omega), if_neg (by omega), if_neg (by omega), if_neg (by omega), e2]
theorem xfld_get {c a k : Nat} (hk : k < xN c) : (xfld base h a c)[k]? = some (if xfk c k = 2 then va_rf ((h.2.2.2.2 a k).map (fun q => base + q)) else .int (h.2.2.1 a k)) := by
  simp [xfld, hk]
theorem xtr_rf {r : Option Nat} : xtr base b (va_rf r) = va_rf (r.map (fun q => base + q)) := by cases r <;> rfl
theorem xRel_lt {H : Heap} {locs : List Loc} {ls : Array Slot} (hR : xRel D dA base b n0 u0 j s h L H locs ls) {a : Nat} (hT : (h.1 a).1 ≠ 0) : a < h.2.1.1 :=
  Nat.lt_of_not_le fun q => hT (hR.2.2.2.2.2.2 a q)
theorem xRel_ob {H : Heap} {locs : List Loc} {ls : Array Slot} (hR : xRel D dA base b n0 u0 j s h L H locs ls) {a c : Nat} (hc : c < 11) (hT : h.1 a = (1 + c, 0)) : (xws dA base h)[a]? = some (base + a, .inr (c, xfld base h a c)) := by
  rw [xws_get (xRel_lt hR (by rw [hT]; show 1 + c ≠ 0; omega)), xcell_obj hc hT]
/-- the words of a nest mate's field -/
theorem xNW_at (hG : xG D dA base b sc s) {o i c k pos : Nat} (h : xlk xFL o i = some (c, k, true, pos)) : (Cond.fieldLinkNest (xC o) i (xT c k).1 (xT c k).2.1 (xT c k).2.2.1 "Saddletree").before args s = true := by
  have h1 := (xFL_at h).2.2.1
  simp only [xlkF, if_true] at h1
  exact va_Nw.use rfl (hG.2.2.2.2.2.2.1 _ (List.mem_filter.mpr ⟨h1, rfl⟩))
theorem xFL_own {o i c k pos : Nat} (hts : ∀ w ∈ xG0, w.before args s = true) (h : xlk xFL o i = some (c, k, false, pos)) : (Cond.fieldLink (xC o) i (xT c k).1 (xT c k).2.1 (xT c k).2.2.1).before args s = true := by
  have h1 := hts _ ((xFL_at h).2.2.2 rfl)
  simp only [xlkF] at h1
  exact h1
theorem xFL_c {o i c k pos : Nat} {n : Bool} (h : xlk xFL o i = some (c, k, n, pos)) : c < 8 ∧ k < xN c := ⟨(xFL_at h).1, (xFL_at h).2.1⟩
theorem xs_getfield {idx : Nat} (C : xCtx p D dA base b sc j s m args meth c) (hd : decode (xmc j) pc = .ok (.getfield idx, 3)) (hA : xact sc d j (.getfield idx) pc L S h = some (.inl (pc', L', S', h'))) (kk : xW p l e R s m args below meth c Q D dA base b n0 u0 j (pc') (L') (S') (h')) : xW p l e R s m args below meth c Q D dA base b n0 u0 j (pc) (L) (S) (h) := by
  obtain ⟨hx, hb, hr, hml, hown, hts, hlocks, hnm, htb, hG⟩ := C
  intro H locs ls hR
  simp only [xact] at hA
  split at hA
  · next a S2 =>
    split at hA
    · next c k n pos hf =>
      split at hA
      · next hT =>
        obtain ⟨rfl, rfl, rfl, rfl⟩ := xgo_inj hA
        obtain ⟨hc, hk⟩ := xFL_c hf
        have hv := xfld_get (base := base) (h := h) (a := a) hk
        have ev : xtr base b (if xfk c k = 2 then va_rf (h.2.2.2.2 a k) else .int (h.2.2.1 a k)) = if xfk c k = 2 then va_rf ((h.2.2.2.2 a k).map (fun q => base + q)) else .int (h.2.2.1 a k) := by
          split
          · exact xtr_rf
          · rfl
        rw [← ev] at hv
        have ho := xRel_ob hR (c := c) (by omega) hT
        have hcl := xcl_get (c := c) (by omega)
        have hk3 := kk H locs ls hR
        cases n with
        | true =>
          have hl : (Cond.fieldLinkNest (xC (xmo j)) idx (xT c k).1 (xT c k).2.1 (xT c k).2.2.1 "Saddletree").before args s = true := xNW_at hG hf
          exact va_getN (own := xC (xmo j)) (ref := (xT c k).1) (index := idx) (C := xC c) (T := xT c) (N := xN c) (host := "Saddletree") hx hb hts (xUW_at hc) hown hG.1 hR.1 a ho hcl k hk hl (fun _ q => q) hv hd hk3
        | false =>
          have hl : (Cond.fieldLink (xC (xmo j)) idx (xT c k).1 (xT c k).2.1 (xT c k).2.2.1).before args s = true := xFL_own hts hf
          exact va_get (own := xC (xmo j)) (ref := (xT c k).1) (index := idx) (C := xC c) (T := xT c) (N := xN c) hx hb hts (xUW_at hc) hown hG.1 hR.1 a ho hcl k hk hl (fun _ q => q) hv hd hk3
      · cases hA
    · cases hA
  · cases hA
theorem xRel_wr {H H1 : Heap} {locs locs1 : List Loc} {ls : Array Slot} (hR : xRel D dA base b n0 u0 j s h L H locs ls) {h2 : xH} {a : Nat} (hP : va_P D xcl ((xws dA base h).set a (base + a, xcell dA base h2 a)) H1) (hS : va_S (xAA base) s.heap H1 locs1) (hT : h2.1 = h.1) (hz : h2.2.1 = h.2.1) (ho : ∀ q, q ≠ a → xcell dA base h2 q = xcell dA base h q) : xRel D dA base b n0 u0 j s h2 L H1 locs1 ls := by
  obtain ⟨r1, r2, r3, r4, r5, r6, r7⟩ := hR
  refine ⟨?_, hS, r3, r4, by rw [hz]; exact r5, by rw [hz]; exact r6, fun q hq => by rw [hT]; exact r7 q (by rw [← hz]; exact hq)⟩
  rw [← xws_set (by rw [hz]) ho]
  exact hP
theorem xfld_I {a c k : Nat} {x : Int32} (hk : xfk c k ≠ 2) : xfld base (h.1, h.2.1, xup2 h.2.2.1 a k x, h.2.2.2.1, h.2.2.2.2) a c = (xfld base h a c).set k (.int x) := by
  refine List.ext_getElem? fun i => ?_
  rw [List.getElem?_set]
  by_cases hi : i < xN c
  · have hl : (xfld base h a c).length = xN c := by simp [xfld]
    rw [xfld_get hi, xfld_get hi]
    by_cases e : k = i
    · subst e
      rw [if_pos rfl, if_pos (show k < (xfld base h a c).length by rw [hl]; exact hi), if_neg hk]
      simp [xup2]
    · rw [if_neg e]
      have : ¬ i = k := fun q => e q.symm
      simp [xup2, this]
  · have hl : ∀ h2 : xH, (xfld base h2 a c)[i]? = none := fun h2 => by rw [List.getElem?_eq_none_iff]; simp [xfld]; omega
    rw [hl, hl]
    by_cases e : k = i
    · subst e
      rw [if_pos rfl, if_neg]
      simp [xfld]
      omega
    · rw [if_neg e]
theorem xfld_R {a c k : Nat} {r : Option Nat} (hk : xfk c k = 2) : xfld base (h.1, h.2.1, h.2.2.1, h.2.2.2.1, xup2 h.2.2.2.2 a k r) a c = (xfld base h a c).set k (va_rf (r.map (fun q => base + q))) := by
  refine List.ext_getElem? fun i => ?_
  rw [List.getElem?_set]
  by_cases hi : i < xN c
  · have hl : (xfld base h a c).length = xN c := by simp [xfld]
    rw [xfld_get hi, xfld_get hi]
    by_cases e : k = i
    · subst e
      rw [if_pos rfl, if_pos (show k < (xfld base h a c).length by rw [hl]; exact hi), if_pos hk]
      simp [xup2]
    · rw [if_neg e]
      have : ¬ i = k := fun q => e q.symm
      simp [xup2, this]
  · have hl : ∀ h2 : xH, (xfld base h2 a c)[i]? = none := fun h2 => by rw [List.getElem?_eq_none_iff]; simp [xfld]; omega
    rw [hl, hl]
    by_cases e : k = i
    · subst e
      rw [if_pos rfl, if_neg]
      simp [xfld]
      omega
    · rw [if_neg e]
/-- a field takes what is put -/
theorem xfk_ty {c k : Nat} (hc : c < 8) (hk : k < xN c) : (xfk c k = 0 → xY c k = .int) ∧ (xfk c k = 1 → xY c k = .boolean) ∧ (xfk c k = 2 → (∃ n, xY c k = .object n) ∨ ∃ t, xY c k = .array t) := by
  have h1 := List.all_eq_true.mp (List.all_eq_true.mp xfk_ok c (List.mem_range.mpr hc)) k (List.mem_range.mpr hk)
  unfold xfk
  cases hy : xY c k <;> rw [hy] at h1 <;> simp_all
theorem xput {c k : Nat} {x : Int32} (hc : c < 8) (hk : k < xN c) (h1 : xfk c k = 0 ∨ (xfk c k = 1 ∧ (x = 0 ∨ x = 1))) : narrow (xY c k) (.int x) = .int x ∧ fits (xY c k) (.int x) = true := by
  obtain ⟨t0, t1, -⟩ := xfk_ty hc hk
  rcases h1 with h1 | ⟨h1, rfl | rfl⟩
  · rw [t0 h1]; exact ⟨rfl, rfl⟩
  · rw [t1 h1]; exact ⟨rfl, rfl⟩
  · rw [t1 h1]; exact ⟨rfl, rfl⟩
theorem xputR {c k : Nat} {q : Nat} (hc : c < 8) (hk : k < xN c) (h1 : xfk c k = 2) : narrow (xY c k) (.ref q) = .ref q ∧ fits (xY c k) (.ref q) = true := by
  rcases (xfk_ty hc hk).2.2 h1 with ⟨n, e⟩ | ⟨n, e⟩ <;> rw [e] <;> exact ⟨rfl, rfl⟩
end XST
end
section
section XST3
variable {p : Program} {l : Launch} {e : Env} {R : Room} {s : State} {m : MethodId} {args : Array Value} {below : List Frame} {meth : Method} {c : Code} {Q : State → Prop} {D : va_G} {dA : Nat → ClassId} {base b n0 u0 j d pc pc' : Nat} {L L' : xL} {S S' : List Value} {h h' : xH} {sc : xS}
theorem xs_putI {c2 k a : Nat} {x : Int32} {S2 : List Value} (hT : h.1 a = (1 + c2, 0)) (hc : c2 < 8) (hk2 : xfk c2 k ≠ 2) {H : Heap} {locs : List Loc} {ls : Array Slot} (hR : xRel D dA base b n0 u0 j s h L H locs ls) (kk : xW p l e R s m args below meth c Q D dA base b n0 u0 j (pc') (L) (S2) ((h.1, h.2.1, xup2 h.2.2.1 a k x, h.2.2.2.1, h.2.2.2.2))) (H1 : Heap) (locs1 : List Loc) (hP1 : va_P D xcl ((xws dA base h).set a (base + a, .inr (c2, (xfld base h a c2).set k (.int x)))) H1) (hS1 : va_S (xAA base) s.heap H1 locs1) : W p l e R s m args below meth c H1 locs1 (h.2.1.1 - n0) (h.2.1.2 - u0) Q (F0 m pc' ls (S2.map (xtr base b))) := by
  refine kk H1 locs1 ls (xRel_wr (a := a) hR ?_ hS1 rfl rfl (fun q hq => xcell_I hq))
  rw [xcell_obj (h := (h.1, h.2.1, xup2 h.2.2.1 a k x, h.2.2.2.1, h.2.2.2.2)) (c := c2) (by omega) hT, xfld_I hk2]
  exact hP1
theorem xs_putR {c2 k a : Nat} {r : Option Nat} {S2 : List Value} (hT : h.1 a = (1 + c2, 0)) (hc : c2 < 8) (hk2 : xfk c2 k = 2) {H : Heap} {locs : List Loc} {ls : Array Slot} (hR : xRel D dA base b n0 u0 j s h L H locs ls) (kk : xW p l e R s m args below meth c Q D dA base b n0 u0 j (pc') (L) (S2) ((h.1, h.2.1, h.2.2.1, h.2.2.2.1, xup2 h.2.2.2.2 a k r))) (H1 : Heap) (locs1 : List Loc) (hP1 : va_P D xcl ((xws dA base h).set a (base + a, .inr (c2, (xfld base h a c2).set k (va_rf (r.map (fun q => base + q)))))) H1) (hS1 : va_S (xAA base) s.heap H1 locs1) : W p l e R s m args below meth c H1 locs1 (h.2.1.1 - n0) (h.2.1.2 - u0) Q (F0 m pc' ls (S2.map (xtr base b))) := by
  refine kk H1 locs1 ls (xRel_wr (a := a) hR ?_ hS1 rfl rfl (fun q hq => xcell_R hq))
  rw [xcell_obj (h := (h.1, h.2.1, h.2.2.1, h.2.2.2.1, xup2 h.2.2.2.2 a k r)) (c := c2) (by omega) hT, xfld_R hk2]
  exact hP1
theorem xs_put {idx c2 k pos a : Nat} {n : Bool} {v : Value} {S2 : List Value} (C : xCtx p D dA base b sc j s m args meth c) (hd : decode (xmc j) pc = .ok (.putfield idx, 3)) (hf : xlk xFL (xmo j) idx = some (c2, k, n, pos)) (hT : h.1 a = (1 + c2, 0)) (hfin : (xT c2 k).2.2.2 = false ∨ ((xmy j).name = "<init>" ∧ xmo j = c2 ∧ n = false)) (h2 : narrow (xY c2 k) v = v ∧ fits (xY c2 k) v = true) {H : Heap} {locs : List Loc} {ls : Array Slot} (hR : xRel D dA base b n0 u0 j s h L H locs ls)
    (fin : ∀ (H1 : Heap) (locs1 : List Loc), va_P D xcl ((xws dA base h).set a (base + a, .inr (c2, (xfld base h a c2).set k v))) H1 → va_S (xAA base) s.heap H1 locs1 → W p l e R s m args below meth c H1 locs1 (h.2.1.1 - n0) (h.2.1.2 - u0) Q (F0 m (pc + 3) ls (S2.map (xtr base b)))) :
    W p l e R s m args below meth c H locs (h.2.1.1 - n0) (h.2.1.2 - u0) Q (F0 m pc ls (v :: .ref (base + a) :: S2.map (xtr base b))) := by
  obtain ⟨hx, hb, hr, hml, hown, hts, hlocks, hnm, htb, hG⟩ := C
  obtain ⟨hc, hk⟩ := xFL_c hf
  obtain ⟨hty, hnn⟩ := xY_at hc
  have ho := xRel_ob hR (c := c2) (by omega) hT
  have hcl := xcl_get (c := c2) (by omega)
  have hlen : k < (xfld base h a c2).length := by simp [xfld]; exact hk
  by_cases hF : (xT c2 k).2.2.2 = false
  · cases n with
    | true =>
      have hl : (Cond.fieldLinkNest (xC (xmo j)) idx (xT c2 k).1 (xT c2 k).2.1 (xT c2 k).2.2.1 "Saddletree").before args s = true := xNW_at hG hf
      exact va_putN (own := xC (xmo j)) (ref := (xT c2 k).1) (index := idx) (C := xC c2) (T := xT c2) (N := xN c2) (host := "Saddletree") (ty := xY c2 k) hx hb hts (xUW_at hc) (xY c2) hty hnn hown hG.1 hR.1 xws_D hR.2.1 a ho hcl k hk hl (fun _ q => q) hF (hty k hk) h2.1 h2.2 hlen hd (fun H1 locs1 hP1 _ hS1 => fin H1 locs1 hP1 hS1)
    | false =>
      have hl : (Cond.fieldLink (xC (xmo j)) idx (xT c2 k).1 (xT c2 k).2.1 (xT c2 k).2.2.1).before args s = true := xFL_own hts hf
      exact va_put (own := xC (xmo j)) (ref := (xT c2 k).1) (index := idx) (C := xC c2) (T := xT c2) (N := xN c2) (ty := xY c2 k) hx hb hts (xUW_at hc) (xY c2) hty hnn hown hG.1 hR.1 xws_D hR.2.1 a ho hcl k hk hl (fun _ q => q) hF (hty k hk) h2.1 h2.2 hlen hd (fun H1 locs1 hP1 _ hS1 => fin H1 locs1 hP1 hS1)
  · obtain ⟨h5, h6, rfl⟩ := hfin.resolve_left hF
    have hl : (Cond.fieldLink (xC (xmo j)) idx (xT c2 k).1 (xT c2 k).2.1 (xT c2 k).2.2.1).before args s = true := xFL_own hts hf
    have hF2 : (xT c2 k).2.2.2 = true := by cases q : (xT c2 k).2.2.2 <;> simp_all
    exact va_putF (own := xC (xmo j)) (ref := (xT c2 k).1) (index := idx) (C := xC c2) (T := xT c2) (N := xN c2) (ty := xY c2 k) hx hb hts (xUW_at hc) (xY c2) hty hnn hown hG.1 hR.1 xws_D hR.2.1 a ho hcl k hk hl (fun _ q => q) hF2 (by rw [hnm]; exact h5) (by rw [xY_own_at hc hk, h6]) (hty k hk) h2.1 h2.2 hlen hd (fun H1 locs1 hP1 _ hS1 => fin H1 locs1 hP1 hS1)
theorem xs_putfield {idx : Nat} (C : xCtx p D dA base b sc j s m args meth c) (hd : decode (xmc j) pc = .ok (.putfield idx, 3)) (hA : xact sc d j (.putfield idx) pc L S h = some (.inl (pc', L', S', h'))) (kk : xW p l e R s m args below meth c Q D dA base b n0 u0 j (pc') (L') (S') (h')) : xW p l e R s m args below meth c Q D dA base b n0 u0 j (pc) (L) (S) (h) := by
  intro H locs ls hR
  simp only [xact] at hA
  split at hA
  · next x a S2 =>
    split at hA
    · next c2 k n pos hf =>
      split at hA
      · next hT =>
        obtain ⟨hT, hkd, hfin⟩ := hT
        obtain ⟨rfl, rfl, rfl, rfl⟩ := xgo_inj hA
        obtain ⟨hc, hk⟩ := xFL_c hf
        have hk2 : xfk c2 k ≠ 2 := by rcases hkd with q | q <;> omega
        exact xs_put (v := .int x) C hd hf hT hfin (xput hc hk hkd) hR (xs_putI hT hc hk2 hR kk)
      · cases hA
    · cases hA
  · next q a S2 =>
    split at hA
    · next c2 k n pos hf =>
      split at hA
      · next hT =>
        obtain ⟨hT, hkd, hfin⟩ := hT
        obtain ⟨rfl, rfl, rfl, rfl⟩ := xgo_inj hA
        obtain ⟨hc, hk⟩ := xFL_c hf
        exact xs_put (v := .ref (base + q)) C hd hf hT hfin (xputR hc hk hkd) hR (xs_putR hT hc hkd hR kk)
      · cases hA
    · cases hA
  · cases hA
/-! arrays -/
theorem xcell_int {a : Nat} (hT : (h.1 a).1 = 32) : xcell dA base h a = .inl (dA 0, (h.1 a).2, .inl (h.2.2.1 a)) := by
  simp only [xcell, hT]
  rfl
theorem xcell_bool {a : Nat} (hT : (h.1 a).1 = 33) : xcell dA base h a = .inl (dA 1, (h.1 a).2, .inl (h.2.2.1 a)) := by
  simp only [xcell, hT]
  rfl
theorem xcell_long {a : Nat} (hT : (h.1 a).1 = 34) : xcell dA base h a = .inl (dA 2, (h.1 a).2, .inr (.inl (h.2.2.2.1 a))) := by
  simp only [xcell, hT]
  rfl
theorem xcell_ref {a : Nat} (hT : 40 ≤ (h.1 a).1) : xcell dA base h a = .inl (dA ((h.1 a).1 - 37), (h.1 a).2, .inr (.inr (.inr (.inr (fun j => (h.2.2.2.2 a j).map (fun q => base + q)))))) := by
  simp only [xcell]
  rw [if_neg (by omega), if_neg (by omega), if_neg (by omega), if_pos hT]
theorem xin {x : Int32} {n : Nat} (h1 : ¬ x < 0) (h2 : x.toNatClampNeg < n) : vp_in x n := fun q => q.elim h1 (fun z => Nat.not_le.mpr h2 z)
theorem xs_iaload (C : xCtx p D dA base b sc j s m args meth c) (hd : decode (xmc j) pc = .ok (.iaload, 1)) (hA : xact sc d j .iaload pc L S h = some (.inl (pc', L', S', h'))) (kk : xW p l e R s m args below meth c Q D dA base b n0 u0 j (pc') (L') (S') (h')) : xW p l e R s m args below meth c Q D dA base b n0 u0 j (pc) (L) (S) (h) := by
  obtain ⟨hx, hb, hr, hml, hown, hts, hlocks, hnm, htb, hG⟩ := C
  intro H locs ls hR
  simp only [xact] at hA
  split at hA
  · next x a S2 =>
    split at hA
    · next hT =>
      obtain ⟨hT, hT1, hT2⟩ := hT
      obtain ⟨rfl, rfl, rfl, rfl⟩ := xgo_inj hA
      have hw := xws_get (dA := dA) (base := base) (xRel_lt hR (a := a) (by omega))
      rw [xcell_int hT] at hw
      exact va_iald hx hb hG.1 hR.1 a 0 hw (xty_get (by omega)) (xin hT1 hT2) hd (kk H locs ls hR)
    · cases hA
  · next x z S2 =>
    split at hA
    · next hT =>
      obtain ⟨rfl, rfl, rfl, rfl⟩ := xgo_inj hA
      exact va_sld hx hb hG.2.1 (by have := hG.2.2.1; have := hG.2.2.2.1; omega) (Nat.not_le.mpr hG.2.2.1) hR.2.1 (xin hT.1 hT.2) hd (kk H locs ls hR)
    · cases hA
  · cases hA
theorem xs_baload (C : xCtx p D dA base b sc j s m args meth c) (hd : decode (xmc j) pc = .ok (.baload, 1)) (hA : xact sc d j .baload pc L S h = some (.inl (pc', L', S', h'))) (kk : xW p l e R s m args below meth c Q D dA base b n0 u0 j (pc') (L') (S') (h')) : xW p l e R s m args below meth c Q D dA base b n0 u0 j (pc) (L) (S) (h) := by
  obtain ⟨hx, hb, hr, hml, hown, hts, hlocks, hnm, htb, hG⟩ := C
  intro H locs ls hR
  simp only [xact] at hA
  split at hA
  · next x a S2 =>
    split at hA
    · next hT =>
      obtain ⟨hT, hT1, hT2⟩ := hT
      obtain ⟨rfl, rfl, rfl, rfl⟩ := xgo_inj hA
      have hw := xws_get (dA := dA) (base := base) (xRel_lt hR (a := a) (by omega))
      rw [xcell_bool hT] at hw
      exact va_zald hx hb hG.1 hR.1 a 1 hw (xty_get (by omega)) (xin hT1 hT2) hd (kk H locs ls hR)
    · cases hA
  · cases hA
theorem xs_laload (C : xCtx p D dA base b sc j s m args meth c) (hd : decode (xmc j) pc = .ok (.laload, 1)) (hA : xact sc d j .laload pc L S h = some (.inl (pc', L', S', h'))) (kk : xW p l e R s m args below meth c Q D dA base b n0 u0 j (pc') (L') (S') (h')) : xW p l e R s m args below meth c Q D dA base b n0 u0 j (pc) (L) (S) (h) := by
  obtain ⟨hx, hb, hr, hml, hown, hts, hlocks, hnm, htb, hG⟩ := C
  intro H locs ls hR
  simp only [xact] at hA
  split at hA
  · next x a S2 =>
    split at hA
    · next hT =>
      obtain ⟨hT, hT1, hT2⟩ := hT
      obtain ⟨rfl, rfl, rfl, rfl⟩ := xgo_inj hA
      have hw := xws_get (dA := dA) (base := base) (xRel_lt hR (a := a) (by omega))
      rw [xcell_long hT] at hw
      exact va_lald hx hb hG.1 hR.1 a 2 hw (xty_get (by omega)) (xin hT1 hT2) hd (kk H locs ls hR)
    · cases hA
  · cases hA
theorem xAt_obj {q : Nat} (h1 : 40 ≤ q) : xAt (q - 37) = .object (xC (q - 40)) := by
  obtain ⟨k, rfl⟩ := Nat.exists_eq_add_of_le h1
  rw [show 40 + k - 37 = k + 3 by omega, show 40 + k - 40 = k by omega]
  rfl
theorem xs_aaload (C : xCtx p D dA base b sc j s m args meth c) (hd : decode (xmc j) pc = .ok (.aaload, 1)) (hA : xact sc d j .aaload pc L S h = some (.inl (pc', L', S', h'))) (kk : xW p l e R s m args below meth c Q D dA base b n0 u0 j (pc') (L') (S') (h')) : xW p l e R s m args below meth c Q D dA base b n0 u0 j (pc) (L) (S) (h) := by
  obtain ⟨hx, hb, hr, hml, hown, hts, hlocks, hnm, htb, hG⟩ := C
  intro H locs ls hR
  simp only [xact] at hA
  split at hA
  · next x a S2 =>
    split at hA
    · next hT =>
      obtain ⟨hT, hT3, hT1, hT2⟩ := hT
      obtain ⟨rfl, rfl, rfl, rfl⟩ := xgo_inj hA
      have hw := xws_get (dA := dA) (base := base) (xRel_lt hR (a := a) (by omega))
      rw [xcell_ref hT] at hw
      have ht := xty_get (dA := dA) (t := (h.1 a).1 - 37) (by omega)
      rw [xAt_obj hT] at ht
      have hk3 := kk H locs ls hR
      rw [List.map_cons, xtr_rf] at hk3
      exact va_aldq hx hb hG.1 hR.1 a ((h.1 a).1 - 37) hw ht (xin hT1 hT2) hd hk3
    · cases hA
  · cases hA
theorem xs_alen (C : xCtx p D dA base b sc j s m args meth c) (hd : decode (xmc j) pc = .ok (.arraylength, 1)) (hA : xact sc d j .arraylength pc L S h = some (.inl (pc', L', S', h'))) (kk : xW p l e R s m args below meth c Q D dA base b n0 u0 j (pc') (L') (S') (h')) : xW p l e R s m args below meth c Q D dA base b n0 u0 j (pc) (L) (S) (h) := by
  obtain ⟨hx, hb, hr, hml, hown, hts, hlocks, hnm, htb, hG⟩ := C
  intro H locs ls hR
  simp only [xact] at hA
  split at hA
  · next a S2 =>
    split at hA
    · next hT =>
      obtain ⟨rfl, rfl, rfl, rfl⟩ := xgo_inj hA
      have hw := xws_get (dA := dA) (base := base) (xRel_lt hR (a := a) (by omega))
      by_cases q1 : (h.1 a).1 = 32
      · rw [xcell_int q1] at hw
        exact va_alen hx hb hG.1 hR.1 a 0 hw (xty_get (by omega)) rfl hd (kk H locs ls hR)
      by_cases q2 : (h.1 a).1 = 33
      · rw [xcell_bool q2] at hw
        exact va_alen hx hb hG.1 hR.1 a 1 hw (xty_get (by omega)) rfl hd (kk H locs ls hR)
      by_cases q3 : (h.1 a).1 = 34
      · rw [xcell_long q3] at hw
        exact va_alen hx hb hG.1 hR.1 a 2 hw (xty_get (by omega)) rfl hd (kk H locs ls hR)
      · rw [xcell_ref (by omega)] at hw
        exact va_alen hx hb hG.1 hR.1 a ((h.1 a).1 - 37) hw (xty_get (by omega)) rfl hd (kk H locs ls hR)
    · cases hA
  · next z S2 =>
    obtain ⟨rfl, rfl, rfl, rfl⟩ := xgo_inj hA
    exact va_slen hx hb hG.2.1 (by have := hG.2.2.1; have := hG.2.2.2.1; omega) (Nat.not_le.mpr hG.2.2.1) hR.2.1 hd (kk H locs ls hR)
  · cases hA
theorem xs_iastore (C : xCtx p D dA base b sc j s m args meth c) (hd : decode (xmc j) pc = .ok (.iastore, 1)) (hA : xact sc d j .iastore pc L S h = some (.inl (pc', L', S', h'))) (kk : xW p l e R s m args below meth c Q D dA base b n0 u0 j (pc') (L') (S') (h')) : xW p l e R s m args below meth c Q D dA base b n0 u0 j (pc) (L) (S) (h) := by
  obtain ⟨hx, hb, hr, hml, hown, hts, hlocks, hnm, htb, hG⟩ := C
  intro H locs ls hR
  simp only [xact] at hA
  split at hA
  · next v x a S2 =>
    split at hA
    · next hT =>
      obtain ⟨hT, hT1, hT2⟩ := hT
      obtain ⟨rfl, rfl, rfl, rfl⟩ := xgo_inj hA
      have hw := xws_get (dA := dA) (base := base) (xRel_lt hR (a := a) (by omega))
      rw [xcell_int hT] at hw
      refine va_iast hx hb hG.1 hR.1 xws_D hR.2.1 a 0 hw (xty_get (by omega)) (xin hT1 hT2) hd (fun H1 locs1 hP1 _ hS1 => kk H1 locs1 ls (xRel_wr (a := a) hR ?_ hS1 rfl rfl (fun q hq => xcell_I hq)))
      rw [xcell_int (h := (h.1, h.2.1, xup2 h.2.2.1 a x.toNatClampNeg v, h.2.2.2.1, h.2.2.2.2)) hT]
      have e : xup2 h.2.2.1 a x.toNatClampNeg v a = upd (h.2.2.1 a) x.toNatClampNeg v := by funext q; simp [xup2, upd]
      show va_P D xcl ((xws dA base h).set a (base + a, .inl (dA 0, (h.1 a).2, .inl (xup2 h.2.2.1 a x.toNatClampNeg v a)))) H1
      rw [e]
      exact hP1
    · cases hA
  · cases hA
theorem xs_bastore (C : xCtx p D dA base b sc j s m args meth c) (hd : decode (xmc j) pc = .ok (.bastore, 1)) (hA : xact sc d j .bastore pc L S h = some (.inl (pc', L', S', h'))) (kk : xW p l e R s m args below meth c Q D dA base b n0 u0 j (pc') (L') (S') (h')) : xW p l e R s m args below meth c Q D dA base b n0 u0 j (pc) (L) (S) (h) := by
  obtain ⟨hx, hb, hr, hml, hown, hts, hlocks, hnm, htb, hG⟩ := C
  intro H locs ls hR
  simp only [xact] at hA
  split at hA
  · next v x a S2 =>
    split at hA
    · next hT =>
      obtain ⟨hT, hT1, hT2, hv⟩ := hT
      obtain ⟨rfl, rfl, rfl, rfl⟩ := xgo_inj hA
      have hw := xws_get (dA := dA) (base := base) (xRel_lt hR (a := a) (by omega))
      rw [xcell_bool hT] at hw
      have hv2 : vp_nar .boolean v = v := by rcases hv with rfl | rfl <;> rfl
      refine va_zast hx hb hG.1 hR.1 xws_D hR.2.1 a 1 hw (xty_get (by omega)) (xin hT1 hT2) hd (fun H1 locs1 hP1 _ hS1 => kk H1 locs1 ls (xRel_wr (a := a) hR ?_ hS1 rfl rfl (fun q hq => xcell_I hq)))
      rw [xcell_bool (h := (h.1, h.2.1, xup2 h.2.2.1 a x.toNatClampNeg v, h.2.2.2.1, h.2.2.2.2)) hT]
      have e : xup2 h.2.2.1 a x.toNatClampNeg v a = upd (h.2.2.1 a) x.toNatClampNeg v := by funext q; simp [xup2, upd]
      show va_P D xcl ((xws dA base h).set a (base + a, .inl (dA 1, (h.1 a).2, .inl (xup2 h.2.2.1 a x.toNatClampNeg v a)))) H1
      rw [hv2] at hP1
      rw [e]
      exact hP1
    · cases hA
  · cases hA
theorem xs_lastore (C : xCtx p D dA base b sc j s m args meth c) (hd : decode (xmc j) pc = .ok (.lastore, 1)) (hA : xact sc d j .lastore pc L S h = some (.inl (pc', L', S', h'))) (kk : xW p l e R s m args below meth c Q D dA base b n0 u0 j (pc') (L') (S') (h')) : xW p l e R s m args below meth c Q D dA base b n0 u0 j (pc) (L) (S) (h) := by
  obtain ⟨hx, hb, hr, hml, hown, hts, hlocks, hnm, htb, hG⟩ := C
  intro H locs ls hR
  simp only [xact] at hA
  split at hA
  · next v x a S2 =>
    split at hA
    · next hT =>
      obtain ⟨hT, hT1, hT2⟩ := hT
      obtain ⟨rfl, rfl, rfl, rfl⟩ := xgo_inj hA
      have hw := xws_get (dA := dA) (base := base) (xRel_lt hR (a := a) (by omega))
      rw [xcell_long hT] at hw
      refine va_last hx hb hG.1 hR.1 xws_D hR.2.1 a 2 hw (xty_get (by omega)) (xin hT1 hT2) hd (fun H1 locs1 hP1 _ hS1 => kk H1 locs1 ls (xRel_wr (a := a) hR ?_ hS1 rfl rfl (fun q hq => xcell_J hq)))
      rw [xcell_long (h := (h.1, h.2.1, h.2.2.1, xup2 h.2.2.2.1 a x.toNatClampNeg v, h.2.2.2.2)) hT]
      have e : xup2 h.2.2.2.1 a x.toNatClampNeg v a = vp_updL (h.2.2.2.1 a) x.toNatClampNeg v := by funext q; simp [xup2, vp_updL]
      show va_P D xcl ((xws dA base h).set a (base + a, .inl (dA 2, (h.1 a).2, .inr (.inl (xup2 h.2.2.2.1 a x.toNatClampNeg v a))))) H1
      rw [e]
      exact hP1
    · cases hA
  · cases hA
theorem xs_aastore (C : xCtx p D dA base b sc j s m args meth c) (hd : decode (xmc j) pc = .ok (.aastore, 1)) (hA : xact sc d j .aastore pc L S h = some (.inl (pc', L', S', h'))) (kk : xW p l e R s m args below meth c Q D dA base b n0 u0 j (pc') (L') (S') (h')) : xW p l e R s m args below meth c Q D dA base b n0 u0 j (pc) (L) (S) (h) := by
  obtain ⟨hx, hb, hr, hml, hown, hts, hlocks, hnm, htb, hG⟩ := C
  intro H locs ls hR
  simp only [xact] at hA
  split at hA
  · next v x a S2 =>
    split at hA
    · next hT =>
      obtain ⟨hT, hT4, hT1, hT2, hq, hTq⟩ := hT
      obtain ⟨rfl, rfl, rfl, rfl⟩ := xgo_inj hA
      have hw := xws_get (dA := dA) (base := base) (xRel_lt hR (a := a) (by omega))
      rw [xcell_ref hT] at hw
      have ht := xty_get (dA := dA) (t := (h.1 a).1 - 37) (by omega)
      rw [xAt_obj hT] at ht
      have hTq2 : h.1 v = (1 + ((h.1 a).1 - 40), 0) := by rw [hTq]; congr 1; omega
      refine va_astq (r := (xC ((h.1 a).1 - 40), xT ((h.1 a).1 - 40), xN ((h.1 a).1 - 40))) (ci := (h.1 a).1 - 40) hx hb hG.1 hR.1 xws_D hR.2.1 a ((h.1 a).1 - 37) v hw ht (xRel_ob hR (by omega) hTq2) (xcl_get (by omega)) (xin hT1 hT2) hd (fun H1 locs1 hP1 _ hS1 => kk H1 locs1 ls (xRel_wr (a := a) hR ?_ hS1 rfl rfl (fun q hq => xcell_R hq)))
      rw [xcell_ref (h := (h.1, h.2.1, h.2.2.1, h.2.2.2.1, xup2 h.2.2.2.2 a x.toNatClampNeg (some v))) hT]
      have e : (fun k => (xup2 h.2.2.2.2 a x.toNatClampNeg (some v) a k).map (fun q => base + q)) = va_up (fun k => (h.2.2.2.2 a k).map (fun q => base + q)) x.toNatClampNeg (some (base + v)) := by
        funext q
        by_cases z : q = x.toNatClampNeg
        · subst z; simp [xup2, va_up]
        · simp [xup2, va_up, z]
      show va_P D xcl ((xws dA base h).set a (base + a, .inl (dA ((h.1 a).1 - 37), (h.1 a).2, .inr (.inr (.inr (.inr (fun k => (xup2 h.2.2.2.2 a x.toNatClampNeg (some v) a k).map (fun q => base + q)))))))) H1
      rw [e]
      exact hP1
    · cases hA
  · cases hA
end XST3
end
section
section XST4
variable {p : Program} {l : Launch} {e : Env} {R : Room} {s : State} {m : MethodId} {args : Array Value} {below : List Frame} {meth : Method} {c : Code} {Q : State → Prop} {D : va_G} {dA : Nat → ClassId} {base b n0 u0 j d pc pc' : Nat} {L L' : xL} {S S' : List Value} {h h' : xH} {sc : xS}
variable {i0 : Nat}
theorem xthr_no {e0 : Nat} (hA : xthr d i0 pc e0 S h = some (.inl (pc', L', S', h'))) : False := by
  unfold xthr at hA
  split at hA
  · split at hA
    · split at hA
      · split at hA <;> cases hA
      · cases hA
    · split at hA
      · split at hA <;> cases hA
      · cases hA
    · cases hA
  · cases hA
theorem xKL_at {o i0 c0 q0 : Nat} (h0 : xlk xKL o i0 = some (c0, q0)) : Cond.classLink (xC o) i0 (xC c0) ∈ xG0 := by
  have h1 := List.all_eq_true.mp xKL_ok _ (xlk_mem h0)
  rw [Bool.and_eq_true] at h1
  exact xG0_of (of_decide_eq_true h1.1) h1.2
theorem xNW_c {c0 : Nat} (hc : c0 < 8) : Cond.instantiable (xC c0) (xN c0) ∈ xG0 ∧ Cond.initialized (xC c0) ∈ xG0 := by
  have h1 := List.all_eq_true.mp xNW_ok c0 (List.mem_range.mpr hc)
  simp only [Bool.and_eq_true] at h1
  obtain ⟨⟨⟨a1, a2⟩, a3⟩, a4⟩ := h1
  exact ⟨List.mem_filter.mpr ⟨of_decide_eq_true a1, a3⟩, List.mem_filter.mpr ⟨of_decide_eq_true a2, a4⟩⟩
theorem xRel_new {H H1 : Heap} {locs : List Loc} {ls : Array Slot} (hR : xRel D dA base b n0 u0 j s h L H locs ls) {sh : Nat × Nat} {n : Nat} (hsz : H.size = base + h.2.1.1) (z1 : H1.size = H.size + 1) (o1 : ∀ q, q < H.size → H1[q]? = H[q]?) (hat : va_at D xcl (base + h.2.1.1, xcell dA base (xnew h sh n) h.2.1.1) H1) : xRel D dA base b n0 u0 j s (xnew h sh n) L H1 locs ls := by
  obtain ⟨r1, r2, r3, r4, r5, r6, r7⟩ := hR
  refine ⟨?_, ⟨Nat.le_trans r2.1 (by omega), fun x h1 h2 => (o1 x (Nat.lt_of_lt_of_le h1 r2.1)).trans (r2.2.1 x h1 h2), r2.2.2⟩, r3, r4, ?_, ?_, fun q hq => ?_⟩
  · rw [← xws_push (h := h) rfl (fun q hq => xcell_N hq)]
    refine (r1.kept fun k x hx => o1 x.1 ((r1 k x hx).lt)).app (fun k x hx => ?_)
    have hz : k < 1 := (List.getElem?_eq_some_iff.mp hx).1
    rw [show k = 0 by omega] at hx
    cases hx
    exact hat
  · show n0 ≤ h.2.1.1 + 1
    omega
  · show u0 ≤ h.2.1.2 + n
    omega
  · have hq2 : h.2.1.1 + 1 ≤ q := hq
    show (va_up h.1 h.2.1.1 sh q).1 = 0
    rw [va_up, if_neg (by omega)]
    exact r7 q (by omega)
theorem xs_new {idx : Nat} (C : xCtx p D dA base b sc j s m args meth c) (hs0 : s.heap.size = base + n0) (hres : h'.2.1.1 - n0 ≤ R.cells ∧ h'.2.1.2 - u0 ≤ R.slots) (hd : decode (xmc j) pc = .ok (.new idx, 3)) (hA : xact sc d j (.new idx) pc L S h = some (.inl (pc', L', S', h'))) (kk : xW p l e R s m args below meth c Q D dA base b n0 u0 j (pc') (L') (S') (h')) : xW p l e R s m args below meth c Q D dA base b n0 u0 j (pc) (L) (S) (h) := by
  obtain ⟨hx, hb, hr, hml, hown, hts, hlocks, hnm, htb, hG⟩ := C
  intro H locs ls hR
  simp only [xact] at hA
  split at hA
  · next c2 q0 hf =>
    split at hA
    · next hc =>
      obtain ⟨rfl, rfl, rfl, rfl⟩ := xgo_inj hA
      have hn0 := hR.2.2.2.2.1
      have hu0 := hR.2.2.2.2.2.1
      have hcl := xcl_get (c := c2) (by omega)
      have hKn := hG.1.1 c2 _ hcl
      have h8 : h.2.1.1 + 1 - n0 ≤ R.cells := hres.1
      have h9 : h.2.1.2 + xN c2 - u0 ≤ R.slots := hres.2
      refine xsz hs0 hR fun hsz => ?_
      refine W.newcK hx hb hown (hts _ (xKL_at hf)) (hts _ (xNW_c hc).1) (hts _ (xNW_c hc).2) rfl hd (by omega) (by omega) hKn.2.1 hsz fun H1 kC hkC e1 z1 o1 => ?_
      have hT : (xnew h (1 + c2, 0) (xN c2)).1 h.2.1.1 = (1 + c2, 0) := by simp [xnew, va_up]
      have hat : va_at D xcl (base + h.2.1.1, xcell dA base (xnew h (1 + c2, 0) (xN c2)) h.2.1.1) H1 := by
        rw [xcell_obj (h := xnew h (1 + c2, 0) (xN c2)) (c := c2) (by omega) hT]
        refine ⟨_, hcl, (u_born (xY c2) hts (xUW_at hc) hKn hkC e1 (xY_at hc).1).to fun q hq => ?_⟩
        have h1 := xfld_get (base := base) (h := xnew h (1 + c2, 0) (xN c2)) (a := h.2.1.1) hq
        unfold vp_V
        rw [List.getD_eq_getElem?_getD, h1]
        obtain ⟨t0, t1, t2⟩ := xfk_ty hc hq
        by_cases k2 : xfk c2 q = 2
        · rw [if_pos k2]
          rcases t2 k2 with ⟨n, e⟩ | ⟨n, e⟩ <;> rw [e] <;> simp [xnew, va_up, va_rf, defaultValue]
        · rw [if_neg k2]
          have k3 : xfk c2 q = 0 ∨ xfk c2 q = 1 := by
            unfold xfk at k2 ⊢
            split at k2 <;> simp_all
          rcases k3 with k3 | k3
          · rw [t0 k3]; simp [xnew, va_up, defaultValue]
          · rw [t1 k3]; simp [xnew, va_up, defaultValue]
      have k9 := kk H1 locs ls (xRel_new hR hsz (by rw [z1, hsz]) (fun q hq => o1 q (by rw [← hsz]; exact hq)) hat)
      have e8 : (xnew h (1 + c2, 0) (xN c2)).2.1.1 - n0 = h.2.1.1 - n0 + 1 := by show h.2.1.1 + 1 - n0 = _; omega
      have e9 : (xnew h (1 + c2, 0) (xN c2)).2.1.2 - u0 = h.2.1.2 - u0 + xN c2 := by show h.2.1.2 + xN c2 - u0 = _; omega
      rw [e8, e9] at k9
      exact k9
    · split at hA
      · exact (xthr_no hA).elim
      · cases hA
  · cases hA
theorem xAW_at : Cond.arrayClass .int ∈ xG0 ∧ Cond.arrayClass .boolean ∈ xG0 ∧ Cond.arrayClass .long ∈ xG0 := by
  have h1 := xAW_ok
  simp only [Bool.and_eq_true] at h1
  obtain ⟨⟨a1, a2⟩, a3⟩ := h1
  exact ⟨List.mem_filter.mpr ⟨of_decide_eq_true a1, rfl⟩, List.mem_filter.mpr ⟨of_decide_eq_true a2, rfl⟩, List.mem_filter.mpr ⟨of_decide_eq_true a3, rfl⟩⟩
theorem xs_newarray {ty : ArrayType} (C : xCtx p D dA base b sc j s m args meth c) (hs0 : s.heap.size = base + n0) (hres : h'.2.1.1 - n0 ≤ R.cells ∧ h'.2.1.2 - u0 ≤ R.slots) (hd : decode (xmc j) pc = .ok (.newarray ty, 2)) (hA : xact sc d j (.newarray ty) pc L S h = some (.inl (pc', L', S', h'))) (kk : xW p l e R s m args below meth c Q D dA base b n0 u0 j (pc') (L') (S') (h')) : xW p l e R s m args below meth c Q D dA base b n0 u0 j (pc) (L) (S) (h) := by
  obtain ⟨hx, hb, hr, hml, hown, hts, hlocks, hnm, htb, hG⟩ := C
  intro H locs ls hR
  simp only [xact] at hA
  split at hA
  · next x S2 =>
    split at hA
    · cases hA
    · next hx2 =>
      have hxn : ¬ x < 0 := fun q => hx2 (Or.inl q)
      have hxl : ¬ 1000 < x.toNatClampNeg := fun q => hx2 (Or.inr q)
      have hn0 := hR.2.2.2.2.1
      have hu0 := hR.2.2.2.2.2.1
      split at hA
      all_goals first | (cases hA; done) | skip
      · obtain ⟨rfl, rfl, rfl, rfl⟩ := xgo_inj hA
        have h8 : h.2.1.1 + 1 - n0 ≤ R.cells := hres.1
        have h9 : h.2.1.2 + x.toNatClampNeg - u0 ≤ R.slots := hres.2
        refine xsz hs0 hR fun hsz => ?_
        refine va_newaK (atype := .int) hx hb (hts _ xAW_at.1) rfl hd rfl hxn rfl (by show x.toNatClampNeg * 4 ≤ _; omega) (by omega) (by omega) hsz fun H1 cA e1 z1 o1 hAr hNm => ?_
        have hcA : cA = dA 0 := Option.some.inj (hNm.symm.trans (hG.1.2 0 _ (xty_get (by omega))).2)
        subst hcA
        have hat : va_at D xcl (base + h.2.1.1, xcell dA base (xnew h (32, x.toNatClampNeg) x.toNatClampNeg) h.2.1.1) H1 := by
          rw [xcell_int (h := xnew h (32, x.toNatClampNeg) x.toNatClampNeg) (by simp [xnew, va_up])]
          refine e1.trans ?_
          simp [vp_cell, xnew, va_up, newarray.typeOf, defaultValue]
        have k9 := kk H1 locs ls (xRel_new hR hsz (by rw [z1, hsz]) (fun q hq => o1 q (by rw [← hsz]; exact hq)) hat)
        have e8 : (xnew h (32, x.toNatClampNeg) x.toNatClampNeg).2.1.1 - n0 = h.2.1.1 - n0 + 1 := by show h.2.1.1 + 1 - n0 = _; omega
        have e9 : (xnew h (32, x.toNatClampNeg) x.toNatClampNeg).2.1.2 - u0 = h.2.1.2 - u0 + x.toNatClampNeg := by show h.2.1.2 + x.toNatClampNeg - u0 = _; omega
        rw [e8, e9] at k9
        exact k9
      · obtain ⟨rfl, rfl, rfl, rfl⟩ := xgo_inj hA
        have h8 : h.2.1.1 + 1 - n0 ≤ R.cells := hres.1
        have h9 : h.2.1.2 + x.toNatClampNeg - u0 ≤ R.slots := hres.2
        refine xsz hs0 hR fun hsz => ?_
        refine va_newaK (atype := .boolean) hx hb (hts _ xAW_at.2.1) rfl hd rfl hxn rfl (by show x.toNatClampNeg * 1 ≤ _; omega) (by omega) (by omega) hsz fun H1 cA e1 z1 o1 hAr hNm => ?_
        have hcA : cA = dA 1 := Option.some.inj (hNm.symm.trans (hG.1.2 1 _ (xty_get (by omega))).2)
        subst hcA
        have hat : va_at D xcl (base + h.2.1.1, xcell dA base (xnew h (33, x.toNatClampNeg) x.toNatClampNeg) h.2.1.1) H1 := by
          rw [xcell_bool (h := xnew h (33, x.toNatClampNeg) x.toNatClampNeg) (by simp [xnew, va_up])]
          refine e1.trans ?_
          simp [vp_cell, xnew, va_up, newarray.typeOf, defaultValue]
        have k9 := kk H1 locs ls (xRel_new hR hsz (by rw [z1, hsz]) (fun q hq => o1 q (by rw [← hsz]; exact hq)) hat)
        have e8 : (xnew h (33, x.toNatClampNeg) x.toNatClampNeg).2.1.1 - n0 = h.2.1.1 - n0 + 1 := by show h.2.1.1 + 1 - n0 = _; omega
        have e9 : (xnew h (33, x.toNatClampNeg) x.toNatClampNeg).2.1.2 - u0 = h.2.1.2 - u0 + x.toNatClampNeg := by show h.2.1.2 + x.toNatClampNeg - u0 = _; omega
        rw [e8, e9] at k9
        exact k9
      · obtain ⟨rfl, rfl, rfl, rfl⟩ := xgo_inj hA
        have h8 : h.2.1.1 + 1 - n0 ≤ R.cells := hres.1
        have h9 : h.2.1.2 + x.toNatClampNeg - u0 ≤ R.slots := hres.2
        refine xsz hs0 hR fun hsz => ?_
        refine va_newaK (atype := .long) hx hb (hts _ xAW_at.2.2) rfl hd rfl hxn rfl (by show x.toNatClampNeg * 8 ≤ _; omega) (by omega) (by omega) hsz fun H1 cA e1 z1 o1 hAr hNm => ?_
        have hcA : cA = dA 2 := Option.some.inj (hNm.symm.trans (hG.1.2 2 _ (xty_get (by omega))).2)
        subst hcA
        have hat : va_at D xcl (base + h.2.1.1, xcell dA base (xnew h (34, x.toNatClampNeg) x.toNatClampNeg) h.2.1.1) H1 := by
          rw [xcell_long (h := xnew h (34, x.toNatClampNeg) x.toNatClampNeg) (by simp [xnew, va_up])]
          refine e1.trans ?_
          simp [vp_cell, xnew, va_up, newarray.typeOf, defaultValue]
        have k9 := kk H1 locs ls (xRel_new hR hsz (by rw [z1, hsz]) (fun q hq => o1 q (by rw [← hsz]; exact hq)) hat)
        have e8 : (xnew h (34, x.toNatClampNeg) x.toNatClampNeg).2.1.1 - n0 = h.2.1.1 - n0 + 1 := by show h.2.1.1 + 1 - n0 = _; omega
        have e9 : (xnew h (34, x.toNatClampNeg) x.toNatClampNeg).2.1.2 - u0 = h.2.1.2 - u0 + x.toNatClampNeg := by show h.2.1.2 + x.toNatClampNeg - u0 = _; omega
        rw [e8, e9] at k9
        exact k9
  · cases hA
theorem xs_anewarray {idx : Nat} (C : xCtx p D dA base b sc j s m args meth c) (hs0 : s.heap.size = base + n0) (hres : h'.2.1.1 - n0 ≤ R.cells ∧ h'.2.1.2 - u0 ≤ R.slots) (hd : decode (xmc j) pc = .ok (.anewarray idx, 3)) (hA : xact sc d j (.anewarray idx) pc L S h = some (.inl (pc', L', S', h'))) (kk : xW p l e R s m args below meth c Q D dA base b n0 u0 j (pc') (L') (S') (h')) : xW p l e R s m args below meth c Q D dA base b n0 u0 j (pc) (L) (S) (h) := by
  obtain ⟨hx, hb, hr, hml, hown, hts, hlocks, hnm, htb, hG⟩ := C
  intro H locs ls hR
  simp only [xact] at hA
  split at hA
  · next x S2 =>
    split at hA
    · next c2 q0 hf =>
      split at hA
      · cases hA
      · next hx2 =>
        have hxn : ¬ x < 0 := fun q => hx2 (Or.inl q)
        have hxl : ¬ 1000 < x.toNatClampNeg := fun q => hx2 (Or.inr (Or.inl q))
        have hc4 : ¬ 4 ≤ c2 := fun q => hx2 (Or.inr (Or.inr q))
        have hn0 := hR.2.2.2.2.1
        have hu0 := hR.2.2.2.2.2.1
        obtain ⟨rfl, rfl, rfl, rfl⟩ := xgo_inj hA
        have h8 : h.2.1.1 + 1 - n0 ≤ R.cells := hres.1
        have h9 : h.2.1.2 + x.toNatClampNeg - u0 ≤ R.slots := hres.2
        have hAO : va_AO (xC c2) s := hG.2.2.2.2.2.2.2.2.1 c2 (by omega)
        refine xsz hs0 hR fun hsz => ?_
        refine W.anew hx hb hown (hts _ (xKL_at hf)) (va_AO.use hAO) rfl hd rfl hxn (by omega) (by omega) (by omega) fun cA kA comp f1 f2 f3 f4 => ?_
        obtain ⟨kA2, comp2, g1, g2, g3, g4⟩ : va_RA s (dA (c2 + 3)) (.object (xC c2)) := (hG.1.2 (c2 + 3) _ (xty_get (by omega))).2
        have hcA : cA = dA (c2 + 3) := Option.some.inj (f1.symm.trans g4)
        subst hcA
        generalize hH1 : H.push ({ cls := dA (c2 + 3), slots := Array.replicate x.toNatClampNeg .null, vm := .none } : Cell) = H1
        have z1 : H1.size = H.size + 1 := by rw [← hH1, Array.size_push]
        have e1 : H1[H.size]? = some (arrV (dA (c2 + 3)) x.toNatClampNeg (fun _ => .null)) := by rw [← hH1, Array.getElem?_push_size, ← arrV_new]
        have o1 : ∀ q : Nat, q < H.size → H1[q]? = H[q]? := fun q hq => by rw [← hH1, Array.getElem?_push, if_neg (Nat.ne_of_lt hq)]
        have hat : va_at D xcl (base + h.2.1.1, xcell dA base (xnew h (40 + c2, x.toNatClampNeg) x.toNatClampNeg) h.2.1.1) H1 := by
          have hT : (xnew h (40 + c2, x.toNatClampNeg) x.toNatClampNeg).1 h.2.1.1 = (40 + c2, x.toNatClampNeg) := by simp [xnew, va_up]
          rw [xcell_ref (h := xnew h (40 + c2, x.toNatClampNeg) x.toNatClampNeg) (by rw [hT]; show 40 ≤ 40 + c2; omega), hT]
          rw [hsz] at e1
          refine e1.trans ?_
          show _ = some (vp_cell (dA (40 + c2 - 37)) _)
          rw [show 40 + c2 - 37 = c2 + 3 by omega]
          simp [vp_cell, xnew, va_up, va_rf]
        have k9 := kk H1 locs ls (xRel_new hR hsz z1 o1 hat)
        have e8 : (xnew h (40 + c2, x.toNatClampNeg) x.toNatClampNeg).2.1.1 - n0 = h.2.1.1 - n0 + 1 := by show h.2.1.1 + 1 - n0 = _; omega
        have e9 : (xnew h (40 + c2, x.toNatClampNeg) x.toNatClampNeg).2.1.2 - u0 = h.2.1.2 - u0 + x.toNatClampNeg := by show h.2.1.2 + x.toNatClampNeg - u0 = _; omega
        rw [e8, e9] at k9
        rw [hsz]
        exact k9
    · cases hA
  · cases hA
theorem xsum {S0 : List Value} (h0 : S0.length ≤ 4) : ((S0.map (xtr base b)).map fun v => v.category).sum ≤ 8 := by
  have key : ∀ T : List Value, (T.map fun v => v.category).sum ≤ 2 * T.length := by
    intro T
    induction T with
    | nil => exact Nat.le_refl _
    | cons v T ih =>
      rw [List.map_cons, List.sum_cons, List.length_cons]
      have : v.category ≤ 2 := by cases v <;> simp [Value.category]
      omega
  have h1 := key (S0.map (xtr base b))
  rw [List.length_map] at h1
  omega
theorem xsum8 {S0 : List Value} (h0 : S0.length ≤ 4 ∨ (S0.length ≤ 8 ∧ S0.all xcat1 = true)) : ((S0.map (xtr base b)).map fun v => v.category).sum ≤ 8 := by
  rcases h0 with h0 | ⟨h0, hc⟩
  · exact xsum h0
  · have key : ∀ T : List Value, T.all xcat1 = true → ((T.map (xtr base b)).map fun v => v.category).sum ≤ T.length := by
      intro T
      induction T with
      | nil => intro _; exact Nat.le_refl _
      | cons v T ih =>
        intro hq
        rw [List.all_cons, Bool.and_eq_true] at hq
        rw [List.map_cons, List.map_cons, List.sum_cons, List.length_cons]
        have h1 := ih hq.2
        have h2 : (xtr base b v).category ≤ 1 := by
          have h3 := hq.1
          cases v <;> simp_all [xcat1, xtr, Value.category]
        omega
    have := key S0 hc
    omega
theorem xOW_at : Cond.instanceMethod Lib.objectInit ∈ xG0 ∧ Cond.code Lib.objectInit ⟨#[0xb1]⟩ 1 none ∈ xG0 := by
  have h1 := xOW_ok
  simp only [Bool.and_eq_true] at h1
  obtain ⟨⟨⟨a1, a2⟩, a3⟩, a4⟩ := h1
  exact ⟨List.mem_filter.mpr ⟨of_decide_eq_true a1, a3⟩, List.mem_filter.mpr ⟨of_decide_eq_true a2, a4⟩⟩
theorem xs_objinit {idx : Nat} (C : xCtx p D dA base b sc j s m args meth c) (hF : R.frames = d ∧ 40 * d ≤ R.locals) (hd : decode (xmc j) pc = .ok (.invokespecial idx, 3)) (hA : xact sc d j (.invokespecial idx) pc L S h = some (.inl (pc', L', S', h'))) (kk : xW p l e R s m args below meth c Q D dA base b n0 u0 j (pc') (L') (S') (h')) : xW p l e R s m args below meth c Q D dA base b n0 u0 j (pc) (L) (S) (h) := by
  obtain ⟨hx, hb, hr, hml, hown, hts, hlocks, hnm, htb, hG⟩ := C
  intro H locs ls hR
  simp only [xact] at hA
  split at hA
  · split at hA
    · unfold xinv xcal at hA
      split at hA <;> cases hA
    · cases hA
  · cases hA
  · split at hA
    · next q0 a S2 hf =>
      split at hA
      · next hd2 =>
        obtain ⟨rfl, rfl, rfl, rfl⟩ := xgo_inj hA
        have h1 := List.all_eq_true.mp xOL_ok _ (xlk_mem hf)
        rw [Bool.and_eq_true] at h1
        have h2 : Cond.methodLink (xC (xmo j)) idx Lib.objectInit ∈ xG0 := xG0_of (of_decide_eq_true h1.1) h1.2
        have h3 := xsum (base := base) (b := b) hd2.2
        refine W.objInit hx hb hown (hts _ h2) (hts _ xOW_at.1) (hts _ xOW_at.2) rfl (by rw [hml]; exact hR.2.2.2.1.1) rfl hd (by rw [hF.1]; exact hd2.1) ?_ ?_
        · show 2 * 0 + _ + 12 ≤ _
          have := hF.2
          have := hd2.1
          show _ ≤ R.locals
          omega
        · exact kk H locs ls hR
      · cases hA
    · cases hA
end XST4
end
section
section XST5
variable {p : Program} {l : Launch} {e : Env} {R : Room} {s : State} {m : MethodId} {args : Array Value} {below : List Frame} {meth : Method} {c : Code} {Q : State → Prop} {D : va_G} {dA : Nat → ClassId} {base b n0 u0 j d pc pc' : Nat} {L L' : xL} {S S' : List Value} {h h' : xH} {sc : xS}
/-! nothing is given back: cells and slots only grow -/
def xle (h h' : xH) : Prop := h.2.1.1 ≤ h'.2.1.1 ∧ h.2.1.2 ≤ h'.2.1.2
theorem xle_rf (h : xH) : xle h h := ⟨Nat.le_refl _, Nat.le_refl _⟩
theorem xle_tr {h1 h2 h3 : xH} (a : xle h1 h2) (b : xle h2 h3) : xle h1 h3 := ⟨Nat.le_trans a.1 b.1, Nat.le_trans a.2 b.2⟩
theorem xle_new (h : xH) (sh : Nat × Nat) (n : Nat) : xle h (xnew h sh n) := ⟨Nat.le_succ _, Nat.le_add_right _ _⟩
theorem xcal_no {j0 : Nat} {as : List Value} {S0 : List Value} (hA : xcal j0 as pc S0 = some (.inl (pc', L', S', h'))) : False := by cases hA
theorem xinv_no {j0 : Nat} {S0 : List Value} (hA : xinv j0 pc S0 = some (.inl (pc', L', S', h'))) : False := by
  unfold xinv at hA
  split at hA
  · exact xcal_no hA
  · cases hA
theorem xend_no {o : xO} {h0 : xH} (hA : xend o h0 = some (.inl (pc', L', S', h'))) : False := by cases hA
set_option maxHeartbeats 4000000 in
theorem xact_mono {ins : Instr} (hA : xact sc d j ins pc L S h = some (.inl (pc', L', S', h'))) : xle h h' := by
  unfold xact at hA
  split at hA
  all_goals repeat' (split at hA)
  all_goals first
    | (cases hA; done)
    | exact (xthr_no hA).elim
    | exact (xinv_no hA).elim
    | exact (xend_no hA).elim
    | (obtain ⟨-, -, -, rfl⟩ := xgo_inj hA; first | exact xle_rf _ | exact xle_new _ _ _)
    | (obtain ⟨-, -, -, -, rfl⟩ := xst_inj hA; exact xle_rf _)
    | (obtain ⟨-, -, -, -, rfl⟩ := xbr_inj hA; exact xle_rf _)
theorem xend_inj {o o2 : xO} {h1 h2 : xH} (e : xend o h1 = some (.inr (.inl (o2, h2)))) : o = o2 ∧ h1 = h2 := by
  unfold xend at e
  cases e
  exact ⟨rfl, rfl⟩
theorem xgo_ne {a : Nat} {L2 : xL} {S2 : List Value} {h2 : xH} {r : (xO × xH) ⊕ (Nat × List Value × Nat × List Value)} (hA : xgo a L2 S2 h2 = some (.inr r)) : False := by cases hA
theorem xst_ne {a k : Nat} {v : Value} {L2 : xL} {S2 : List Value} {h2 : xH} {r : (xO × xH) ⊕ (Nat × List Value × Nat × List Value)} (hA : xst L2 k v a S2 h2 = some (.inr r)) : False := by
  unfold xst at hA
  split at hA
  · exact xgo_ne hA
  · cases hA
theorem xbr_ne {cnd : Prop} {ic : Decidable cnd} {off : Int} {r : (xO × xH) ⊕ (Nat × List Value × Nat × List Value)} (hA : @xbr cnd ic pc off L S h = some (.inr r)) : False := by
  unfold xbr at hA
  split at hA
  · exact xgo_ne hA
  · cases hA
theorem xinv_ne {j0 : Nat} {S0 : List Value} {r : xO × xH} (hA : xinv j0 pc S0 = some (.inr (.inl r))) : False := by
  unfold xinv at hA
  split at hA
  · cases hA
  · cases hA
theorem xthr_eq {i e0 : Nat} {o : xO} (hA : xthr d i pc e0 S h = some (.inr (.inl (o, h')))) : o = .inr e0 ∧ h' = xnew h (1 + e0, 0) 6 := by
  unfold xthr at hA
  split at hA
  · split at hA
    · split at hA
      · split at hA
        · obtain ⟨e1, e2⟩ := xend_inj hA; exact ⟨e1.symm, e2.symm⟩
        · cases hA
      · cases hA
    · split at hA
      · split at hA
        · obtain ⟨e1, e2⟩ := xend_inj hA; exact ⟨e1.symm, e2.symm⟩
        · cases hA
      · cases hA
    · cases hA
  · cases hA
theorem xthr_nc {i e0 : Nat} {r : Nat × List Value × Nat × List Value} (hA : xthr d i pc e0 S h = some (.inr (.inr r))) : False := by
  unfold xthr at hA
  split at hA
  · split at hA
    · split at hA
      · split at hA <;> cases hA
      · cases hA
    · split at hA
      · split at hA <;> cases hA
      · cases hA
    · cases hA
  · cases hA
set_option maxHeartbeats 4000000 in
theorem xact_monoE {ins : Instr} {o : xO} (hA : xact sc d j ins pc L S h = some (.inr (.inl (o, h')))) : xle h h' := by
  unfold xact at hA
  split at hA
  all_goals repeat' (split at hA)
  all_goals first
    | (cases hA; done)
    | exact (xgo_ne hA).elim
    | exact (xst_ne hA).elim
    | exact (xbr_ne hA).elim
    | exact (xinv_ne hA).elim
    | (obtain ⟨-, rfl⟩ := xend_inj hA; exact xle_rf _)
    | (obtain ⟨-, rfl⟩ := xthr_eq hA; exact xle_new _ _ _)
theorem xret_le {i : Nat} {k : xK1} {r : xR} {h0 : xH} (hk : ∀ pc L S h o, k pc L S h = some o → xle h o.2) (hr : ∀ o, r = some o → xle h0 o.2) {o : xO × xH} (hh : xret i k pc pc' L S r = some o) : xle h0 o.2 := by
  cases r with
  | none => cases hh
  | some q =>
    have h1 := hr q rfl
    obtain ⟨q1, q2⟩ := q
    cases q1 with
    | inl v => cases v with
      | none => exact xle_tr h1 (hk _ _ _ _ _ hh)
      | some v => exact xle_tr h1 (hk _ _ _ _ _ hh)
    | inr e =>
      simp only [xret] at hh
      split at hh
      · cases hh; exact h1
      · split at hh
        · split at hh
          · exact xle_tr h1 (hk _ _ _ _ _ hh)
          · cases hh
        · cases hh
theorem xrun_le {i : Nat} {call : xC1} (hc : ∀ j as h o, call j as h = some o → xle h o.2) (F : Nat) : ∀ pc L S h o, xrun sc d i call F pc L S h = some o → xle h o.2 := by
  induction F with
  | zero => intro pc L S h o hh; cases hh
  | succ F ih =>
    intro pc L S h o hh
    simp only [xrun] at hh
    split at hh
    · cases hh
    · next ins hins =>
      generalize hA : xact sc d i ins pc L S h = A at hh
      match A, hA, hh with
      | some (.inl (pc', L', S', h')), hA, hh => exact xle_tr (xact_mono hA) (ih _ _ _ _ _ hh)
      | some (.inr (.inl (o1, h1))), hA, hh => cases hh; exact xact_monoE hA
      | some (.inr (.inr (j, as, pc', S'))), hA, hh => exact xret_le ih (fun o h1 => hc _ _ _ _ h1) hh
theorem xcall_le (d : Nat) : ∀ (F j : Nat) (as : List Value) (h : xH) (o : xO × xH), xcall sc d F j as h = some o → xle h o.2 := by
  induction d with
  | zero => intro F j as h o hh; rw [xcall_0] at hh; cases hh
  | succ d ih =>
    intro F j as h o hh
    rw [xcall_s] at hh
    split at hh
    · exact xrun_le (fun j as h o q => ih F j as h o q) F _ _ _ _ _ hh
    · cases hh
end XST5
end
section
section XTH
variable {p : Program} {l : Launch} {e : Env} {R : Room} {s : State} {m : MethodId} {args : Array Value} {below : List Frame} {meth : Method} {c : Code} {H : Heap} {locs : List Loc} {cells slots : Nat} {Q : State → Prop}
variable {mc ms : Nat} {free : Addr → Prop} {A0 A1 : Nat → Prop} {H0 : Heap} {a : Array Value} {ls : Array Slot} {st0 rest : List Value}
variable {Qc : Array Value → State → Outcome → State → Prop} {XC : String → State → State → Prop}
theorem ux_throwS {cc : ByteArray} {pc : Nat} (hexec : p.tables.exec = Jvm.exec) (hb : c.code = cc) (hl : l.stackTraces = false) {own cls text : String} {names : List String} {ik is ic mc ms sa : Nat} {A : Nat → Prop}
    (hown : s.vm.findClass own = some m.cls) (hcls : Bundle.fit cls = true) (hnames : ∀ n ∈ names, Bundle.fit n = true)
    (hk : (Cond.classLink own ik cls).before args s = true) (hini : (Cond.initialized cls).before args s = true) (hstr : vk_R own is text sa s) (hat : ∀ w ∈ vx_atS own ic cls names, w.before args s = true)
    (hgood : ∀ w ∈ Cond.classLink own ik cls :: Cond.initialized cls :: vx_atS own ic cls names, vx_ot w = true)
    (hU : vx_Zq Bundle.tN "UNASSIGNED_STACK" Bundle.steD A s s.heap) (hN : vx_Zq Bundle.tN "SUPPRESSED_SENTINEL" Bundle.listD A s s.heap) (hS : va_S A s.heap H locs) (hsize : ls.size = c.maxLocals)
    (d0 : decode cc pc = .ok (.new ik, 3)) (d3 : decode cc (pc + 3) = .ok (.dup, 1)) (d4 : decode cc (pc + 4) = .ok (.ldc is, 2)) (d6 : decode cc (pc + 6) = .ok (.invokespecial ic, 3)) (d9 : decode cc (pc + 9) = .ok (.athrow, 1))
    (hout : ∀ x ∈ c.exceptionTable.toList, covers x (pc + 9) = false)
    (hRframes : names.length + 3 < R.frames) (hRlocals : (rest.map fun v => v.category).sum + (13 * (names.length + 1) + 43) ≤ R.locals) (hRcells : cells + 1 ≤ R.cells) (hRslots : slots + 6 ≤ R.slots) (hlocks : meth.locks = false)
    (hx : ∀ (t : State) (ce : Cell), s.vm.Alike t.vm → t.heap.size = H.size + 1 → (∀ q : Nat, q < H.size → t.heap[q]? = H[q]?) → t.heap[H.size]? = some ce → ce.vm = .none → s.vm.findClass cls = some ce.cls → XC cls s t)
    (hf : ∀ z ∈ locs, free z.base) (hc : cells + 1 ≤ mc) (hs : slots + 6 ≤ ms) :
    W p l e R s m args below meth c H locs cells slots (vx_MQ below Qc XC args s mc ms free) (F0 m pc ls rest) := by
  intro T hT X
  have htr : e.platform.stackTraces = false := (show e.platform.stackTraces = l.stackTraces by rw [X.admits.platform]).trans hl
  have Y := vx_rebase X (R' := { frames := R.frames, locals := R.locals, cells := 1, slots := 6 }) (Nat.le_refl _) (Nat.le_refl _) hRcells hRslots
  obtain ⟨s', hA⟩ : ∃ z, z = (T.setVm s.vm).setFrames (.invoking m args :: below) := ⟨_, rfl⟩
  rw [← hA] at Y
  have hvm : s'.vm = s.vm := by rw [hA]; rfl
  have hhp : s'.heap = H := by rw [hA]; exact hT
  have hW0 : s.WarmedH s'.vm := by rw [hvm]; exact State.WarmedH.refl s
  have hat' : ∀ w ∈ vx_atS own ic cls names, w.before args s' = true := fun w hw => vx_ot_at hW0 hvm.symm (hgood w (List.mem_cons_of_mem _ (List.mem_cons_of_mem _ hw))) (hat w hw)
  have hk' : (Cond.classLink own ik cls).before args s' = true := vx_ot_at hW0 hvm.symm (hgood _ List.mem_cons_self) hk
  have hini' : (Cond.initialized cls).before args s' = true := vx_ot_at hW0 hvm.symm (hgood _ (List.mem_cons_of_mem _ List.mem_cons_self)) hini
  have hU' : vx_Zq Bundle.tN "UNASSIGNED_STACK" Bundle.steD A s' s'.heap := by rw [hhp]; exact vx_Zq.moved hW0.alike (hU.kept hS.2.1)
  have hN' : vx_Zq Bundle.tN "SUPPRESSED_SENTINEL" Bundle.listD A s' s'.heap := by rw [hhp]; exact vx_Zq.moved hW0.alike (hN.kept hS.2.1)
  have h : ∀ w ∈ Bundle.ownAtoms own ic cls names, w.before args s' = true := vx_own hat' (vx_isRefq hU'.1) (vx_isRefq hN'.1) hU'.2.word hN'.2.word
  have hown' : s'.vm.findClass own = some m.cls := by rw [hvm]; exact hown
  have hins : (Cond.instantiable cls 6).before args s' = true := h _ (by simp [Bundle.ownAtoms])
  obtain ⟨vm₁, cX, kX, hfX, hkX, -, -, X₁, st1⟩ := Y.newCold hexec (own := own) (C := cls) (index := ik) (n := 6) hown' hk' hins hini'
    (g := F0 m pc ls rest) rfl (by rw [hb]; exact d0) (Nat.le_refl _) (Nat.le_refl _)
  generalize hT1 : (T.setVm vm₁).pushCell { cls := cX, slots := kX.instanceTypes.map defaultValue, vm := .none } = T1 at X₁ st1
  have hcat : (Value.ref T.heap.size).category = 1 := rfl
  have hcellA : T1.heap[T.heap.size]? = some (freshCell cX kX) := by rw [← hT1]; exact State.heap_pushCell_size _ _
  have d3' : decode c.code (pc + 3) = .ok (.dup, 1) := by rw [hb]; exact d3
  have d4' : decode c.code (pc + 4) = .ok (.ldc is, 2) := by rw [hb]; exact d4
  have hstr' : vk_R own is text sa s' := vk_R.warm hW0 hstr
  obtain ⟨U, hsteps, hrun, hend, hW, hsame, ce, hce, hO⟩ := X₁.ctorThrowS hexec htr (own := own) (cls := cls) (names := names) (ic := ic) hown' hcls hnames h (fun x hx => nomatch hx) hfX hkX hcellA (by rw [hhp, hT]; exact Nat.le_refl _) (msg := .ref sa) rfl
    (g := { method := m, pc := pc + 6, locals := ls, stack := .ref sa :: .ref T.heap.size :: .ref T.heap.size :: rest, locked := none }) rfl hsize rfl rfl (rest := rest) rfl
    (by rw [hb]; exact d6) (by rw [hb]; exact d9) hout hRframes (by simp only [List.map_cons, List.sum_cons, hcat]; omega) hlocks
  obtain ⟨f1, f2⟩ := vx_frame hsame
  rw [hhp] at f1 f2
  have hWs : s.WarmedH U.vm := State.WarmedH.trans hW0 hW
  have hUsz : U.heap.size = H.size + 1 := by
    have g1 : U.heap.size ≤ s'.heap.size + (0 + 1) := hsame.2.2.1
    have g2 : T.heap.size < U.heap.size := (Array.getElem?_eq_some_iff.mp hce).1
    rw [hhp] at g1
    rw [hT] at g2
    omega
  have hcl : s.vm.findClass cls = some ce.cls := by
    have h9 := hO.cls
    rw [hvm] at h9
    exact h9
  have hall : s.sameButNew ({ U with vm := s.vm } : State) locs mc ms := by
    subst hA
    obtain ⟨e1, e2⟩ := hsame
    rw [State.setFrames_setFrames] at e1
    have h2 : (T.setVm s.vm).sameButNew ({ U with vm := s.vm } : State) [] (0 + 1) (0 + 6) := ⟨e1, e2⟩
    have h3 := X.same.trans h2
    rw [List.append_nil] at h3
    exact h3.mono hc hs
  refine ⟨U, ?_, .threw T.heap.size, hrun, hend, Or.inr ⟨T.heap.size, rfl, cls, ce, locs, hx U ce hWs.alike hUsz (fun q hq => f2 q hq (fun z hz => nomatch hz)) (by rw [← hT]; exact hce) hO.vm hcl, hce, hO.vm, hcl, hWs, hall, hf⟩⟩
  refine st1 _ ?_
  show Steps p.tables e below (T1.setTop { method := m, pc := pc + 3, locals := ls, stack := .ref T.heap.size :: rest, locked := none }) _
  jvm_step X₁.here [X₁.here.top, hexec, d3', Value.category]
  exact X₁.ldcString hexec (own := own) (text := text) (index := is) (a := sa) hown' hstr'.1 hstr'.2
    (g := { method := m, pc := pc + 4, locals := ls, stack := .ref T.heap.size :: .ref T.heap.size :: rest, locked := none }) rfl d4' _ hsteps
/-- 'throw new E("text")', the text by a wide index -/
theorem ux_throwSW {cc : ByteArray} {pc : Nat} (hexec : p.tables.exec = Jvm.exec) (hb : c.code = cc) (hl : l.stackTraces = false) {own cls text : String} {names : List String} {ik is ic mc ms sa : Nat} {A : Nat → Prop}
    (hown : s.vm.findClass own = some m.cls) (hcls : Bundle.fit cls = true) (hnames : ∀ n ∈ names, Bundle.fit n = true)
    (hk : (Cond.classLink own ik cls).before args s = true) (hini : (Cond.initialized cls).before args s = true) (hstr : vk_R own is text sa s) (hat : ∀ w ∈ vx_atS own ic cls names, w.before args s = true)
    (hgood : ∀ w ∈ Cond.classLink own ik cls :: Cond.initialized cls :: vx_atS own ic cls names, vx_ot w = true)
    (hU : vx_Zq Bundle.tN "UNASSIGNED_STACK" Bundle.steD A s s.heap) (hN : vx_Zq Bundle.tN "SUPPRESSED_SENTINEL" Bundle.listD A s s.heap) (hS : va_S A s.heap H locs) (hsize : ls.size = c.maxLocals)
    (d0 : decode cc pc = .ok (.new ik, 3)) (d3 : decode cc (pc + 3) = .ok (.dup, 1)) (d4 : decode cc (pc + 4) = .ok (.ldc_w is, 3)) (d7 : decode cc (pc + 7) = .ok (.invokespecial ic, 3)) (d10 : decode cc (pc + 10) = .ok (.athrow, 1))
    (hout : ∀ x ∈ c.exceptionTable.toList, covers x (pc + 10) = false)
    (hRframes : names.length + 3 < R.frames) (hRlocals : (rest.map fun v => v.category).sum + (13 * (names.length + 1) + 43) ≤ R.locals) (hRcells : cells + 1 ≤ R.cells) (hRslots : slots + 6 ≤ R.slots) (hlocks : meth.locks = false)
    (hx : ∀ (t : State) (ce : Cell), s.vm.Alike t.vm → t.heap.size = H.size + 1 → (∀ q : Nat, q < H.size → t.heap[q]? = H[q]?) → t.heap[H.size]? = some ce → ce.vm = .none → s.vm.findClass cls = some ce.cls → XC cls s t)
    (hf : ∀ z ∈ locs, free z.base) (hc : cells + 1 ≤ mc) (hs : slots + 6 ≤ ms) :
    W p l e R s m args below meth c H locs cells slots (vx_MQ below Qc XC args s mc ms free) (F0 m pc ls rest) := by
  intro T hT X
  have htr : e.platform.stackTraces = false := (show e.platform.stackTraces = l.stackTraces by rw [X.admits.platform]).trans hl
  have Y := vx_rebase X (R' := { frames := R.frames, locals := R.locals, cells := 1, slots := 6 }) (Nat.le_refl _) (Nat.le_refl _) hRcells hRslots
  obtain ⟨s', hA⟩ : ∃ z, z = (T.setVm s.vm).setFrames (.invoking m args :: below) := ⟨_, rfl⟩
  rw [← hA] at Y
  have hvm : s'.vm = s.vm := by rw [hA]; rfl
  have hhp : s'.heap = H := by rw [hA]; exact hT
  have hW0 : s.WarmedH s'.vm := by rw [hvm]; exact State.WarmedH.refl s
  have hat' : ∀ w ∈ vx_atS own ic cls names, w.before args s' = true := fun w hw => vx_ot_at hW0 hvm.symm (hgood w (List.mem_cons_of_mem _ (List.mem_cons_of_mem _ hw))) (hat w hw)
  have hk' : (Cond.classLink own ik cls).before args s' = true := vx_ot_at hW0 hvm.symm (hgood _ List.mem_cons_self) hk
  have hini' : (Cond.initialized cls).before args s' = true := vx_ot_at hW0 hvm.symm (hgood _ (List.mem_cons_of_mem _ List.mem_cons_self)) hini
  have hU' : vx_Zq Bundle.tN "UNASSIGNED_STACK" Bundle.steD A s' s'.heap := by rw [hhp]; exact vx_Zq.moved hW0.alike (hU.kept hS.2.1)
  have hN' : vx_Zq Bundle.tN "SUPPRESSED_SENTINEL" Bundle.listD A s' s'.heap := by rw [hhp]; exact vx_Zq.moved hW0.alike (hN.kept hS.2.1)
  have h : ∀ w ∈ Bundle.ownAtoms own ic cls names, w.before args s' = true := vx_own hat' (vx_isRefq hU'.1) (vx_isRefq hN'.1) hU'.2.word hN'.2.word
  have hown' : s'.vm.findClass own = some m.cls := by rw [hvm]; exact hown
  have hins : (Cond.instantiable cls 6).before args s' = true := h _ (by simp [Bundle.ownAtoms])
  obtain ⟨vm₁, cX, kX, hfX, hkX, -, -, X₁, st1⟩ := Y.newCold hexec (own := own) (C := cls) (index := ik) (n := 6) hown' hk' hins hini'
    (g := F0 m pc ls rest) rfl (by rw [hb]; exact d0) (Nat.le_refl _) (Nat.le_refl _)
  generalize hT1 : (T.setVm vm₁).pushCell { cls := cX, slots := kX.instanceTypes.map defaultValue, vm := .none } = T1 at X₁ st1
  have hcat : (Value.ref T.heap.size).category = 1 := rfl
  have hcellA : T1.heap[T.heap.size]? = some (freshCell cX kX) := by rw [← hT1]; exact State.heap_pushCell_size _ _
  have d3' : decode c.code (pc + 3) = .ok (.dup, 1) := by rw [hb]; exact d3
  have d4' : decode c.code (pc + 4) = .ok (.ldc_w is, 3) := by rw [hb]; exact d4
  have hstr' : vk_R own is text sa s' := vk_R.warm hW0 hstr
  obtain ⟨U, hsteps, hrun, hend, hW, hsame, ce, hce, hO⟩ := X₁.ctorThrowS hexec htr (own := own) (cls := cls) (names := names) (ic := ic) hown' hcls hnames h (fun x hx => nomatch hx) hfX hkX hcellA (by rw [hhp, hT]; exact Nat.le_refl _) (msg := .ref sa) rfl
    (g := { method := m, pc := pc + 7, locals := ls, stack := .ref sa :: .ref T.heap.size :: .ref T.heap.size :: rest, locked := none }) rfl hsize rfl rfl (rest := rest) rfl
    (by rw [hb]; exact d7) (by rw [hb]; exact d10) hout hRframes (by simp only [List.map_cons, List.sum_cons, hcat]; omega) hlocks
  obtain ⟨f1, f2⟩ := vx_frame hsame
  rw [hhp] at f1 f2
  have hWs : s.WarmedH U.vm := State.WarmedH.trans hW0 hW
  have hUsz : U.heap.size = H.size + 1 := by
    have g1 : U.heap.size ≤ s'.heap.size + (0 + 1) := hsame.2.2.1
    have g2 : T.heap.size < U.heap.size := (Array.getElem?_eq_some_iff.mp hce).1
    rw [hhp] at g1
    rw [hT] at g2
    omega
  have hcl : s.vm.findClass cls = some ce.cls := by
    have h9 := hO.cls
    rw [hvm] at h9
    exact h9
  have hall : s.sameButNew ({ U with vm := s.vm } : State) locs mc ms := by
    subst hA
    obtain ⟨e1, e2⟩ := hsame
    rw [State.setFrames_setFrames] at e1
    have h2 : (T.setVm s.vm).sameButNew ({ U with vm := s.vm } : State) [] (0 + 1) (0 + 6) := ⟨e1, e2⟩
    have h3 := X.same.trans h2
    rw [List.append_nil] at h3
    exact h3.mono hc hs
  refine ⟨U, ?_, .threw T.heap.size, hrun, hend, Or.inr ⟨T.heap.size, rfl, cls, ce, locs, hx U ce hWs.alike hUsz (fun q hq => f2 q hq (fun z hz => nomatch hz)) (by rw [← hT]; exact hce) hO.vm hcl, hce, hO.vm, hcl, hWs, hall, hf⟩⟩
  refine st1 _ ?_
  show Steps p.tables e below (T1.setTop { method := m, pc := pc + 3, locals := ls, stack := .ref T.heap.size :: rest, locked := none }) _
  jvm_step X₁.here [X₁.here.top, hexec, d3', Value.category]
  exact X₁.ldcStringW hexec (own := own) (text := text) (index := is) (a := sa) hown' hstr'.1 hstr'.2
    (g := { method := m, pc := pc + 4, locals := ls, stack := .ref T.heap.size :: .ref T.heap.size :: rest, locked := none }) rfl d4' _ hsteps
end XTH
section XST6
variable {p : Program} {l : Launch} {e : Env} {R : Room} {s : State} {m : MethodId} {args : Array Value} {below : List Frame} {meth : Method} {c : Code} {Q : State → Prop} {D : va_G} {dA : Nat → ClassId} {base b n0 u0 j d pc pc' : Nat} {L L' : xL} {S S' : List Value} {h h' : xH} {sc : xS}
variable {H : Heap} {locs : List Loc} {ls : Array Slot}
/-! contracts -/
def xQ (D : va_G) (dA : Nat → ClassId) (base b : Nat) (o : xO) (h' : xH) : Array Value → State → Outcome → State → Prop := fun _ st oc t => (∃ v, o = .inl v ∧ oc = .returned (v.map (xtr base b))) ∧ xI D dA base h' t ∧ va_F (xAA base) st t
def xX (D : va_G) (dA : Nat → ClassId) (base : Nat) (o : xO) (h' : xH) : String → State → State → Prop := fun E st t => (∃ e, o = .inr e ∧ 8 ≤ e ∧ e < 11 ∧ E = xC e) ∧ xI D dA base h' t ∧ va_F (xAA base) st t
def xMet (l : Launch) (D : va_G) (dA : Nat → ClassId) (base b : Nat) (sc : xS) (d j : Nat) (as : List Value) (h : xH) (o : xO) (h' : xH) : Prop :=
  vx_Met l (xmy j) (xhd j :: xG0) ({ frames := d, cells := h'.2.1.1 - h.2.1.1, slots := h'.2.1.2 - h.2.1.2, locals := 40 * d }) (va_Pc (as.map (xtr base b)) (fun U => xI D dA base h U ∧ xG D dA base b sc U)) (xQ D dA base b o h') (xX D dA base o h') (h'.2.1.1 - h.2.1.1) (h'.2.1.2 - h.2.1.2) (xAA base)
theorem xRel_I (hR : xRel D dA base b n0 u0 j s h L H locs ls) (hsz : H.size = base + h.2.1.1) {t : State} (ht : t.heap = H) : xI D dA base h t ∧ va_F (xAA base) s t :=
  ⟨⟨by rw [ht]; exact hsz, by rw [ht]; exact hR.1, hR.2.2.2.2.2.2⟩, hR.2.1.F ht⟩
theorem xret_b {i : Nat} {L2 : xL} {S2 : List Value} {h2 : xH} {A : xA} (e : A = some (.inl (pc, L2, S2, h2))) {r : (xO × xH) ⊕ (Nat × List Value × Nat × List Value)} (hA : A = some (.inr r)) : False := by
  rw [e] at hA
  cases hA
/-- a method's end -/
theorem xs_end {ins : Instr} {o : xO} (C : xCtx p D dA base b sc j s m args meth c) (hs0 : s.heap.size = base + n0) (hd : decode (xmc j) pc = .ok (ins, xlen ins)) (hn : ∀ k, ins ≠ .new k) (hA : xact sc d j ins pc L S h = some (.inr (.inl (o, h')))) (hR : xRel D dA base b n0 u0 j s h L H locs ls) :
    W p l e R s m args below meth c H locs (h.2.1.1 - n0) (h.2.1.2 - u0) (vx_MQ below (xQ D dA base b o h') (xX D dA base o h') args s (h'.2.1.1 - n0) (h'.2.1.2 - u0) (xAA base)) (F0 m pc ls (S.map (xtr base b))) := by
  obtain ⟨hx, hb, hr, hml, hown, hts, hlocks, hnm, htb, hG⟩ := C
  refine xsz hs0 hR fun hsz => ?_
  unfold xact at hA
  split at hA
  all_goals first
    | (exfalso; repeat' (split at hA)
       all_goals first
         | (cases hA; done)
         | exact (xgo_ne hA).elim
         | exact (xst_ne hA).elim
         | exact (xbr_ne hA).elim
         | exact (xinv_ne hA).elim
         | exact hn _ rfl
       done)
    | skip
  · split at hA
    · next x =>
      split at hA
      · next h1 =>
        obtain ⟨rfl, rfl⟩ := xend_inj hA
        exact vx_ret (W.iret hx hb (by rw [hr]; exact h1) (fun t ht hW => ⟨⟨_, rfl, rfl⟩, xRel_I hR hsz ht⟩) hR.2.1.2.2 hd hlocks)
      · split at hA
        · next h1 =>
          obtain ⟨rfl, rfl⟩ := xend_inj hA
          exact vx_ret (W.zret hx hb (ty := .boolean) (by rw [hr]; exact h1.1) (by rcases h1.2 with rfl | rfl <;> rfl) (fun t ht hW => ⟨⟨_, rfl, rfl⟩, xRel_I hR hsz ht⟩) hR.2.1.2.2 hd hlocks)
        · cases hA
    · cases hA
  · split at hA
    · next a =>
      split at hA
      · next cn h1 =>
        obtain ⟨rfl, rfl⟩ := xend_inj hA
        exact vx_ret (W.aret hx hb (rt := .object cn) (by rw [hr]; exact h1) (Or.inl ⟨_, rfl⟩) (Or.inr ⟨_, rfl⟩) (fun t ht hW => ⟨⟨_, rfl, rfl⟩, xRel_I hR hsz ht⟩) hR.2.1.2.2 hd hlocks)
      · cases hA
    · split at hA
      · next cn h1 =>
        obtain ⟨rfl, rfl⟩ := xend_inj hA
        exact vx_ret (W.aret hx hb (rt := .object cn) (by rw [hr]; exact h1) (Or.inl ⟨_, rfl⟩) (Or.inl rfl) (fun t ht hW => ⟨⟨_, rfl, rfl⟩, xRel_I hR hsz ht⟩) hR.2.1.2.2 hd hlocks)
      · cases hA
    · cases hA
  · split at hA
    · split at hA
      · next h1 =>
        obtain ⟨rfl, rfl⟩ := xend_inj hA
        exact vx_ret (W.vret hx hb (by rw [hr]; exact h1) (fun t ht hW => ⟨⟨_, rfl, rfl⟩, xRel_I hR hsz ht⟩) hR.2.1.2.2 hd hlocks)
      · cases hA
    · cases hA
end XST6
end
section
section XST7
variable {p : Program} {l : Launch} {e : Env} {R : Room} {s : State} {m : MethodId} {args : Array Value} {below : List Frame} {meth : Method} {c : Code} {Q : State → Prop} {D : va_G} {dA : Nat → ClassId} {base b n0 u0 j d pc pc' : Nat} {L L' : xL} {S S' : List Value} {h h' : xH} {sc : xS}
variable {H : Heap} {locs : List Loc} {ls : Array Slot}
theorem xft_dec {ins : Instr} (hf : xft j pc = some ins) : ∃ len, decode (xmc j) pc = .ok (ins, len) ∧ (xlen ins = len ∨ xsw ins = true) := by
  unfold xft at hf
  split at hf
  · next i2 len hd =>
    split at hf
    · next h1 => cases hf; exact ⟨len, hd, h1⟩
    · cases hf
  · cases hf
theorem xft_dec2 {ins : Instr} (hf : xft j pc = some ins) (hs : xsw ins = false) : decode (xmc j) pc = .ok (ins, xlen ins) := by
  obtain ⟨len, h1, h2⟩ := xft_dec hf
  rcases h2 with h2 | h2
  · rw [h2]; exact h1
  · rw [hs] at h2; cases h2
theorem xnw_tab {w : Cond} (hw : xnwW w = true) : w.onTables = true := by
  cases w <;> first | rfl | cases hw
theorem xIL_at (hG : xG D dA base b sc s) (hts : ∀ w ∈ xG0, w.before args s = true) {o i0 e0 : Nat} (hf : xlk xIL o i0 = some e0) : (8 ≤ e0 ∧ e0 < 11) ∧ (∀ w ∈ vx_atS (xC o) i0 (xC e0) xEx, w.before args s = true) ∧ ∀ w ∈ vx_atS (xC o) i0 (xC e0) xEx, vx_ot w = true := by
  have h1 := List.all_eq_true.mp xIL_ok _ (xlk_mem hf)
  simp only [Bool.and_eq_true] at h1
  have h2 : ∀ w ∈ vx_atS (xC o) i0 (xC e0) xEx, vx_ot w = true ∧ ((decide (w ∈ lw_tbl) && goodWord w) || decide (w ∈ xNW)) = true := fun w hw => by
    have h3 := List.all_eq_true.mp h1.2 w hw
    rw [Bool.and_eq_true] at h3
    exact h3
  refine ⟨of_decide_eq_true h1.1, fun w hw => ?_, fun w hw => (h2 w hw).1⟩
  have h3 := (h2 w hw).2
  rw [Bool.or_eq_true, Bool.and_eq_true] at h3
  rcases h3 with h3 | h3
  · exact hts w (List.mem_filter.mpr ⟨of_decide_eq_true h3.1, h3.2⟩)
  · have h4 := of_decide_eq_true h3
    exact va_Nw.use (xnw_tab (List.mem_filter.mp h4).2) (hG.2.2.2.2.2.2.1 w h4)
theorem xEW_at {e0 : Nat} (h8 : 8 ≤ e0) (h11 : e0 < 11) : Cond.initialized (xC e0) ∈ xG0 ∧ Bundle.fit (xC e0) = true ∧ Cond.castable (xC e0) (xC e0) ∈ xNW := by
  have h1 := List.all_eq_true.mp xEW_ok e0 (List.mem_range.mpr h11)
  have h0 : decide (e0 < 8) = false := decide_eq_false (by omega)
  simp only [h0, Bool.false_or, Bool.and_eq_true] at h1
  obtain ⟨⟨⟨a1, a2⟩, a3⟩, a4⟩ := h1
  exact ⟨List.mem_filter.mpr ⟨of_decide_eq_true a1, a2⟩, a3, List.mem_filter.mpr ⟨of_decide_eq_true a4, rfl⟩⟩
theorem xN_e {e0 : Nat} (h8 : 8 ≤ e0) : xN e0 = 0 := by
  obtain ⟨k, rfl⟩ := Nat.exists_eq_add_of_le h8
  rw [show 8 + k = k + 8 by omega]
  rfl
theorem xEx_fit : ∀ n ∈ xEx, Bundle.fit n = true := by decide +kernel
/-- behind a throw -/
theorem xthr_post {o : xO} {e0 : Nat} (hG : xG D dA base b sc s) (hR : xRel D dA base b n0 u0 j s h L H locs ls) (hsz : H.size = base + h.2.1.1) (h8 : 8 ≤ e0) (h11 : e0 < 11) (ho : o = .inr e0) (t : State) (ce : Cell) (hz : t.heap.size = H.size + 1) (ho1 : ∀ q : Nat, q < H.size → t.heap[q]? = H[q]?) (hce : t.heap[H.size]? = some ce) (hcv : ce.vm = .none) (hcl : s.vm.findClass (xC e0) = some ce.cls) : xX D dA base o (xnew h (1 + e0, 0) 6) (xC e0) s t := by
  have hcl2 := xcl_get (c := e0) h11
  have hT : (xnew h (1 + e0, 0) 6).1 h.2.1.1 = (1 + e0, 0) := by simp [xnew, va_up]
  have hat : va_at D xcl (base + h.2.1.1, xcell dA base (xnew h (1 + e0, 0) 6) h.2.1.1) t.heap := by
    rw [xcell_obj (h := xnew h (1 + e0, 0) 6) (c := e0) (by omega) hT]
    refine ⟨_, hcl2, ce, by rw [← hsz]; exact hce, ?_, hcv, fun k hk => ?_⟩
    · exact Option.some.inj (hcl.symm.trans (hG.1.1 e0 _ hcl2).2.1)
    · have hk2 : k < xN e0 := hk
      rw [xN_e h8] at hk2
      exact absurd hk2 (Nat.not_lt_zero k)
  have h1 := xRel_new hR hsz hz ho1 hat
  exact ⟨⟨e0, ho, h8, h11, rfl⟩, ⟨by rw [hz, hsz]; rfl, h1.1, h1.2.2.2.2.2.2⟩, h1.2.1.F rfl⟩
theorem xs_throw {idx : Nat} {o : xO} (C : xCtx p D dA base b sc j s m args meth c) (hs0 : s.heap.size = base + n0) (hF : R.frames = d ∧ 40 * d ≤ R.locals) (hres : h'.2.1.1 - n0 ≤ R.cells ∧ h'.2.1.2 - u0 ≤ R.slots) (hfl : l.stackTraces = false) (hd : decode (xmc j) pc = .ok (.new idx, 3)) (hA : xact sc d j (.new idx) pc L S h = some (.inr (.inl (o, h')))) (hR : xRel D dA base b n0 u0 j s h L H locs ls) :
    W p l e R s m args below meth c H locs (h.2.1.1 - n0) (h.2.1.2 - u0) (vx_MQ below (xQ D dA base b o h') (xX D dA base o h') args s (h'.2.1.1 - n0) (h'.2.1.2 - u0) (xAA base)) (F0 m pc ls (S.map (xtr base b))) := by
  obtain ⟨hx, hb, hr, hml, hown, hts, hlocks, hnm, htb, hG⟩ := C
  have hn0 := hR.2.2.2.2.1
  have hu0 := hR.2.2.2.2.2.1
  refine xsz hs0 hR fun hsz => ?_
  simp only [xact] at hA
  split at hA
  · next c2 q0 hf =>
    split at hA
    · exact (xgo_ne hA).elim
    · split at hA
      · obtain ⟨rfl, rfl⟩ := xthr_eq hA
        have hn1 : h.2.1.1 + 1 - n0 ≤ R.cells := hres.1
        have hu1 : h.2.1.2 + 6 - u0 ≤ R.slots := hres.2
        unfold xthr at hA
        split at hA
        · next hcnd =>
          obtain ⟨hd6, hS4, hh, hdup⟩ := hcnd
          have hout : ∀ z ∈ c.exceptionTable.toList, False := by
            rw [hh, List.map_eq_nil_iff] at htb
            rw [htb]
            intro z hz
            cases hz
          have hd3 := xft_dec2 hdup rfl
          have hsum := xsum (base := base) (b := b) hS4
          split at hA
          · next s0 h4 =>
            have hd4 := xft_dec2 h4 rfl
            split at hA
            · next tx c0 htx h6 h9 =>
              have hd6' := xft_dec2 h6 rfl
              have hd9 := xft_dec2 h9 rfl
              split at hA
              · next hil =>
                obtain ⟨h81, hat, hot⟩ := xIL_at hG hts hil
                obtain ⟨g1, g2, g3⟩ := xEW_at h81.1 h81.2
                obtain ⟨sa, hsa⟩ := hG.2.2.2.2.2.2.2.2.2 _ (xlk_mem htx)
                refine ux_throwS (A := xAA base) (own := xC (xmo j)) (cls := xC c2) (text := tx) (names := xEx) (ik := idx) (is := s0) (ic := c0) (sa := sa) hx hb hfl hown g2 xEx_fit (hts _ (xKL_at hf)) (hts _ g1) hsa hat ?_ hG.2.2.2.2.1 hG.2.2.2.2.2.1 hR.2.1 (by rw [hml]; exact hR.2.2.2.1.1) hd hd3 hd4 hd6' hd9 (fun z hz => (hout z hz).elim) ?_ ?_ (by omega) (by omega) hlocks ?_ hR.2.1.2.2 ?_ ?_
                · intro w hw
                  rcases List.mem_cons.mp hw with rfl | hw
                  · rfl
                  · rcases List.mem_cons.mp hw with rfl | hw
                    · rfl
                    · exact hot w hw
                · rw [hF.1]; show 2 + 3 < d; omega
                · have := hF.2; show _ + (13 * (2 + 1) + 43) ≤ R.locals; omega
                · exact fun t ce ha hz ho1 hce hcv hcl => xthr_post hG hR hsz h81.1 h81.2 rfl t ce hz ho1 hce hcv hcl
                · show h.2.1.1 - n0 + 1 ≤ h.2.1.1 + 1 - n0; omega
                · show h.2.1.2 - u0 + 6 ≤ h.2.1.2 + 6 - u0; omega
              · cases hA
            · cases hA
          · next s0 h4 =>
            have hd4 := xft_dec2 h4 rfl
            split at hA
            · next tx c0 htx h6 h9 =>
              have hd6' := xft_dec2 h6 rfl
              have hd9 := xft_dec2 h9 rfl
              split at hA
              · next hil =>
                obtain ⟨h81, hat, hot⟩ := xIL_at hG hts hil
                obtain ⟨g1, g2, g3⟩ := xEW_at h81.1 h81.2
                obtain ⟨sa, hsa⟩ := hG.2.2.2.2.2.2.2.2.2 _ (xlk_mem htx)
                refine ux_throwSW (A := xAA base) (own := xC (xmo j)) (cls := xC c2) (text := tx) (names := xEx) (ik := idx) (is := s0) (ic := c0) (sa := sa) hx hb hfl hown g2 xEx_fit (hts _ (xKL_at hf)) (hts _ g1) hsa hat ?_ hG.2.2.2.2.1 hG.2.2.2.2.2.1 hR.2.1 (by rw [hml]; exact hR.2.2.2.1.1) hd hd3 hd4 hd6' hd9 (fun z hz => (hout z hz).elim) ?_ ?_ (by omega) (by omega) hlocks ?_ hR.2.1.2.2 ?_ ?_
                · intro w hw
                  rcases List.mem_cons.mp hw with rfl | hw
                  · rfl
                  · rcases List.mem_cons.mp hw with rfl | hw
                    · rfl
                    · exact hot w hw
                · rw [hF.1]; show 2 + 3 < d; omega
                · have := hF.2; show _ + (13 * (2 + 1) + 43) ≤ R.locals; omega
                · exact fun t ce ha hz ho1 hce hcv hcl => xthr_post hG hR hsz h81.1 h81.2 rfl t ce hz ho1 hce hcv hcl
                · show h.2.1.1 - n0 + 1 ≤ h.2.1.1 + 1 - n0; omega
                · show h.2.1.2 - u0 + 6 ≤ h.2.1.2 + 6 - u0; omega
              · cases hA
            · cases hA
          · cases hA
        · cases hA
      · cases hA
  · cases hA
end XST7
end
section
section UXI
variable {p : Program} {l : Launch} {e : Env} {R : Room} {s : State} {m : MethodId} {args : Array Value} {below : List Frame} {meth : Method} {c : Code} {T : State} {H : Heap} {locs : List Loc} {cells slots : Nat}
theorem ux_callI (X : Stand p l e R s m args below meth c T locs cells slots) (hexec : p.tables.exec = Jvm.exec) {own : String} {index : Nat} {y : MethodName} {bytes : ByteArray} {maxL : Nat}
    (hown : s.vm.findClass own = some m.cls) (hy1 : y.name = "<init>") (hlink : (Cond.methodLink own index y).before args s = true) (hinst : (Cond.instanceMethod y).before args s = true)
    (hcode : (Cond.code y bytes maxL none).before args s = true) (hy : y.cls ≠ "java/lang/invoke/MethodHandle" ∧ y.cls ≠ "java/lang/invoke/VarHandle")
    {W9 : Nat} {Pre : Pt → Array Value → Prop} {Post : Pt → Array Value → Option Value → Pt → Prop} {PostX : Pt → Array Value → Addr → Pt → Prop} (hK : vx_Back l R p e below s args y 3 W9 Pre Post PostX)
    {g : JFrame} (hg : g.method = m) (hsize : g.locals.size = c.maxLocals) {a : Addr} {argsL rest : List Value} (hlen : ∀ sig, parseMethodDescriptor y.desc = some sig → argsL.length = sig.parameters.length)
    (hstack : g.stack = argsL.reverse ++ .ref a :: rest) (hW : 2 * g.monitorRoom + (rest.map fun v => v.category).sum ≤ W9) (hdg : decode c.code g.pc = .ok (.invokespecial index, 3))
    (hpre : ∀ vm₁, s.WarmedH vm₁ → Pre ⟨T.setVm vm₁, locs, cells, slots⟩ (Value.ref a :: argsL).toArray) :
    (∃ (v : Option Value) (vm₁ : Vm) (B : Pt), s.WarmedH vm₁ ∧ Stand p l e R s m args below meth c B.U B.locs B.cells B.slots ∧ Post ⟨T.setVm vm₁, locs, cells, slots⟩ (Value.ref a :: argsL).toArray v B ∧
      ∀ target, Steps p.tables e below (B.U.setTop { g with pc := g.pc + 3, stack := v.toList ++ rest }) target → Steps p.tables e below (T.setTop g) target) ∨
    (∃ (q : Addr) (vm₁ : Vm) (B : Pt), s.WarmedH vm₁ ∧ Stand p l e R s m args below meth c B.U B.locs B.cells B.slots ∧ PostX ⟨T.setVm vm₁, locs, cells, slots⟩ (Value.ref a :: argsL).toArray q B ∧
      Steps p.tables e below (T.setTop g) ((B.U.setTop { g with stack := rest }).pushFrame (.throwing q))) := by
  subst hg
  have hpl : e.platform.magicAccessors = ({} : Platform).magicAccessors := by rw [X.admits.platform]
  obtain ⟨mk, methM, cM, kP, vm₁, hnamed, hmethM, hcodeM, -, hlocalsM, -, hkP, -, hW₁, hstep₁⟩ := Steps.initColdArgs (e := e) X.here hexec X.warmed hpl hown hy1 hy hlink hinst hcode (f := g) rfl hlen hstack hdg
  have X₁ := X.noted hW₁
  rcases hK g.method meth c ⟨T.setVm vm₁, locs, cells, slots⟩ { g with stack := rest } (.invokespecial index) mk (Value.ref a :: argsL).toArray X₁ rfl hsize hdg hW (X₁.named hnamed) (hpre vm₁ X₁.warmed) with ⟨v, B, X', hpost, hsteps⟩ | ⟨q, B, X', hpost, hsteps⟩
  · exact Or.inl ⟨v, vm₁, B, X₁.warmed, X', hpost, fun target h => hstep₁ _ fun acts => by rw [doInvoke_state]; exact hsteps.trans h⟩
  · exact Or.inr ⟨q, vm₁, B, X₁.warmed, X', hpost, hstep₁ _ fun acts => by rw [doInvoke_state]; exact hsteps⟩
variable {y : MethodName} {bytes cc : ByteArray} {maxL nL mc ms n index : Nat} {ret : Option FieldType} {ws : List Cond} {rm : Room} {Pc : Array Value → State → Prop} {Qc : Array Value → State → Outcome → State → Prop} {XC : String → State → State → Prop} {free : Addr → Prop} {Ts : List Cond} {own C : String} {b : Addr} {As rest : List Value} {g : JFrame}
theorem ux_runI (S : CallFix p m c cc nL s args Ts own) (hM : vx_Met l y ws rm Pc Qc XC mc ms free) (cw : CallB R s args own index y bytes maxL none ws rm mc ms n ∧ y.name = "<init>" ∧ (Cond.instanceMethod y).before args s = true) (hp : PreS s H Pc (.ref b :: As))
    (hg : g.method = m) (hn : As.length = n) (hsize : g.locals.size = nL) (hstack : g.stack = As.reverse ++ .ref b :: rest) (hW : 2 * g.monitorRoom + (rest.map fun v => v.category).sum ≤ 8) (hdg : decode cc g.pc = .ok (.invokespecial index, 3)) (hf : cells + mc ≤ R.cells ∧ slots + ms ≤ R.slots) :
    vx_Run p l e R s m args below meth c H locs cells slots mc ms g rest (Qc (Value.ref b :: As).toArray) XC free := by
  have hK : vx_Back l R p e below s args y 3 8 (PreOf R mc ms Pc) (PostOf Qc mc ms free) (vx_Post XC mc ms free) := vx_callBack cw.1 hM hp.1
  obtain ⟨⟨-, -, -, -, -, -, hcode, -, hy, hlen, hl⟩, hy1, hin⟩ := cw
  obtain ⟨hx, hb, hml, ho, -⟩ := S
  intro T hT X
  rcases ux_callI X hx (bytes := bytes) (maxL := maxL) ho hy1 hl hin hcode hy hK hg (hsize.trans hml.symm) (a := b) (argsL := As) (rest := rest) (fun sig h => hn.trans (hlen sig h)) hstack hW (by rw [hb]; exact hdg)
    (fun vm₁ hW₁ => ⟨hf.1, hf.2, hp.2 (T.setVm vm₁) hT hW₁⟩) with ⟨v, vm₁, ⟨U', l2, c2, s2⟩, hW₁, X', ⟨g', mk, t, L, e1, e2, hq, h1, hL, h2, h3⟩, st⟩ | ⟨q, vm₁, ⟨U', l2, c2, s2⟩, hW₁, X', ⟨g', mk, t, L, E, ce, e1, e2, hq, hce, hcv, hcl, h1, hL, h2, h3⟩, st⟩
  · dsimp only [Pt.U, Pt.locs, Pt.cells, Pt.slots] at X' e1 e2 h1 h2 h3 st
    subst h1; subst h2; subst h3
    exact Or.inl ⟨v, (T.setVm vm₁).calling g' mk (Value.ref b :: As).toArray, t, U', L, hT, X', hL, e1, e2, hq, st⟩
  · dsimp only [Pt.U, Pt.locs, Pt.cells, Pt.slots] at X' e1 e2 h1 h2 h3 st hcl
    subst h1; subst h2; subst h3
    exact Or.inr ⟨q, (T.setVm vm₁).calling g' mk (Value.ref b :: As).toArray, t, U', L, E, ce, hT, X', hL, e1, e2, hq, hce, hcv, vx_cls hW₁ hcl, st⟩
end UXI
section XST8
variable {p : Program} {l : Launch} {e : Env} {R : Room} {s : State} {m : MethodId} {args : Array Value} {below : List Frame} {meth : Method} {c : Code} {Q : State → Prop} {D : va_G} {dA : Nat → ClassId} {base b n0 u0 j d pc pc' : Nat} {L L' : xL} {S S' : List Value} {h h' : xH} {sc : xS}
variable {H : Heap} {locs : List Loc} {ls : Array Slot}
/-! calls -/
theorem xG_same {s U : State} (hv : U.vm = s.vm) (hH : U.heap = s.heap) (h0 : xG D dA base b sc s) : xG D dA base b sc U := by
  have ha : s.vm.Alike U.vm := by rw [hv]; exact Vm.Alike.refl s.vm
  obtain ⟨h1, h2, h3, h4, h5, h6, h7, h8, h9, h10⟩ := h0
  refine ⟨va_K.moved ha h1, by rw [hH]; exact va_X.moved ha h2, h3, by rw [hH]; exact h4, by rw [hH]; exact vx_Zq.moved ha h5, by rw [hH]; exact vx_Zq.moved ha h6, fun w hw => va_Nw.same (xnw_tab (List.mem_filter.mp hw).2) hv.symm (h7 w hw), fun e f a1 a2 a3 a4 a5 => va_Nc.moved ha (h8 e f a1 a2 a3 a4 a5), fun t ht => va_AO.moved ha (h9 t ht), fun q hq => ?_⟩
  obtain ⟨sa, hsa⟩ := h10 q hq
  exact ⟨sa, vk_R.same hv hsa⟩
theorem xPc_blind {as : List Value} : FrameBlind (va_Pc as (fun U => xI D dA base h U ∧ xG D dA base b sc U)) := fun a U g mk hq => ⟨hq.1, hq.2.1, xG_same (s := U) rfl rfl hq.2.2⟩
theorem xhd_at {j0 : Nat} (hj : j0 < xMs.length) (hp : (xMs.getD j0 (100000, 0, 0, 0, false)).1 < lw_tbl.length) : xhd j0 ∈ xG0 ∧ (xmh j0 = [] → xhd j0 = .code (xmy j0) (xmc j0) (xml j0) (xmr j0)) ∧ (xmh j0 ≠ [] → xhd j0 = .codeWith (xmy j0) (xmc j0) (xml j0) (xmr j0) (xmh j0)) := by
  have h1 := List.all_eq_true.mp xhd_ok j0 (List.mem_range.mpr hj)
  unfold xhdt at h1
  rw [Bool.and_eq_true] at h1
  refine ⟨List.mem_filter.mpr ⟨?_, h1.2⟩, ?_⟩
  · unfold xhd
    rw [List.getD_eq_getElem?_getD, List.getElem?_eq_getElem hp]
    exact List.getElem_mem hp
  · have h2 := h1.1
    unfold xmy xmc xmr xmh
    cases hx : xhd j0 with
    | code y c0 m0 r0 =>
      rw [hx] at h2
      have h3 : m0 = xml j0 := of_decide_eq_true h2
      exact ⟨fun _ => by simp only [h3], fun q => absurd rfl q⟩
    | codeWith y c0 m0 r0 hh0 =>
      rw [hx] at h2
      have h3 := of_decide_eq_true h2
      exact ⟨fun q => absurd q h3.2, fun _ => by simp only [h3.1]⟩
    | _ => rw [hx] at h2; cases h2
theorem xMt_at {j0 : Nat} (hj : j0 < xMs.length) : (xmy j0).cls = xC (xmo j0) ∧ plainFor (xmy j0) = true ∧ xml j0 ≤ 15 ∧ ((xmy j0).cls ≠ "java/lang/invoke/MethodHandle" ∧ (xmy j0).cls ≠ "java/lang/invoke/VarHandle") ∧ (parseMethodDescriptor (xmy j0).desc).map (fun q => q.parameters.length) = some (if xms j0 = true then xmn j0 else xmn j0 - 1) ∧ (xms j0 = true ∨ 1 ≤ xmn j0) ∧ Cond.initialized (xC (xmo j0)) ∈ xG0 := by
  have h1 := List.all_eq_true.mp xMt_ok j0 (List.mem_range.mpr hj)
  unfold xMt at h1
  simp only [Bool.and_eq_true] at h1
  obtain ⟨⟨⟨⟨⟨⟨a1, a2⟩, a3⟩, a4⟩, a5⟩, a6⟩, a7⟩ := h1
  exact ⟨of_decide_eq_true a1, a2, of_decide_eq_true a3, of_decide_eq_true a4, of_decide_eq_true a5, of_decide_eq_true a6, List.mem_filter.mpr ⟨of_decide_eq_true a7, rfl⟩⟩
theorem xG0_good : ∀ w ∈ xG0, goodWord w = true := fun _ hw => (List.mem_filter.mp hw).2
theorem xinv_eq {j0 j1 pc1 : Nat} {as S1 : List Value} (hA : xinv j0 pc S = some (.inr (.inr (j1, as, pc1, S1)))) : j1 = j0 ∧ pc1 = pc + 3 ∧ as = (S.take (xmn j0)).reverse ∧ S1 = S.drop (xmn j0) ∧ xmn j0 ≤ S.length ∧ (S1.length ≤ 4 ∨ (S1.length ≤ 8 ∧ S1.all xcat1 = true)) := by
  unfold xinv xcal at hA
  split at hA
  · next h1 => cases hA; exact ⟨rfl, rfl, rfl, rfl, h1.1, h1.2⟩
  · cases hA
theorem xgo_nc {a : Nat} {L2 : xL} {S2 : List Value} {h2 : xH} {r : (xO × xH) ⊕ (Nat × List Value × Nat × List Value)} (hA : xgo a L2 S2 h2 = some (.inr r)) : False := by cases hA
theorem xend_nc {o : xO} {h0 : xH} {r : Nat × List Value × Nat × List Value} (hA : xend o h0 = some (.inr (.inr r))) : False := by cases hA
/-- which instructions call, and what -/
theorem xact_call {ins : Instr} {j1 pc1 : Nat} {as S1 : List Value} (hA : xact sc d j ins pc L S h = some (.inr (.inr (j1, as, pc1, S1)))) :
    ∃ idx q2 q3 q4, pc1 = pc + 3 ∧ as = (S.take (xmn j1)).reverse ∧ S1 = S.drop (xmn j1) ∧ xmn j1 ≤ S.length ∧ (S1.length ≤ 4 ∨ (S1.length ≤ 8 ∧ S1.all xcat1 = true)) ∧
      ((ins = .invokestatic idx ∧ xlk xCL (xmo j) idx = some (j1, 0, q2, q3, q4)) ∨ (ins = .invokevirtual idx ∧ xlk xCL (xmo j) idx = some (j1, 1, q2, q3, q4) ∧ xrcv j1 h (S.drop (xmn j1 - 1)) = true) ∨ (ins = .invokespecial idx ∧ xlk xCL (xmo j) idx = some (j1, 2, q2, q3, q4) ∧ xrcv j1 h (S.drop (xmn j1 - 1)) = true)) := by
  unfold xact at hA
  split at hA
  all_goals first
    | (exfalso; repeat' (split at hA)
       all_goals first
         | (cases hA; done)
         | exact xgo_nc hA
         | exact xst_ne hA
         | exact xbr_ne hA
         | exact xend_nc hA
         | exact xthr_nc hA
       done)
    | skip
  · split at hA
    · next idx j0 q hf =>
      obtain ⟨rfl, e1, e2, e3, e4, e5⟩ := xinv_eq hA
      exact ⟨_, q.1, q.2.1, q.2.2, e1, e2, e3, e4, e5, Or.inl ⟨rfl, hf⟩⟩
    · cases hA
  · split at hA
    · next idx j0 q hf =>
      split at hA
      · next hr =>
        obtain ⟨rfl, e1, e2, e3, e4, e5⟩ := xinv_eq hA
        exact ⟨_, q.1, q.2.1, q.2.2, e1, e2, e3, e4, e5, Or.inr (Or.inl ⟨rfl, hf, hr⟩)⟩
      · cases hA
    · cases hA
  · split at hA
    · next idx j0 q hf =>
      split at hA
      · next hr =>
        obtain ⟨rfl, e1, e2, e3, e4, e5⟩ := xinv_eq hA
        exact ⟨_, q.1, q.2.1, q.2.2, e1, e2, e3, e4, e5, Or.inr (Or.inr ⟨rfl, hf, hr⟩)⟩
      · cases hA
    · cases hA
    · split at hA
      · split at hA
        · exact (xgo_nc hA).elim
        · cases hA
      · cases hA
theorem xCL_at {o i0 j1 k0 q2 q3 q4 : Nat} (hf : xlk xCL o i0 = some (j1, k0, q2, q3, q4)) : j1 < xMs.length ∧ (xMs.getD j1 (100000, 0, 0, 0, false)).1 < lw_tbl.length ∧ Cond.methodLink (xC o) i0 (xmy j1) ∈ xG0 ∧
    (k0 = 0 → Cond.static (xmy j1) ∈ xG0 ∧ xms j1 = true) ∧ (k0 = 1 → Cond.instanceMethod (xmy j1) ∈ xG0 ∧ Cond.selects (xC (xmo j1)) (xmy j1) (xmy j1) ∈ xG0 ∧ xms j1 = false) ∧ (k0 = 2 → Cond.instanceMethod (xmy j1) ∈ xG0 ∧ xms j1 = false ∧ (xmy j1).name = "<init>" ∧ xmr j1 = none ∧ xmh j1 = []) := by
  have h1 := List.all_eq_true.mp xCL_ok _ (xlk_mem hf)
  have h2 := of_decide_eq_true (List.all_eq_true.mp xCL_lt _ (xlk_mem hf))
  unfold xCLt at h1
  rw [Bool.and_eq_true] at h1
  refine ⟨h2.1, h2.2, xG0_of (of_decide_eq_true h1.1) rfl, ?_, ?_, ?_⟩
  · rintro rfl
    have h3 := h1.2
    simp only [Bool.and_eq_true] at h3
    exact ⟨xG0_of (of_decide_eq_true h3.1) rfl, h3.2⟩
  · rintro rfl
    have h3 := h1.2
    simp only [Bool.and_eq_true, Bool.not_eq_true'] at h3
    exact ⟨xG0_of (of_decide_eq_true h3.1.1) rfl, xG0_of (of_decide_eq_true h3.1.2) rfl, h3.2⟩
  · rintro rfl
    have h3 := h1.2
    simp only [Bool.and_eq_true, Bool.not_eq_true'] at h3
    exact ⟨xG0_of (of_decide_eq_true h3.1.1) rfl, h3.1.2, of_decide_eq_true h3.2⟩
theorem xrcv_at {j1 : Nat} (hR : xRel D dA base b n0 u0 j s h L H locs ls) (hG : xG D dA base b sc s) (ho : xmo j1 < 11) {T : List Value} (hr : xrcv j1 h T = true) : ∃ a T2, T = .ref a :: T2 ∧ ∃ cellB : Cell, H[base + a]? = some cellB ∧ cellB.vm.isStatics = false ∧ s.vm.findClass (xC (xmo j1)) = some cellB.cls := by
  match T, hr with
  | .ref a :: T2, hr =>
    have hT := of_decide_eq_true hr
    exact ⟨a, T2, rfl, va_recv hG.1 hR.1 (xcl_get ho) (xRel_ob hR ho hT)⟩
set_option maxRecDepth 100000 in
theorem xMo_ok : (List.range xMs.length).all (fun j => xms j || (decide (xmo j < 8) && decide (xmh j = []))) = true := by decide +kernel
theorem xMo_at {j0 : Nat} (hj : j0 < xMs.length) (h0 : xms j0 = false) : xmo j0 < 8 ∧ xmh j0 = [] := by
  have h1 := List.all_eq_true.mp xMo_ok j0 (List.mem_range.mpr hj)
  rw [h0, Bool.false_or, Bool.and_eq_true] at h1
  exact ⟨of_decide_eq_true h1.1, of_decide_eq_true h1.2⟩
theorem xtake {n a : Nat} {T2 : List Value} (hn : 1 ≤ n) (e : S.drop (n - 1) = .ref a :: T2) : (S.take n).reverse = .ref a :: (S.take (n - 1)).reverse ∧ S.drop n = T2 := by
  have e1 : S.take n = S.take (n - 1) ++ [.ref a] := by
    have h1 : n = (n - 1) + 1 := by omega
    rw [h1, List.take_add, e]
    simp
  have e2 : S.drop n = (S.drop (n - 1)).drop 1 := by
    rw [List.drop_drop]
    congr 1
    omega
  refine ⟨by rw [e1]; simp, by rw [e2, e]; rfl⟩
/-- a call runs as its contract says -/
theorem xs_callrun {ins : Instr} {j1 pc1 d1 : Nat} {as S1 : List Value} {o1 : xO} {h1 : xH} (C : xCtx p D dA base b sc j s m args meth c) (hF : R.frames = d1 + 1 ∧ 40 * (d1 + 1) ≤ R.locals) (hd : decode (xmc j) pc = .ok (ins, xlen ins)) (hA : xact sc d j ins pc L S h = some (.inr (.inr (j1, as, pc1, S1)))) (hR : xRel D dA base b n0 u0 j s h L H locs ls) (hsz : H.size = base + h.2.1.1) (hM : xMet l D dA base b sc d1 j1 as h o1 h1) (hres : h1.2.1.1 - n0 ≤ R.cells ∧ h1.2.1.2 - u0 ≤ R.slots) (hle : xle h h1) :
    pc1 = pc + 3 ∧ vx_Run p l e R s m args below meth c H locs (h.2.1.1 - n0) (h.2.1.2 - u0) (h1.2.1.1 - h.2.1.1) (h1.2.1.2 - h.2.1.2) (F0 m pc ls (S.map (xtr base b))) (S1.map (xtr base b)) (xQ D dA base b o1 h1 (as.map (xtr base b)).toArray) (xX D dA base o1 h1) (xAA base) := by
  obtain ⟨hx, hb, hr, hml, hown, hts, hlocks, hnm, htb, hG⟩ := C
  have hn0 := hR.2.2.2.2.1
  have hu0 := hR.2.2.2.2.2.1
  obtain ⟨hle1, hle2⟩ := hle
  obtain ⟨idx, q2, q3, q4, rfl, rfl, rfl, hnS, hS4, hcase⟩ := xact_call hA
  refine ⟨rfl, ?_⟩
  have hf2 : h.2.1.1 - n0 + (h1.2.1.1 - h.2.1.1) ≤ R.cells ∧ h.2.1.2 - u0 + (h1.2.1.2 - h.2.1.2) ≤ R.slots := ⟨by omega, by omega⟩
  have hsum := xsum8 (base := base) (b := b) hS4
  have hfix : CallFix p m c (xmc j) (xml j) s args xG0 (xC (xmo j)) := ⟨hx, hb, hml, hown, hts⟩
  have hpre : ∀ U : State, U.heap = H → s.WarmedH U.vm → va_Pc (((S.take (xmn j1)).reverse).map (xtr base b)) (fun U => xI D dA base h U ∧ xG D dA base b sc U) (((S.take (xmn j1)).reverse).map (xtr base b)).toArray U := fun U hU hW => ⟨rfl, ⟨by rw [hU]; exact hsz, by rw [hU]; exact hR.1, hR.2.2.2.2.2.2⟩, xG_at hG hR.2.1 hU hW⟩
  have hstk : S.map (xtr base b) = (((S.take (xmn j1)).reverse).map (xtr base b)).reverse ++ (S.drop (xmn j1)).map (xtr base b) := by
    rw [← List.map_reverse, List.reverse_reverse, ← List.map_append, List.take_append_drop]
  have hlen : (((S.take (xmn j1)).reverse).map (xtr base b)).length = xmn j1 := by simp; omega
  have hroom : 2 * (F0 m pc ls (S.map (xtr base b))).monitorRoom + (((S.drop (xmn j1)).map (xtr base b)).map fun v => v.category).sum ≤ 8 := lv_room hsum
  rcases hcase with ⟨rfl, hf⟩ | ⟨rfl, hf, hrc⟩ | ⟨rfl, hf, hrc⟩
  · obtain ⟨hj1, hp1, hlk, hk0, -, -⟩ := xCL_at hf
    obtain ⟨hst, hms⟩ := hk0 rfl
    obtain ⟨m1, m2, m3, m4, m5, m6, m7⟩ := xMt_at hj1
    obtain ⟨g1, g2, g3⟩ := xhd_at hj1 hp1
    have hgood : GoodIn xG0 (xhd j1 :: xG0) := fun w hw => by
      rcases List.mem_cons.mp hw with rfl | hw
      · exact ⟨g1, good_of_word (xG0_good _ g1)⟩
      · exact ⟨hw, good_of_word (xG0_good _ hw)⟩
    rw [if_pos hms] at m5
    have hini : (Cond.initialized (xmy j1).cls).before args s = true := by rw [m1]; exact hts _ m7
    have hRR : d1 + 1 ≤ R.frames ∧ 8 + (xml j1 + 11) + 40 * d1 ≤ R.locals := ⟨by rw [hF.1]; exact Nat.le_refl _, by have := hF.2; omega⟩
    by_cases hh : xmh j1 = []
    · exact vx_runS (bytes := xmc j1) (maxL := xml j1) (ret := xmr j1) hfix hM ⟨callB_of (xmn j1) hts hgood (by rw [g2 hh]) rfl rfl hini (hts _ hlk) ⟨m4.1, m4.2, m5⟩ hRR, hts _ hst⟩ ⟨xPc_blind, hpre⟩ rfl hlen hR.2.2.2.1.1 hstk hroom hd hf2
    · have hcw : Cond.codeWith (xmy j1) (xmc j1) (xml j1) (xmr j1) (xmh j1) ∈ xhd j1 :: xG0 := by rw [g3 hh]; exact List.mem_cons_self
      exact vx_runSX (bytes := xmc j1) (maxL := xml j1) (ret := xmr j1) (hh := xmh j1) hfix hM ⟨⟨rfl, rfl, hRR.1, hRR.2, pay_in hts hgood, hcw⟩, hts _ (hgood _ hcw).1, hini, m4, fun sig q => by rw [q] at m5; exact (Option.some.inj m5).symm, hts _ hlk, hts _ hst⟩ ⟨xPc_blind, hpre⟩ rfl hlen hR.2.2.2.1.1 hstk hroom hd hf2
  · obtain ⟨hj1, hp1, hlk, -, hk1, -⟩ := xCL_at hf
    obtain ⟨hin, hse, hms⟩ := hk1 rfl
    obtain ⟨m1, m2, m3, m4, m5, m6, m7⟩ := xMt_at hj1
    obtain ⟨g1, g2, g3⟩ := xhd_at hj1 hp1
    obtain ⟨o8, hh⟩ := xMo_at hj1 hms
    obtain ⟨a, T2, eT, hcell⟩ := xrcv_at hR hG (by omega) hrc
    have hn1 : 1 ≤ xmn j1 := m6.resolve_left (by rw [hms]; decide)
    obtain ⟨et, ed⟩ := xtake hn1 eT
    have hgood : GoodIn xG0 (xhd j1 :: xG0) := fun w hw => by
      rcases List.mem_cons.mp hw with rfl | hw
      · exact ⟨g1, good_of_word (xG0_good _ g1)⟩
      · exact ⟨hw, good_of_word (xG0_good _ hw)⟩
    rw [if_neg (by rw [hms]; decide)] at m5
    have hini : (Cond.initialized (xmy j1).cls).before args s = true := by rw [m1]; exact hts _ m7
    have hRR : d1 + 1 ≤ R.frames ∧ 8 + (xml j1 + 11) + 40 * d1 ≤ R.locals := ⟨by rw [hF.1]; exact Nat.le_refl _, by have := hF.2; omega⟩
    rw [et] at hM hpre hstk hlen ⊢
    have hstk2 : S.map (xtr base b) = (((S.take (xmn j1 - 1)).reverse).map (xtr base b)).reverse ++ .ref (base + a) :: (S.drop (xmn j1)).map (xtr base b) := by
      rw [hstk, List.map_cons, List.reverse_cons, List.append_assoc]
      rfl
    have hlen2 : (((S.take (xmn j1 - 1)).reverse).map (xtr base b)).length = xmn j1 - 1 := by
      rw [List.map_cons, List.length_cons] at hlen
      omega
    exact vx_runV (C := xC (xmo j1)) (bytes := xmc j1) (maxL := xml j1) (ret := xmr j1) hfix hM ⟨callB_of (xmn j1 - 1) hts hgood (by rw [g2 hh]) rfl rfl hini (hts _ hlk) ⟨m4.1, m4.2, m5⟩ hRR, hts _ hin, hts _ hse⟩ ⟨xPc_blind, hcell, hpre⟩ rfl hlen2 hR.2.2.2.1.1 hstk2 hroom hd hf2
  · obtain ⟨hj1, hp1, hlk, -, -, hk1⟩ := xCL_at hf
    obtain ⟨hin, hms, hnmI, hrt, -⟩ := hk1 rfl
    obtain ⟨m1, m2, m3, m4, m5, m6, m7⟩ := xMt_at hj1
    obtain ⟨g1, g2, g3⟩ := xhd_at hj1 hp1
    obtain ⟨o8, hh⟩ := xMo_at hj1 hms
    obtain ⟨a, T2, eT, hcell⟩ := xrcv_at hR hG (by omega) hrc
    have hn1 : 1 ≤ xmn j1 := m6.resolve_left (by rw [hms]; decide)
    obtain ⟨et, ed⟩ := xtake hn1 eT
    have hgood : GoodIn xG0 (xhd j1 :: xG0) := fun w hw => by
      rcases List.mem_cons.mp hw with rfl | hw
      · exact ⟨g1, good_of_word (xG0_good _ g1)⟩
      · exact ⟨hw, good_of_word (xG0_good _ hw)⟩
    rw [if_neg (by rw [hms]; decide)] at m5
    have hini : (Cond.initialized (xmy j1).cls).before args s = true := by rw [m1]; exact hts _ m7
    have hRR : d1 + 1 ≤ R.frames ∧ 8 + (xml j1 + 11) + 40 * d1 ≤ R.locals := ⟨by rw [hF.1]; exact Nat.le_refl _, by have := hF.2; omega⟩
    rw [et] at hM hpre hstk hlen ⊢
    have hstk2 : S.map (xtr base b) = (((S.take (xmn j1 - 1)).reverse).map (xtr base b)).reverse ++ .ref (base + a) :: (S.drop (xmn j1)).map (xtr base b) := by
      rw [hstk, List.map_cons, List.reverse_cons, List.append_assoc]
      rfl
    have hlen2 : (((S.take (xmn j1 - 1)).reverse).map (xtr base b)).length = xmn j1 - 1 := by
      rw [List.map_cons, List.length_cons] at hlen
      omega
    exact ux_runI (bytes := xmc j1) (maxL := xml j1) hfix hM ⟨callB_of (xmn j1 - 1) hts hgood (by rw [g2 hh, hrt]) rfl rfl hini (hts _ hlk) ⟨m4.1, m4.2, m5⟩ hRR, hnmI, hts _ hin⟩ ⟨xPc_blind, hpre⟩ rfl hlen2 hR.2.2.2.1.1 hstk2 hroom hd hf2
/-- behind a call -/
theorem xs_after {st0 rest : List Value} {a0 : Array Value} {o1 : xO} {h1 : xH} (hR : xRel D dA base b n0 u0 j s h L H locs ls) (hle : xle h h1) (hr : vx_Run p l e R s m args below meth c H locs (h.2.1.1 - n0) (h.2.1.2 - u0) (h1.2.1.1 - h.2.1.1) (h1.2.1.2 - h.2.1.2) (F0 m pc ls st0) rest (xQ D dA base b o1 h1 a0) (xX D dA base o1 h1) (xAA base))
    (kv : ∀ v, o1 = .inl v → ∀ H1 locs1, xRel D dA base b n0 u0 j s h1 L H1 locs1 ls → W p l e R s m args below meth c H1 locs1 (h1.2.1.1 - n0) (h1.2.1.2 - u0) Q (F0 m (pc + 3) ls ((v.map (xtr base b)).toList ++ rest)))
    (kx : ∀ e0, o1 = .inr e0 → 8 ≤ e0 → e0 < 11 → ∀ H1 locs1 q ce, xRel D dA base b n0 u0 j s h1 L H1 locs1 ls → H1[q]? = some ce → ce.vm = .none → s.vm.findClass (xC e0) = some ce.cls → H1.size = base + h1.2.1.1 → vx_W p l e R s m args below meth c H1 locs1 (h1.2.1.1 - n0) (h1.2.1.2 - u0) Q (F0 m pc ls rest) q) :
    W p l e R s m args below meth c H locs (h.2.1.1 - n0) (h.2.1.2 - u0) Q (F0 m pc ls st0) := by
  have hn0 := hR.2.2.2.2.1
  have hu0 := hR.2.2.2.2.2.1
  obtain ⟨hle1, hle2⟩ := hle
  have e1 : h.2.1.1 - n0 + (h1.2.1.1 - h.2.1.1) = h1.2.1.1 - n0 := by omega
  have e2 : h.2.1.2 - u0 + (h1.2.1.2 - h.2.1.2) = h1.2.1.2 - u0 := by omega
  intro T hT X
  rcases hr T hT X with ⟨v, st₀, t, T', L1, h0, X', hL, q1, q2, ⟨⟨v1, ho, hv⟩, hI, hFr⟩, st⟩ | ⟨q, st₀, t, T', L1, E, ce, h0, X', hL, q1, q2, ⟨⟨e0, ho, h8, h11, rfl⟩, hI, hFr⟩, hce, hcv, hcl, st⟩
  · cases hv
    obtain ⟨k1, k2, k3⟩ := vx_keep (A1 := xAA base) h0 q1 hR.2.1 (fun _ _ z => z) (fun _ z => z) hL hFr
    rw [e1, e2] at X'
    obtain ⟨t2, a1, b1⟩ := kv v1 ho T'.heap (locs ++ L1) ⟨by rw [q1]; exact hI.2.1, k3, hR.2.2.1, hR.2.2.2.1, by omega, by omega, hI.2.2⟩ T' rfl X'
    exact ⟨t2, st t2 a1, b1⟩
  · obtain ⟨k1, k2, k3⟩ := vx_keep (A1 := xAA base) h0 q1 hR.2.1 (fun _ _ z => z) (fun _ z => z) hL hFr
    rw [e1, e2] at X'
    obtain ⟨t2, a1, b1⟩ := kx e0 ho h8 h11 T'.heap (locs ++ L1) q ce ⟨by rw [q1]; exact hI.2.1, k3, hR.2.2.1, hR.2.2.2.1, by omega, by omega, hI.2.2⟩ (by rw [q1]; exact hce) hcv hcl (by rw [q1]; exact hI.1) T' rfl X'
    exact ⟨t2, st.trans a1, b1⟩
end XST8
end
section
section XST9
variable {p : Program} {l : Launch} {e : Env} {R : Room} {s : State} {m : MethodId} {args : Array Value} {below : List Frame} {meth : Method} {c : Code} {Q : State → Prop} {D : va_G} {dA : Nat → ClassId} {base b n0 u0 j d pc pc' : Nat} {L L' : xL} {S S' : List Value} {h h' : xH} {sc : xS}
variable {H : Heap} {locs : List Loc} {ls : Array Slot}
set_option maxHeartbeats 4000000 in
/-- one instruction that goes on -/
theorem xs_go {ins : Instr} (C : xCtx p D dA base b sc j s m args meth c) (hs0 : s.heap.size = base + n0) (hF : R.frames = d ∧ 40 * d ≤ R.locals) (hres : h'.2.1.1 - n0 ≤ R.cells ∧ h'.2.1.2 - u0 ≤ R.slots) (hft : xft j pc = some ins) (hA : xact sc d j ins pc L S h = some (.inl (pc', L', S', h'))) (kk : xW p l e R s m args below meth c Q D dA base b n0 u0 j (pc') (L') (S') (h')) : xW p l e R s m args below meth c Q D dA base b n0 u0 j (pc) (L) (S) (h) := by
  obtain ⟨len, hd, hlen⟩ := xft_dec hft
  cases ins
  case iconst n => obtain rfl := hlen.resolve_right (fun q => by cases q); exact xs_iconst C hd hA kk
  case bipush n => obtain rfl := hlen.resolve_right (fun q => by cases q); exact xs_bipush C hd hA kk
  case sipush n => obtain rfl := hlen.resolve_right (fun q => by cases q); exact xs_sipush C hd hA kk
  case lconst n => obtain rfl := hlen.resolve_right (fun q => by cases q); exact xs_lconst C hd hA kk
  case aconst_null => obtain rfl := hlen.resolve_right (fun q => by cases q); exact xs_null C hd hA kk
  case iload_n n => obtain rfl := hlen.resolve_right (fun q => by cases q); exact xs_iload_n C hd hA kk
  case iload n => obtain rfl := hlen.resolve_right (fun q => by cases q); exact xs_iload C hd hA kk
  case aload_n n => obtain rfl := hlen.resolve_right (fun q => by cases q); exact xs_aload_n C hd hA kk
  case aload n => obtain rfl := hlen.resolve_right (fun q => by cases q); exact xs_aload C hd hA kk
  case istore_n n => obtain rfl := hlen.resolve_right (fun q => by cases q); exact xs_istore_n C hd hA kk
  case istore n => obtain rfl := hlen.resolve_right (fun q => by cases q); exact xs_istore C hd hA kk
  case astore_n n => obtain rfl := hlen.resolve_right (fun q => by cases q); exact xs_astore_n C hd hA kk
  case astore n => obtain rfl := hlen.resolve_right (fun q => by cases q); exact xs_astore C hd hA kk
  case iinc n k => obtain rfl := hlen.resolve_right (fun q => by cases q); exact xs_iinc C hd hA kk
  case iadd => obtain rfl := hlen.resolve_right (fun q => by cases q); exact xs_iadd C hd hA kk
  case isub => obtain rfl := hlen.resolve_right (fun q => by cases q); exact xs_isub C hd hA kk
  case imul => obtain rfl := hlen.resolve_right (fun q => by cases q); exact xs_imul C hd hA kk
  case idiv => obtain rfl := hlen.resolve_right (fun q => by cases q); exact xs_idiv C hd hA kk
  case irem => obtain rfl := hlen.resolve_right (fun q => by cases q); exact xs_irem C hd hA kk
  case iand => obtain rfl := hlen.resolve_right (fun q => by cases q); exact xs_iand C hd hA kk
  case ior => obtain rfl := hlen.resolve_right (fun q => by cases q); exact xs_ior C hd hA kk
  case ixor => obtain rfl := hlen.resolve_right (fun q => by cases q); exact xs_ixor C hd hA kk
  case ishl => obtain rfl := hlen.resolve_right (fun q => by cases q); exact xs_ishl C hd hA kk
  case ishr => obtain rfl := hlen.resolve_right (fun q => by cases q); exact xs_ishr C hd hA kk
  case i2l => obtain rfl := hlen.resolve_right (fun q => by cases q); exact xs_i2l C hd hA kk
  case l2i => obtain rfl := hlen.resolve_right (fun q => by cases q); exact xs_l2i C hd hA kk
  case land => obtain rfl := hlen.resolve_right (fun q => by cases q); exact xs_land C hd hA kk
  case lor => obtain rfl := hlen.resolve_right (fun q => by cases q); exact xs_lor C hd hA kk
  case lshl => obtain rfl := hlen.resolve_right (fun q => by cases q); exact xs_lshl C hd hA kk
  case lshr => obtain rfl := hlen.resolve_right (fun q => by cases q); exact xs_lshr C hd hA kk
  case lcmp => obtain rfl := hlen.resolve_right (fun q => by cases q); exact xs_lcmp C hd hA kk
  case dup => obtain rfl := hlen.resolve_right (fun q => by cases q); exact xs_dup C hd hA kk
  case dup2 => obtain rfl := hlen.resolve_right (fun q => by cases q); exact xs_dup2 C hd hA kk
  case if_icmp cnd off =>
    obtain rfl := hlen.resolve_right (fun q => by cases q)
    cases cnd
    · exact xs_icmp_eq C hd hA kk
    · exact xs_icmp_ne C hd hA kk
    · exact xs_icmp_lt C hd hA kk
    · exact xs_icmp_ge C hd hA kk
    · exact xs_icmp_gt C hd hA kk
    · exact xs_icmp_le C hd hA kk
  case ifCond cnd off =>
    obtain rfl := hlen.resolve_right (fun q => by cases q)
    cases cnd
    · exact xs_if_eq C hd hA kk
    · exact xs_if_ne C hd hA kk
    · exact xs_if_lt C hd hA kk
    · exact xs_if_ge C hd hA kk
    · exact xs_if_gt C hd hA kk
    · exact xs_if_le C hd hA kk
  case goto off => obtain rfl := hlen.resolve_right (fun q => by cases q); exact xs_goto C hd hA kk
  case ifnull off => obtain rfl := hlen.resolve_right (fun q => by cases q); exact xs_ifnull C hd hA kk
  case ifnonnull off => obtain rfl := hlen.resolve_right (fun q => by cases q); exact xs_ifnonnull C hd hA kk
  case tableswitch a b c2 f => exact xs_table C hd hA kk
  case ldc k => obtain rfl := hlen.resolve_right (fun q => by cases q); exact xs_ldc C hd hA kk
  case ldc2_w k => obtain rfl := hlen.resolve_right (fun q => by cases q); exact xs_ldc2 C hd hA kk
  case getfield k => obtain rfl := hlen.resolve_right (fun q => by cases q); exact xs_getfield C hd hA kk
  case putfield k => obtain rfl := hlen.resolve_right (fun q => by cases q); exact xs_putfield C hd hA kk
  case iaload => obtain rfl := hlen.resolve_right (fun q => by cases q); exact xs_iaload C hd hA kk
  case baload => obtain rfl := hlen.resolve_right (fun q => by cases q); exact xs_baload C hd hA kk
  case laload => obtain rfl := hlen.resolve_right (fun q => by cases q); exact xs_laload C hd hA kk
  case aaload => obtain rfl := hlen.resolve_right (fun q => by cases q); exact xs_aaload C hd hA kk
  case arraylength => obtain rfl := hlen.resolve_right (fun q => by cases q); exact xs_alen C hd hA kk
  case iastore => obtain rfl := hlen.resolve_right (fun q => by cases q); exact xs_iastore C hd hA kk
  case bastore => obtain rfl := hlen.resolve_right (fun q => by cases q); exact xs_bastore C hd hA kk
  case lastore => obtain rfl := hlen.resolve_right (fun q => by cases q); exact xs_lastore C hd hA kk
  case aastore => obtain rfl := hlen.resolve_right (fun q => by cases q); exact xs_aastore C hd hA kk
  case new k => obtain rfl := hlen.resolve_right (fun q => by cases q); exact xs_new C hs0 hres hd hA kk
  case newarray k => obtain rfl := hlen.resolve_right (fun q => by cases q); exact xs_newarray C hs0 hres hd hA kk
  case anewarray k => obtain rfl := hlen.resolve_right (fun q => by cases q); exact xs_anewarray C hs0 hres hd hA kk
  case invokespecial k => obtain rfl := hlen.resolve_right (fun q => by cases q); exact xs_objinit C hF hd hA kk
  case ireturn =>
    exfalso
    simp only [xact] at hA
    repeat' (split at hA)
    all_goals cases hA
  case areturn =>
    exfalso
    simp only [xact] at hA
    repeat' (split at hA)
    all_goals cases hA
  case return_ =>
    exfalso
    simp only [xact] at hA
    repeat' (split at hA)
    all_goals cases hA
  case invokestatic k =>
    exfalso
    simp only [xact] at hA
    split at hA
    · exact xinv_no hA
    · cases hA
  case invokevirtual k =>
    exfalso
    simp only [xact] at hA
    split at hA
    · split at hA
      · exact xinv_no hA
      · cases hA
    · cases hA
  all_goals (exfalso; cases hA)
end XST9
end
section
section XSA
variable {p : Program} {l : Launch} {e : Env} {R : Room} {s : State} {m : MethodId} {args : Array Value} {below : List Frame} {meth : Method} {c : Code} {Q : State → Prop} {D : va_G} {dA : Nat → ClassId} {base b n0 u0 j d pc pc' : Nat} {L L' : xL} {S S' : List Value} {h h' : xH} {sc : xS}
variable {H : Heap} {locs : List Loc} {ls : Array Slot}
set_option maxRecDepth 100000 in
theorem xKL_pos : xKL.all (fun e => decide (e.1.2 ≠ 0)) = true := by decide +kernel
/-- a handler that is found -/
theorem xhan_spec {e0 t n : Nat} : ∀ (T : List ExceptionTableEntry), xhan j pc e0 (T.map (fun h => (h.startPc, h.endPc, h.handlerPc, h.catchType))) = some (t, n) →
    ∃ pre x suf q0, T = pre ++ x :: suf ∧ (∀ z ∈ pre, covers z pc = false ∨ (z.catchType ≠ 0 ∧ ∃ e1 q1, 8 ≤ e1 ∧ e1 < 11 ∧ e1 ≠ e0 ∧ xlk xKL (xmo j) z.catchType = some (e1, q1))) ∧ covers x pc = true ∧ x.catchType ≠ 0 ∧ xlk xKL (xmo j) x.catchType = some (e0, q0) ∧ ((∃ k : Fin 4, xft j x.handlerPc = some (.astore_n k) ∧ t = x.handlerPc + 1 ∧ n = k.val) ∨ (∃ k : Nat, xft j x.handlerPc = some (.astore k) ∧ t = x.handlerPc + 2 ∧ n = k))
  | [], hh => by cases hh
  | x :: T, hh => by
    simp only [List.map_cons, xhan] at hh
    split at hh
    · next hcov =>
      have hc2 : covers x pc = true := by simp only [covers, Bool.and_eq_true, decide_eq_true_eq]; exact hcov
      split at hh
      · next e1 q1 hk =>
        have hpos : x.catchType ≠ 0 := of_decide_eq_true (List.all_eq_true.mp xKL_pos _ (xlk_mem hk))
        split at hh
        · next he =>
          subst he
          refine ⟨[], x, T, q1, rfl, fun z hz => absurd hz List.not_mem_nil, hc2, hpos, hk, ?_⟩
          split at hh
          · next k hf =>
            simp only [Option.some.injEq, Prod.mk.injEq] at hh
            exact Or.inl ⟨k, hf, hh.1.symm, hh.2.symm⟩
          · next k hf =>
            simp only [Option.some.injEq, Prod.mk.injEq] at hh
            exact Or.inr ⟨k, hf, hh.1.symm, hh.2.symm⟩
          · cases hh
        · next he =>
          split at hh
          · next h8 =>
            obtain ⟨pre, x1, suf, q0, e1', h2, h3, h4, h5, h6⟩ := xhan_spec T hh
            refine ⟨x :: pre, x1, suf, q0, by rw [e1']; rfl, fun z hz => ?_, h3, h4, h5, h6⟩
            rcases List.mem_cons.mp hz with rfl | hz
            · exact Or.inr ⟨hpos, e1, q1, h8.1, h8.2, he, hk⟩
            · exact h2 z hz
          · cases hh
      · cases hh
    · next hcov =>
      cases hh
theorem xtab_eq {T : List ExceptionTableEntry} {hh : List (Nat × Nat × Nat × Nat)} (e : T.map (fun h => (h.startPc, h.endPc, h.handlerPc, h.catchType)) = hh) : xhan j pc d hh = xhan j pc d (T.map (fun h => (h.startPc, h.endPc, h.handlerPc, h.catchType))) := by rw [e]
/-- into a handler -/
theorem xs_catch {e0 t n q : Nat} {rest : List Value} {ce : Cell} (C : xCtx p D dA base b sc j s m args meth c) (hh : xhan j pc e0 (xmh j) = some (t, n)) (hn : n < L.length) (h8 : 8 ≤ e0) (h11 : e0 < 11) (hR : xRel D dA base b n0 u0 j s h L H locs ls) (hce : H[q]? = some ce) (hcv : ce.vm = .none) (hcl : s.vm.findClass (xC e0) = some ce.cls) (kk : xW p l e R s m args below meth c Q D dA base b n0 u0 j (t) (L.set n none) ([]) (h)) :
    vx_W p l e R s m args below meth c H locs (h.2.1.1 - n0) (h.2.1.2 - u0) Q (F0 m pc ls rest) q := by
  obtain ⟨hx, hb, hr, hml, hown, hts, hlocks, hnm, htb, hG⟩ := C
  rw [← htb] at hh
  obtain ⟨pre, x, suf, q0, hsplit, hpass, hcov, hct, hk, hst⟩ := xhan_spec _ hh
  obtain ⟨g1, g2, g3⟩ := xEW_at h8 h11
  refine vx_catch (own := xC (xmo j)) (name := xC e0) (E := xC e0) hown pre x suf hsplit (fun z hz => ?_) hcov hct (hts _ (xKL_at hk)) (va_Nw.use rfl (hG.2.2.2.2.2.2.1 _ g3)) hce hcv hcl ?_
  · rcases hpass z hz with h1 | ⟨h1, e1, q1, a1, a2, a3, a4⟩
    · exact Or.inl h1
    · exact Or.inr ⟨h1, xC e1, hts _ (xKL_at a4), hG.2.2.2.2.2.2.2.1 e0 e1 h8 h11 a1 a2 (fun z => a3 z.symm)⟩
  · have key : ∀ ls', lv_has ls' (xml j) ((n, Value.ref q) :: (xlst base b L).filter (fun z => !(z.1 == n) && !(z.1 + 1 == n && z.2.category == 2))) → W p l e R s m args below meth c H locs (h.2.1.1 - n0) (h.2.1.2 - u0) Q (F0 m t ls' []) := fun ls' hl =>
      kk H locs ls' ⟨hR.1, hR.2.1, by rw [List.length_set]; exact hR.2.2.1, xlst_none hl, hR.2.2.2.2⟩
    have hn2 : n < xml j := by rw [← hR.2.2.1]; exact hn
    rcases hst with ⟨k, hf, rfl, rfl⟩ | ⟨k, hf, rfl, rfl⟩
    · exact lv_astore_n hx hb (xft_dec2 hf rfl) rfl hR.2.2.2.1 hn2 rfl key
    · exact lv_astore hx hb (xft_dec2 hf rfl) hR.2.2.2.1 hn2 rfl key
/-- a run of the method -/
theorem xs_main {Fc : Nat} {o : xO} {hZ : xH} (C : xCtx p D dA base b sc j s m args meth c) (hs0 : s.heap.size = base + n0) (hF : R.frames = d ∧ 40 * d ≤ R.locals) (hres : hZ.2.1.1 - n0 ≤ R.cells ∧ hZ.2.1.2 - u0 ≤ R.slots)
    (IH : ∀ j1 as h o1 h1, xcall sc d Fc j1 as h = some (o1, h1) → ∃ d1, d = d1 + 1 ∧ xMet l D dA base b sc d1 j1 as h o1 h1)
    (hend : ∀ ins pc L S h H locs ls, xft j pc = some ins → xact sc d j ins pc L S h = some (.inr (.inl (o, hZ))) → xRel D dA base b n0 u0 j s h L H locs ls → W p l e R s m args below meth c H locs (h.2.1.1 - n0) (h.2.1.2 - u0) Q (F0 m pc ls (S.map (xtr base b))))
    (hprop : ∀ e0 pc L rest H locs ls q ce, o = .inr e0 → 8 ≤ e0 → e0 < 11 → xmh j = [] → xRel D dA base b n0 u0 j s hZ L H locs ls → H[q]? = some ce → ce.vm = .none → s.vm.findClass (xC e0) = some ce.cls → H.size = base + hZ.2.1.1 → vx_W p l e R s m args below meth c H locs (hZ.2.1.1 - n0) (hZ.2.1.2 - u0) Q (F0 m pc ls rest) q) :
    ∀ F pc L S h, xrun sc d j (xcall sc d Fc) F pc L S h = some (o, hZ) → xW p l e R s m args below meth c Q D dA base b n0 u0 j (pc) (L) (S) (h) := by
  intro F
  induction F with
  | zero => intro pc L S h hh; cases hh
  | succ F ih =>
    intro pc L S h hh
    have hle0 : ∀ pc L S h o, xrun sc d j (xcall sc d Fc) F pc L S h = some o → xle h o.2 := xrun_le (fun j as h o q => xcall_le d Fc j as h o q) F
    simp only [xrun] at hh
    split at hh
    · cases hh
    · next ins hft =>
      generalize hA : xact sc d j ins pc L S h = A at hh
      match A, hA, hh with
      | some (.inl (pc', L', S', h')), hA, hh =>
        have hl : xle h' hZ := hle0 _ _ _ _ _ hh
        exact xs_go C hs0 hF ⟨by have := hl.1; omega, by have := hl.2; omega⟩ hft hA (ih _ _ _ _ hh)
      | some (.inr (.inl (o1, h1))), hA, hh =>
        cases hh
        exact fun H locs ls hR => hend _ _ _ _ _ H locs ls hft hA hR
      | some (.inr (.inr (j1, as, pc1, S1))), hA, hh =>
        simp only [xdo] at hh
        cases hc : xcall sc d Fc j1 as h with
        | none => rw [hc] at hh; cases hh
        | some r =>
          obtain ⟨o1, h1⟩ := r
          rw [hc] at hh
          obtain ⟨d1, rfl, hM⟩ := IH _ _ _ _ _ hc
          have hle1 : xle h h1 := xcall_le _ Fc j1 as h _ hc
          have hle2 : xle h1 hZ := by
            cases o1 with
            | inl v => cases v with
              | none => exact hle0 _ _ _ _ _ hh
              | some v => exact hle0 _ _ _ _ _ hh
            | inr e0 =>
              simp only [xret] at hh
              split at hh
              · cases hh; exact xle_rf _
              · split at hh
                · split at hh
                  · exact hle0 _ _ _ _ _ hh
                  · cases hh
                · cases hh
          intro H locs ls hR
          refine xsz hs0 hR fun hsz => ?_
          have hd : decode (xmc j) pc = .ok (ins, xlen ins) := by
            obtain ⟨idx, q2, q3, q4, -, -, -, -, -, hcase⟩ := xact_call hA
            rcases hcase with ⟨rfl, -⟩ | ⟨rfl, -⟩ | ⟨rfl, -⟩ <;> exact xft_dec2 hft rfl
          obtain ⟨rfl, hrun⟩ := xs_callrun C hF hd hA hR hsz hM ⟨by have := hle2.1; omega, by have := hle2.2; omega⟩ hle1
          refine xs_after hR hle1 hrun (fun v ho H1 locs1 hR1 => ?_) (fun e0 ho h8 h11 H1 locs1 q ce hR1 hce hcv hcl hsz1 => ?_)
          · subst ho
            cases v with
            | none => exact ih _ _ _ _ hh H1 locs1 ls hR1
            | some v => exact ih _ _ _ _ hh H1 locs1 ls hR1
          · subst ho
            simp only [xret] at hh
            split at hh
            · next hnil =>
              cases hh
              exact hprop e0 pc L _ H1 locs1 ls q ce rfl h8 h11 hnil hR1 hce hcv hcl hsz1
            · split at hh
              · next t n hhan =>
                split at hh
                · next hn => exact xs_catch C hhan hn h8 h11 hR1 hce hcv hcl (ih _ _ _ _ hh)
                · cases hh
              · cases hh
theorem xargs_mem : ∀ (vs : List Value) (i k : Nat) (v : Value), (∀ v ∈ vs, v.category = 1) → vs[k]? = some v → (i + k, v) ∈ lv_args i vs
  | [], _, _, _, _, hh => by cases hh
  | w :: vs, i, k, v, hc, hh => by
    have hw : ¬ w.category = 2 := by rw [hc w List.mem_cons_self]; decide
    simp only [lv_args, if_neg hw]
    cases k with
    | zero => cases hh; exact List.mem_cons_self
    | succ k =>
      rw [List.getElem?_cons_succ] at hh
      have h1 := xargs_mem vs (i + 1) k v (fun v hv => hc v (List.mem_cons_of_mem _ hv)) hh
      rw [show i + 1 + k = i + (k + 1) by omega] at h1
      exact List.mem_cons_of_mem _ h1
theorem xsl_len : ∀ (vs : List Value), (∀ v ∈ vs, v.category = 1) → (lg_sl vs).length = vs.length
  | [], _ => rfl
  | w :: vs, hc => by
    have hw : ¬ w.category = 2 := by rw [hc w List.mem_cons_self]; decide
    have h1 := xsl_len vs (fun v hv => hc v (List.mem_cons_of_mem _ hv))
    unfold lg_sl at h1 ⊢
    rw [List.flatMap_cons, if_neg hw, List.length_append, h1]
    simp
    omega
theorem xent_has {as : List Value} (hc : as.all xcat1 = true) (hl : as.length ≤ xml j) : (lg_sl (as.map (xtr base b))).length ≤ xml j ∧ ∀ ls, lv_has ls (xml j) (lv_args 0 (as.map (xtr base b))) → lv_has ls (xml j) (xlst base b (xent j as)) := by
  have hcat : ∀ v ∈ as.map (xtr base b), v.category = 1 := fun v hv => by
    obtain ⟨w, hw, rfl⟩ := List.mem_map.mp hv
    exact xtr_cat (List.all_eq_true.mp hc w hw)
  refine ⟨by rw [xsl_len _ hcat, List.length_map]; exact hl, fun ls hh => ⟨hh.1, hh.2.1, fun q hq => hh.2.2 q ?_⟩⟩
  obtain ⟨v, hv, hcv, e⟩ := xlst_mem.mp hq
  have h1 : as[q.1]? = some v := by
    unfold xent at hv
    by_cases hlt : q.1 < as.length
    · rw [List.getElem?_append_left (by rw [List.length_map]; exact hlt), List.getElem?_map] at hv
      cases ha : as[q.1]? with
      | none => rw [ha] at hv; cases hv
      | some w => rw [ha] at hv; cases hv; rfl
    · rw [List.getElem?_append_right (by rw [List.length_map]; omega)] at hv
      have h2 := List.eq_of_mem_replicate (List.mem_of_getElem? hv)
      cases h2
  have h2 : (as.map (xtr base b))[q.1]? = some q.2 := by rw [List.getElem?_map, h1, e]; rfl
  have h3 := xargs_mem _ 0 q.1 q.2 hcat h2
  rw [Nat.zero_add] at h3
  exact h3
end XSA
section XSB
variable {l : Launch} {D : va_G} {dA : Nat → ClassId} {base b : Nat} {sc : xS}
theorem ux_of {y : MethodName} {ws ws' : List Cond} {rm : Room} {Pc : Array Value → State → Prop} {Qc : Array Value → State → Outcome → State → Prop} {XC : String → State → State → Prop} {mc ms : Nat} {free : Addr → Prop} {cc : ByteArray} {maxL : Nat} {ret : Option FieldType} {hh : List (Nat × Nat × Nat × Nat)} {hd : Cond}
    (hy : plainFor y = true) (hw : ws = hd :: ws') (hhd : (hh = [] ∧ hd = .code y cc maxL ret) ∨ hd = .codeWith y cc maxL ret hh)
    (body : ∀ p e s m args below meth c s₁, BodyLoose p l y (headSpec ws rm) cc maxL ret e s m args below meth c s₁ → c.maxLocals = maxL → c.exceptionTable.toList.map (fun h => (h.startPc, h.endPc, h.handlerPc, h.catchType)) = hh → Pc args s →
      W p l e (headSpec ws rm).room s m args below meth c s.heap [] 0 0 (vx_MQ below Qc XC args s mc ms free) (entryFrame m args maxL)) : vx_Met l y ws rm Pc Qc XC mc ms free := by
  have spec : ∀ args (s : State) m, (headSpec ws rm).pre.before args s = true → s.methodNamed? y = some m → ∃ meth c, s.vm.method? m = some meth ∧ meth.code = some c ∧ c.code = cc ∧ c.maxLocals = maxL ∧ meth.sig.returnType = ret ∧ meth.locks = false ∧ c.exceptionTable.toList.map (fun h => (h.startPc, h.endPc, h.handlerPc, h.catchType)) = hh := by
    intro args s m hp hn
    have h0 := atoms_spec (ws := ws) hp _ (by rw [hw]; exact List.mem_cons_self)
    rcases hhd with ⟨rfl, rfl⟩ | rfl
    · obtain ⟨meth, c, h1, h2, h3, h4, h5, h6, h7, -⟩ := Cond.code_spec hn h0
      refine ⟨meth, c, h1, h2, h3, h4, h5, h6, ?_⟩
      rw [Array.isEmpty_iff.mp h7]
      rfl
    · obtain ⟨m9, meth, c, hn9, h1, h2, h3, h4, h5, h6, h7, -⟩ := Cond.codeWith_spec h0
      cases hn.symm.trans hn9
      exact ⟨meth, c, h1, h2, h3, h4, h6, h7, h5⟩
  refine MetFree.of_bodySF (code := cc) (maxLocals := maxL) (ret := ret) hy ?_ ?_
  · intro args s m hp hn
    obtain ⟨meth, c, h1, h2, h3, h4, h5, h6, -⟩ := spec args s m hp hn
    exact ⟨meth, c, h1, h2, h3, h4, h5, h6⟩
  · intro p e s m args below meth c s₁ B hml hP _
    have hh0 : s₁.heap = s.heap := by rw [B.state]; rfl
    have ht : c.exceptionTable.toList.map (fun h => (h.startPc, h.endPc, h.handlerPc, h.catchType)) = hh := by
      obtain ⟨meth9, c9, h1, h2, -, -, -, -, h7⟩ := spec args s m B.pre B.named
      cases Option.some.inj (h1.symm.trans B.method)
      cases Option.some.inj (h2.symm.trans (Stand.of_body B).code)
      exact h7
    obtain ⟨t, a1, o, b1, b2, b3⟩ := body p e s m args below meth c s₁ B hml ht hP s₁ hh0 (Stand.of_body B)
    exact ⟨t, o, a1, b1, b2, b3⟩
theorem xhd_at2 {j0 : Nat} (hj : j0 < xMs.length) : (xmh j0 = [] ∧ xhd j0 = .code (xmy j0) (xmc j0) (xml j0) (xmr j0)) ∨ xhd j0 = .codeWith (xmy j0) (xmc j0) (xml j0) (xmr j0) (xmh j0) := by
  have h1 := List.all_eq_true.mp xhd_ok j0 (List.mem_range.mpr hj)
  unfold xhdt at h1
  rw [Bool.and_eq_true] at h1
  have h2 := h1.1
  unfold xmy xmc xmr xmh
  cases hx : xhd j0 with
  | code y c0 m0 r0 =>
    rw [hx] at h2
    have h3 : m0 = xml j0 := of_decide_eq_true h2
    exact Or.inl ⟨rfl, by simp only [h3]⟩
  | codeWith y c0 m0 r0 hh0 =>
    rw [hx] at h2
    have h3 := of_decide_eq_true h2
    exact Or.inr (by simp only [h3.1])
  | _ => rw [hx] at h2; cases h2
/-- SOUNDNESS: what the pure machine answers, the machine answers -/
theorem xs_meth (hfl : l.stackTraces = false) (d : Nat) : ∀ (F j : Nat) (as : List Value) (h : xH) (o : xO) (h' : xH), xcall sc d F j as h = some (o, h') → ∃ d1, d = d1 + 1 ∧ xMet l D dA base b sc d1 j as h o h' := by
  induction d with
  | zero => intro F j as h o h' hh; rw [xcall_0] at hh; cases hh
  | succ d ih =>
    intro F j as h o h' hh
    refine ⟨d, rfl, ?_⟩
    have hle := xcall_le (sc := sc) _ F j as h _ hh
    rw [xcall_s] at hh
    split at hh
    · next hg =>
      obtain ⟨hj, hn, hc, hl⟩ := hg
      obtain ⟨e1, e2⟩ := xent_has (base := base) (b := b) hc hl
      refine ux_of (cc := xmc j) (maxL := xml j) (ret := xmr j) (hh := xmh j) (xMt_at hj).2.1 rfl (xhd_at2 hj) ?_
      intro p e s m args below meth c s₁ B hml htb hv
      obtain ⟨rfl, hI, hG⟩ := hv
      have hpre := atoms_spec (ws := xhd j :: xG0) B.pre
      have hown : s.vm.findClass (xC (xmo j)) = some m.cls := by rw [← (xMt_at hj).1]; exact findClass_of_methodNamed B.named
      have C : xCtx p D dA base b sc j s m (as.map (xtr base b)).toArray meth c := ⟨B.exec, B.bytes, B.returns, hml, hown, fun w hw => hpre w (List.mem_cons_of_mem _ hw), B.notSynchronized, (name_of_methodNamed B.named B.method).1, htb, hG⟩
      have hlv := lv_entry (as.map (xtr base b)) e1
      rw [lg_entry_eq]
      generalize (lg_sl (as.map (xtr base b)) ++ List.replicate (xml j - (lg_sl (as.map (xtr base b))).length) Slot.unset).toArray = ls at hlv ⊢
      have hR : xRel D dA base b h.2.1.1 h.2.1.2 j s h (xent j as) s.heap [] ls := ⟨hI.2.1, va_S.rf, by simp [xent]; omega, e2 ls hlv, Nat.le_refl _, Nat.le_refl _, hI.2.2⟩
      have key := xs_main (l := l) (e := e) (R := (headSpec (xhd j :: xG0) ({ frames := d, cells := h'.2.1.1 - h.2.1.1, slots := h'.2.1.2 - h.2.1.2, locals := 40 * d } : Room)).room) (below := below) (Q := vx_MQ below (xQ D dA base b o h') (xX D dA base o h') (as.map (xtr base b)).toArray s (h'.2.1.1 - h.2.1.1) (h'.2.1.2 - h.2.1.2) (xAA base)) (n0 := h.2.1.1) (u0 := h.2.1.2) (Fc := F) (o := o) (hZ := h') C hI.1 ⟨rfl, Nat.le_refl _⟩ ⟨Nat.le_refl _, Nat.le_refl _⟩ (fun j1 as h o1 h1 q => ih F j1 as h o1 h1 q)
        (fun ins pc L S h1 H locs ls hft hA hR => ?_) (fun e0 pc L rest H locs ls q ce ho h8 h11 hnil hR hce hcv hcl hsz => ?_) F 0 (xent j as) [] h hh s.heap [] ls hR
      · rw [Nat.sub_self, Nat.sub_self] at key
        exact key
      · by_cases hne : ∃ k, ins = .new k
        · obtain ⟨k, rfl⟩ := hne
          exact xs_throw C hI.1 ⟨rfl, Nat.le_refl _⟩ ⟨Nat.le_refl _, Nat.le_refl _⟩ hfl (xft_dec2 hft rfl) hA hR
        · have hd : decode (xmc j) pc = .ok (ins, xlen ins) := by
            refine xft_dec2 hft ?_
            cases ins <;> first | rfl | (exfalso; simp only [xact] at hA; repeat' (split at hA)
                                         all_goals cases hA)
          exact xs_end C hI.1 hd (fun k q => hne ⟨k, q⟩) hA hR
      · refine vx_out (E := xC e0) (ce := ce) ?_ B.notSynchronized hce hcv hcl (fun t ht hW => ⟨⟨e0, ho, h8, h11, rfl⟩, ?_⟩) hR.2.1.2.2 (Nat.le_refl _) (Nat.le_refl _)
        · rw [hnil, List.map_eq_nil_iff] at htb
          rw [htb]
          intro z hz
          cases hz
        · exact xRel_I hR hsz ht
    · cases hh
end XSB
end
section
/-! the pure machine's rows: one equation an instruction -/
section OPS
variable {sc : xS} {d i pc : Nat} {L L' : xL} {S : List Value} {h : xH}
theorem st_iconst {n : Int} (f : xft i pc = some (.iconst n)) : XR sc d i pc L S h = XR sc d i (pc + 1) L (.int (Int32.ofInt n) :: S) h := XR_eq f
theorem st_bipush {n : Int} (f : xft i pc = some (.bipush n)) (hv : (Int8.ofInt n).toInt32 = Int32.ofInt n) : XR sc d i pc L S h = XR sc d i (pc + 2) L (.int (Int32.ofInt n) :: S) h := by
  rw [← hv]; exact XR_eq f
theorem st_sipush {n : Int} (f : xft i pc = some (.sipush n)) (hv : (Int16.ofInt n).toInt32 = Int32.ofInt n) : XR sc d i pc L S h = XR sc d i (pc + 3) L (.int (Int32.ofInt n) :: S) h := by
  rw [← hv]; exact XR_eq f
theorem st_lconst {n : Fin 2} (f : xft i pc = some (.lconst n)) : XR sc d i pc L S h = XR sc d i (pc + 1) L (.long (Int64.ofNat n.val) :: S) h := XR_eq f
theorem st_ldc {k : Nat} {v : Int32 × Nat} (f : xft i pc = some (.ldc k)) (hv : xlk xIC (xmo i) k = some v) : XR sc d i pc L S h = XR sc d i (pc + 2) L (.int v.1 :: S) h := by
  rw [XR_eq f]; simp only [xact, hv]; rfl
theorem st_ldc2 {k : Nat} {v : Int64 × Nat} (f : xft i pc = some (.ldc2_w k)) (hv : xlk xJC (xmo i) k = some v) : XR sc d i pc L S h = XR sc d i (pc + 3) L (.long v.1 :: S) h := by
  rw [XR_eq f]; simp only [xact, hv]; rfl
theorem st_null (f : xft i pc = some .aconst_null) : XR sc d i pc L S h = XR sc d i (pc + 1) L (.null :: S) h := XR_eq f
theorem st_iload_n {k : Fin 4} {x : Int32} (f : xft i pc = some (.iload_n k)) (hl : L[k.val]? = some (some (.int x))) : XR sc d i pc L S h = XR sc d i (pc + 1) L (.int x :: S) h := by
  rw [XR_eq f]; simp only [xact, hl]; rfl
theorem st_iload {k : Nat} {x : Int32} (f : xft i pc = some (.iload k)) (hl : L[k]? = some (some (.int x))) : XR sc d i pc L S h = XR sc d i (pc + 2) L (.int x :: S) h := by
  rw [XR_eq f]; simp only [xact, hl]; rfl
theorem st_aload_n {k : Fin 4} {a : Nat} (f : xft i pc = some (.aload_n k)) (hl : L[k.val]? = some (some (.ref a))) : XR sc d i pc L S h = XR sc d i (pc + 1) L (.ref a :: S) h := by
  rw [XR_eq f]; simp only [xact, hl]; rfl
theorem st_aload {k : Nat} {a : Nat} (f : xft i pc = some (.aload k)) (hl : L[k]? = some (some (.ref a))) : XR sc d i pc L S h = XR sc d i (pc + 2) L (.ref a :: S) h := by
  rw [XR_eq f]; simp only [xact, hl]; rfl
theorem st_aload_nN {k : Fin 4} (f : xft i pc = some (.aload_n k)) (hl : L[k.val]? = some (some .null)) : XR sc d i pc L S h = XR sc d i (pc + 1) L (.null :: S) h := by
  rw [XR_eq f]; simp only [xact, hl]; rfl
theorem st_aloadN {k : Nat} (f : xft i pc = some (.aload k)) (hl : L[k]? = some (some .null)) : XR sc d i pc L S h = XR sc d i (pc + 2) L (.null :: S) h := by
  rw [XR_eq f]; simp only [xact, hl]; rfl
theorem st_aload_nS {k : Fin 4} {a : Nat} (f : xft i pc = some (.aload_n k)) (hl : L[k.val]? = some (some (.retAddr a))) : XR sc d i pc L S h = XR sc d i (pc + 1) L (.retAddr a :: S) h := by
  rw [XR_eq f]; simp only [xact, hl]; rfl
theorem st_istore_n {k : Fin 4} {x : Int32} (f : xft i pc = some (.istore_n k)) (hk : k.val < L.length) (hl : L.set k.val (some (.int x)) = L') : XR sc d i pc L (.int x :: S) h = XR sc d i (pc + 1) L' S h := by
  rw [XR_eq f]; simp only [xact, xst, if_pos hk, hl]; rfl
theorem st_istore {k : Nat} {x : Int32} (f : xft i pc = some (.istore k)) (hk : k < L.length) (hl : L.set k (some (.int x)) = L') : XR sc d i pc L (.int x :: S) h = XR sc d i (pc + 2) L' S h := by
  rw [XR_eq f]; simp only [xact, xst, if_pos hk, hl]; rfl
theorem st_astore_n {k : Fin 4} {a : Nat} (f : xft i pc = some (.astore_n k)) (hk : k.val < L.length) (hl : L.set k.val (some (.ref a)) = L') : XR sc d i pc L (.ref a :: S) h = XR sc d i (pc + 1) L' S h := by
  rw [XR_eq f]; simp only [xact, xst, if_pos hk, hl]; rfl
theorem st_astore {k : Nat} {a : Nat} (f : xft i pc = some (.astore k)) (hk : k < L.length) (hl : L.set k (some (.ref a)) = L') : XR sc d i pc L (.ref a :: S) h = XR sc d i (pc + 2) L' S h := by
  rw [XR_eq f]; simp only [xact, xst, if_pos hk, hl]; rfl
theorem st_astore_nN {k : Fin 4} (f : xft i pc = some (.astore_n k)) (hk : k.val < L.length) (hl : L.set k.val (some .null) = L') : XR sc d i pc L (.null :: S) h = XR sc d i (pc + 1) L' S h := by
  rw [XR_eq f]; simp only [xact, xst, if_pos hk, hl]; rfl
theorem st_astoreN {k : Nat} (f : xft i pc = some (.astore k)) (hk : k < L.length) (hl : L.set k (some .null) = L') : XR sc d i pc L (.null :: S) h = XR sc d i (pc + 2) L' S h := by
  rw [XR_eq f]; simp only [xact, xst, if_pos hk, hl]; rfl
theorem st_iinc {k : Nat} {n : Int} {x : Int32} (f : xft i pc = some (.iinc k n)) (hl : L[k]? = some (some (.int x))) (hk : k < L.length) (hs : L.set k (some (.int (x + Int32.ofInt n))) = L') : XR sc d i pc L S h = XR sc d i (pc + 3) L' S h := by
  rw [XR_eq f]; simp only [xact, hl, xst, if_pos hk, hs]; rfl
theorem st_iadd {x y : Int32} (f : xft i pc = some .iadd) : XR sc d i pc L (.int y :: .int x :: S) h = XR sc d i (pc + 1) L (.int (x + y) :: S) h := XR_eq f
theorem st_isub {x y : Int32} (f : xft i pc = some .isub) : XR sc d i pc L (.int y :: .int x :: S) h = XR sc d i (pc + 1) L (.int (x - y) :: S) h := XR_eq f
theorem st_imul {x y : Int32} (f : xft i pc = some .imul) : XR sc d i pc L (.int y :: .int x :: S) h = XR sc d i (pc + 1) L (.int (x * y) :: S) h := XR_eq f
theorem st_idiv {x y : Int32} (f : xft i pc = some .idiv) (hy : ¬ y = 0) : XR sc d i pc L (.int y :: .int x :: S) h = XR sc d i (pc + 1) L (.int (x / y) :: S) h := by
  rw [XR_eq f]; simp only [xact, if_neg hy]; rfl
theorem st_irem {x y : Int32} (f : xft i pc = some .irem) (hy : ¬ y = 0) : XR sc d i pc L (.int y :: .int x :: S) h = XR sc d i (pc + 1) L (.int (x - x / y * y) :: S) h := by
  rw [XR_eq f]; simp only [xact, if_neg hy]; rfl
theorem st_iand {x y : Int32} (f : xft i pc = some .iand) : XR sc d i pc L (.int y :: .int x :: S) h = XR sc d i (pc + 1) L (.int (x &&& y) :: S) h := XR_eq f
theorem st_ior {x y : Int32} (f : xft i pc = some .ior) : XR sc d i pc L (.int y :: .int x :: S) h = XR sc d i (pc + 1) L (.int (x ||| y) :: S) h := XR_eq f
theorem st_ixor {x y : Int32} (f : xft i pc = some .ixor) : XR sc d i pc L (.int y :: .int x :: S) h = XR sc d i (pc + 1) L (.int (x ^^^ y) :: S) h := XR_eq f
theorem st_ishl {x y : Int32} (f : xft i pc = some .ishl) : XR sc d i pc L (.int y :: .int x :: S) h = XR sc d i (pc + 1) L (.int (x <<< (y &&& 31)) :: S) h := XR_eq f
theorem st_ishr {x y : Int32} (f : xft i pc = some .ishr) : XR sc d i pc L (.int y :: .int x :: S) h = XR sc d i (pc + 1) L (.int (x >>> (y &&& 31)) :: S) h := XR_eq f
theorem st_i2l {x : Int32} (f : xft i pc = some .i2l) : XR sc d i pc L (.int x :: S) h = XR sc d i (pc + 1) L (.long x.toInt64 :: S) h := XR_eq f
theorem st_l2i {x : Int64} (f : xft i pc = some .l2i) : XR sc d i pc L (.long x :: S) h = XR sc d i (pc + 1) L (.int x.toInt32 :: S) h := XR_eq f
theorem st_land {x y : Int64} (f : xft i pc = some .land) : XR sc d i pc L (.long y :: .long x :: S) h = XR sc d i (pc + 1) L (.long (x &&& y) :: S) h := XR_eq f
theorem st_lor {x y : Int64} (f : xft i pc = some .lor) : XR sc d i pc L (.long y :: .long x :: S) h = XR sc d i (pc + 1) L (.long (x ||| y) :: S) h := XR_eq f
theorem st_lshl {x : Int64} {y : Int32} (f : xft i pc = some .lshl) : XR sc d i pc L (.int y :: .long x :: S) h = XR sc d i (pc + 1) L (.long (x <<< (y.toInt64 &&& 63)) :: S) h := XR_eq f
theorem st_lshr {x : Int64} {y : Int32} (f : xft i pc = some .lshr) : XR sc d i pc L (.int y :: .long x :: S) h = XR sc d i (pc + 1) L (.long (x >>> (y.toInt64 &&& 63)) :: S) h := XR_eq f
theorem st_lcmp {x y : Int64} (f : xft i pc = some .lcmp) : XR sc d i pc L (.long y :: .long x :: S) h = XR sc d i (pc + 1) L (.int (lg_cmp x y) :: S) h := XR_eq f
theorem st_dup {v : Value} (f : xft i pc = some .dup) (hv : xcat1 v = true) : XR sc d i pc L (v :: S) h = XR sc d i (pc + 1) L (v :: v :: S) h := by
  rw [XR_eq f]; simp only [xact, if_pos hv]; rfl
theorem st_dup2 {v w : Value} (f : xft i pc = some .dup2) (hv : xcat1 v = true) (hw : xcat1 w = true) : XR sc d i pc L (v :: w :: S) h = XR sc d i (pc + 1) L (v :: w :: v :: w :: S) h := by
  rw [XR_eq f]; simp only [xact, if_pos (And.intro hv hw)]; rfl
theorem xdo_br {c : xC1} {k : xK1} {cnd : Prop} {ic : Decidable cnd} {off : Int} {p0 : Nat} {h0 : xH} {L0 : xL} (ho : 0 ≤ (pc : Int) + off) : xdo i c k p0 L0 h0 (@xbr cnd ic pc off L S h) = @ite _ cnd ic (k (xjmp pc off) L S h) (k (pc + 3) L S h) := by
  unfold xbr
  rw [if_pos ho]
  show k (if cnd then xjmp pc off else pc + 3) L S h = _
  split <;> rfl
theorem st_icmp_eq {x y : Int32} {off : Int} {t : Nat} (f : xft i pc = some (.if_icmp .eq off)) (ht : 0 ≤ (pc : Int) + off ∧ xjmp pc off = t) : XR sc d i pc L (.int y :: .int x :: S) h = if x = y then XR sc d i t L S h else XR sc d i (pc + 3) L S h := by
  rw [XR_eq f, ← ht.2]; exact xdo_br ht.1
theorem st_icmp_ne {x y : Int32} {off : Int} {t : Nat} (f : xft i pc = some (.if_icmp .ne off)) (ht : 0 ≤ (pc : Int) + off ∧ xjmp pc off = t) : XR sc d i pc L (.int y :: .int x :: S) h = if x = y then XR sc d i (pc + 3) L S h else XR sc d i t L S h := by
  rw [XR_eq f, ← ht.2]; exact (xdo_br ht.1).trans (by split <;> simp_all)
theorem st_icmp_lt {x y : Int32} {off : Int} {t : Nat} (f : xft i pc = some (.if_icmp .lt off)) (ht : 0 ≤ (pc : Int) + off ∧ xjmp pc off = t) : XR sc d i pc L (.int y :: .int x :: S) h = if x < y then XR sc d i t L S h else XR sc d i (pc + 3) L S h := by
  rw [XR_eq f, ← ht.2]; exact xdo_br ht.1
theorem st_icmp_ge {x y : Int32} {off : Int} {t : Nat} (f : xft i pc = some (.if_icmp .ge off)) (ht : 0 ≤ (pc : Int) + off ∧ xjmp pc off = t) : XR sc d i pc L (.int y :: .int x :: S) h = if y ≤ x then XR sc d i t L S h else XR sc d i (pc + 3) L S h := by
  rw [XR_eq f, ← ht.2]; exact xdo_br ht.1
theorem st_icmp_gt {x y : Int32} {off : Int} {t : Nat} (f : xft i pc = some (.if_icmp .gt off)) (ht : 0 ≤ (pc : Int) + off ∧ xjmp pc off = t) : XR sc d i pc L (.int y :: .int x :: S) h = if y < x then XR sc d i t L S h else XR sc d i (pc + 3) L S h := by
  rw [XR_eq f, ← ht.2]; exact xdo_br ht.1
theorem st_icmp_le {x y : Int32} {off : Int} {t : Nat} (f : xft i pc = some (.if_icmp .le off)) (ht : 0 ≤ (pc : Int) + off ∧ xjmp pc off = t) : XR sc d i pc L (.int y :: .int x :: S) h = if x ≤ y then XR sc d i t L S h else XR sc d i (pc + 3) L S h := by
  rw [XR_eq f, ← ht.2]; exact xdo_br ht.1
theorem st_if_eq {x : Int32} {off : Int} {t : Nat} (f : xft i pc = some (.ifCond .eq off)) (ht : 0 ≤ (pc : Int) + off ∧ xjmp pc off = t) : XR sc d i pc L (.int x :: S) h = if x = 0 then XR sc d i t L S h else XR sc d i (pc + 3) L S h := by
  rw [XR_eq f, ← ht.2]; exact xdo_br ht.1
theorem st_if_ne {x : Int32} {off : Int} {t : Nat} (f : xft i pc = some (.ifCond .ne off)) (ht : 0 ≤ (pc : Int) + off ∧ xjmp pc off = t) : XR sc d i pc L (.int x :: S) h = if x = 0 then XR sc d i (pc + 3) L S h else XR sc d i t L S h := by
  rw [XR_eq f, ← ht.2]; exact (xdo_br ht.1).trans (by split <;> simp_all)
theorem st_if_lt {x : Int32} {off : Int} {t : Nat} (f : xft i pc = some (.ifCond .lt off)) (ht : 0 ≤ (pc : Int) + off ∧ xjmp pc off = t) : XR sc d i pc L (.int x :: S) h = if x < 0 then XR sc d i t L S h else XR sc d i (pc + 3) L S h := by
  rw [XR_eq f, ← ht.2]; exact xdo_br ht.1
theorem st_if_ge {x : Int32} {off : Int} {t : Nat} (f : xft i pc = some (.ifCond .ge off)) (ht : 0 ≤ (pc : Int) + off ∧ xjmp pc off = t) : XR sc d i pc L (.int x :: S) h = if 0 ≤ x then XR sc d i t L S h else XR sc d i (pc + 3) L S h := by
  rw [XR_eq f, ← ht.2]; exact xdo_br ht.1
theorem st_if_gt {x : Int32} {off : Int} {t : Nat} (f : xft i pc = some (.ifCond .gt off)) (ht : 0 ≤ (pc : Int) + off ∧ xjmp pc off = t) : XR sc d i pc L (.int x :: S) h = if 0 < x then XR sc d i t L S h else XR sc d i (pc + 3) L S h := by
  rw [XR_eq f, ← ht.2]; exact xdo_br ht.1
theorem st_if_le {x : Int32} {off : Int} {t : Nat} (f : xft i pc = some (.ifCond .le off)) (ht : 0 ≤ (pc : Int) + off ∧ xjmp pc off = t) : XR sc d i pc L (.int x :: S) h = if x ≤ 0 then XR sc d i t L S h else XR sc d i (pc + 3) L S h := by
  rw [XR_eq f, ← ht.2]; exact xdo_br ht.1
theorem st_goto {off : Int} {t : Nat} (f : xft i pc = some (.goto off)) (ht : 0 ≤ (pc : Int) + off ∧ xjmp pc off = t) : XR sc d i pc L S h = XR sc d i t L S h := by
  rw [XR_eq f, ← ht.2]; simp only [xact, if_pos ht.1]; rfl
theorem st_ifnull {off : Int} {a : Nat} (f : xft i pc = some (.ifnull off)) : XR sc d i pc L (.ref a :: S) h = XR sc d i (pc + 3) L S h := XR_eq f
theorem st_ifnullN {off : Int} {t : Nat} (f : xft i pc = some (.ifnull off)) (ht : 0 ≤ (pc : Int) + off ∧ xjmp pc off = t) : XR sc d i pc L (.null :: S) h = XR sc d i t L S h := by
  rw [XR_eq f, ← ht.2]; simp only [xact, if_pos ht.1]; rfl
theorem st_ifnonnull {off : Int} {a t : Nat} (f : xft i pc = some (.ifnonnull off)) (ht : 0 ≤ (pc : Int) + off ∧ xjmp pc off = t) : XR sc d i pc L (.ref a :: S) h = XR sc d i t L S h := by
  rw [XR_eq f, ← ht.2]; simp only [xact, if_pos ht.1]; rfl
theorem st_ifnonnullN {off : Int} (f : xft i pc = some (.ifnonnull off)) : XR sc d i pc L (.null :: S) h = XR sc d i (pc + 3) L S h := XR_eq f
theorem st_tableOut {dflt lo hi : Int} {offs : Array Int} {x : Int32} {t : Nat} (f : xft i pc = some (.tableswitch dflt lo hi offs)) (hx : x.toInt < lo ∨ hi < x.toInt) (ht : 0 ≤ (pc : Int) + dflt ∧ xjmp pc dflt = t) : XR sc d i pc L (.int x :: S) h = XR sc d i t L S h := by
  rw [XR_eq f, ← ht.2]; simp only [xact, if_pos hx, if_pos ht.1]; rfl
theorem st_tableIn {dflt lo hi : Int} {offs : Array Int} {x : Int32} {off : Int} {t : Nat} (f : xft i pc = some (.tableswitch dflt lo hi offs)) (hx : ¬ (x.toInt < lo ∨ hi < x.toInt)) (ho : offs[(x.toInt - lo).toNat]? = some off) (ht : 0 ≤ (pc : Int) + off ∧ xjmp pc off = t) : XR sc d i pc L (.int x :: S) h = XR sc d i t L S h := by
  rw [XR_eq f, ← ht.2]; simp only [xact, if_neg hx, ho, if_pos ht.1]; rfl
/-! ends -/
theorem st_ireturn {x : Int32} (f : xft i pc = some .ireturn) (hr : xmr i = some .int) : XR sc d i pc L [.int x] h = some (.inl (some (.int x)), h) := by
  rw [XR_eq f]; simp only [xact, if_pos hr]; rfl
theorem st_zreturn {x : Int32} (f : xft i pc = some .ireturn) (hr : xmr i = some .boolean) (hx : x = 0 ∨ x = 1) : XR sc d i pc L [.int x] h = some (.inl (some (.int x)), h) := by
  rw [XR_eq f]; simp only [xact, hr, hx, and_self, if_true]; rfl
theorem st_areturn {a : Nat} {cn : String} (f : xft i pc = some .areturn) (hr : xmr i = some (.object cn)) : XR sc d i pc L [.ref a] h = some (.inl (some (.ref a)), h) := by
  rw [XR_eq f]; simp only [xact, hr]; rfl
theorem st_areturnN {cn : String} (f : xft i pc = some .areturn) (hr : xmr i = some (.object cn)) : XR sc d i pc L [.null] h = some (.inl (some .null), h) := by
  rw [XR_eq f]; simp only [xact, hr]; rfl
theorem st_return (f : xft i pc = some .return_) (hr : xmr i = none) : XR sc d i pc L [] h = some (.inl none, h) := by
  rw [XR_eq f]; simp only [xact, if_pos hr]; rfl
/-! the heap -/
variable {T : Nat → Nat × Nat} {z : Nat × Nat} {I : Nat → Nat → Int32} {J : Nat → Nat → Int64} {R : Nat → Nat → Option Nat}
theorem st_getI {idx a c k : Nat} {q : Bool × Nat} (f : xft i pc = some (.getfield idx)) (hf : xlk xFL (xmo i) idx = some (c, k, q)) (hk : xfk c k ≠ 2) (hT : T a = (1 + c, 0)) : XR sc d i pc L (.ref a :: S) (T, z, I, J, R) = XR sc d i (pc + 3) L (.int (I a k) :: S) (T, z, I, J, R) := by
  rw [XR_eq f]; simp only [xact, hf, hT, if_neg hk, if_true]; rfl
theorem st_getR {idx a c k r : Nat} {q : Bool × Nat} (f : xft i pc = some (.getfield idx)) (hf : xlk xFL (xmo i) idx = some (c, k, q)) (hk : xfk c k = 2) (hT : T a = (1 + c, 0)) (hr : R a k = some r) : XR sc d i pc L (.ref a :: S) (T, z, I, J, R) = XR sc d i (pc + 3) L (.ref r :: S) (T, z, I, J, R) := by
  rw [XR_eq f]; simp only [xact, hf, hT, if_pos hk, if_true, hr]; rfl
theorem st_putI {idx a c k : Nat} {x : Int32} {n : Bool} {p0 : Nat} (f : xft i pc = some (.putfield idx)) (hf : xlk xFL (xmo i) idx = some (c, k, n, p0)) (hk : (xfk c k = 0 ∨ (xfk c k = 1 ∧ (x = 0 ∨ x = 1)))) (hfin : ((xT c k).2.2.2 = false ∨ ((xmy i).name = "<init>" ∧ xmo i = c ∧ n = false))) (hT : T a = (1 + c, 0)) : XR sc d i pc L (.int x :: .ref a :: S) (T, z, I, J, R) = XR sc d i (pc + 3) L S (T, z, xup2 I a k x, J, R) := by
  rw [XR_eq f]; simp only [xact, hf, if_pos (And.intro hT (And.intro hk hfin))]; rfl
theorem st_putR {idx a c k r : Nat} {n : Bool} {p0 : Nat} (f : xft i pc = some (.putfield idx)) (hf : xlk xFL (xmo i) idx = some (c, k, n, p0)) (hk : xfk c k = 2) (hfin : ((xT c k).2.2.2 = false ∨ ((xmy i).name = "<init>" ∧ xmo i = c ∧ n = false))) (hT : T a = (1 + c, 0)) : XR sc d i pc L (.ref r :: .ref a :: S) (T, z, I, J, R) = XR sc d i (pc + 3) L S (T, z, I, J, xup2 R a k (some r)) := by
  rw [XR_eq f]; simp only [xact, hf, if_pos (And.intro hT (And.intro hk hfin))]; rfl
theorem st_iaload {x : Int32} {a n : Nat} (f : xft i pc = some .iaload) (hT : T a = (32, n)) (h0 : ¬ x < 0) (hn : x.toNatClampNeg < n) : XR sc d i pc L (.int x :: .ref a :: S) (T, z, I, J, R) = XR sc d i (pc + 1) L (.int (I a x.toNatClampNeg) :: S) (T, z, I, J, R) := by
  rw [XR_eq f]; simp only [xact, hT, h0, hn, not_false_eq_true, and_self, if_true]; rfl
theorem st_ialoadS {x : Int32} {a : Nat} (f : xft i pc = some .iaload) (h0 : ¬ x < 0) (hn : x.toNatClampNeg < sc.1) : XR sc d i pc L (.int x :: .retAddr a :: S) h = XR sc d i (pc + 1) L (.int (sc.2 x.toNatClampNeg) :: S) h := by
  rw [XR_eq f]; simp only [xact, h0, hn, not_false_eq_true, and_self, if_true]; rfl
theorem st_baload {x : Int32} {a n : Nat} (f : xft i pc = some .baload) (hT : T a = (33, n)) (h0 : ¬ x < 0) (hn : x.toNatClampNeg < n) : XR sc d i pc L (.int x :: .ref a :: S) (T, z, I, J, R) = XR sc d i (pc + 1) L (.int (I a x.toNatClampNeg) :: S) (T, z, I, J, R) := by
  rw [XR_eq f]; simp only [xact, hT, h0, hn, not_false_eq_true, and_self, if_true]; rfl
theorem st_laload {x : Int32} {a n : Nat} (f : xft i pc = some .laload) (hT : T a = (34, n)) (h0 : ¬ x < 0) (hn : x.toNatClampNeg < n) : XR sc d i pc L (.int x :: .ref a :: S) (T, z, I, J, R) = XR sc d i (pc + 1) L (.long (J a x.toNatClampNeg) :: S) (T, z, I, J, R) := by
  rw [XR_eq f]; simp only [xact, hT, h0, hn, not_false_eq_true, and_self, if_true]; rfl
theorem st_aaload {x : Int32} {a n t : Nat} (f : xft i pc = some .aaload) (hT : T a = (t, n)) (ht : 40 ≤ t ∧ t < 44) (h0 : ¬ x < 0) (hn : x.toNatClampNeg < n) : XR sc d i pc L (.int x :: .ref a :: S) (T, z, I, J, R) = XR sc d i (pc + 1) L (va_rf (R a x.toNatClampNeg) :: S) (T, z, I, J, R) := by
  rw [XR_eq f]; simp only [xact, hT, ht.1, ht.2, h0, hn, not_false_eq_true, and_self, if_true]; rfl
theorem st_iastore {x v : Int32} {a n : Nat} (f : xft i pc = some .iastore) (hT : T a = (32, n)) (h0 : ¬ x < 0) (hn : x.toNatClampNeg < n) : XR sc d i pc L (.int v :: .int x :: .ref a :: S) (T, z, I, J, R) = XR sc d i (pc + 1) L S (T, z, xup2 I a x.toNatClampNeg v, J, R) := by
  rw [XR_eq f]; simp only [xact, hT, h0, hn, not_false_eq_true, and_self, if_true]; rfl
theorem st_bastore {x v : Int32} {a n : Nat} (f : xft i pc = some .bastore) (hT : T a = (33, n)) (h0 : ¬ x < 0) (hn : x.toNatClampNeg < n) (hv : v = 0 ∨ v = 1) : XR sc d i pc L (.int v :: .int x :: .ref a :: S) (T, z, I, J, R) = XR sc d i (pc + 1) L S (T, z, xup2 I a x.toNatClampNeg v, J, R) := by
  rw [XR_eq f]; simp only [xact, hT, h0, hn, hv, not_false_eq_true, and_self, if_true]; rfl
theorem st_lastore {x : Int32} {v : Int64} {a n : Nat} (f : xft i pc = some .lastore) (hT : T a = (34, n)) (h0 : ¬ x < 0) (hn : x.toNatClampNeg < n) : XR sc d i pc L (.long v :: .int x :: .ref a :: S) (T, z, I, J, R) = XR sc d i (pc + 1) L S (T, z, I, xup2 J a x.toNatClampNeg v, R) := by
  rw [XR_eq f]; simp only [xact, hT, h0, hn, not_false_eq_true, and_self, if_true]; rfl
theorem st_aastore {x : Int32} {a q c n : Nat} (f : xft i pc = some .aastore) (hT : T a = (40 + c, n)) (hc : c < 4) (h0 : ¬ x < 0) (hn : x.toNatClampNeg < n) (hq : q < z.1) (hTq : T q = (1 + c, 0)) : XR sc d i pc L (.ref q :: .int x :: .ref a :: S) (T, z, I, J, R) = XR sc d i (pc + 1) L S (T, z, I, J, xup2 R a x.toNatClampNeg (some q)) := by
  have e : (40 + c - 39 : Nat) = 1 + c := by omega
  have e2 : 40 ≤ 40 + c := by omega
  have e3 : 40 + c < 44 := by omega
  rw [XR_eq f]; simp only [xact, hT, h0, hn, hq, hTq, e, e2, e3, not_false_eq_true, and_self, if_true]; rfl
theorem st_alenI {a n t : Nat} (f : xft i pc = some .arraylength) (hT : T a = (t, n)) (ht : (32 ≤ t ∧ t < 35) ∨ (40 ≤ t ∧ t < 44)) : XR sc d i pc L (.ref a :: S) (T, z, I, J, R) = XR sc d i (pc + 1) L (.int (Int32.ofNat n) :: S) (T, z, I, J, R) := by
  rw [XR_eq f]; simp only [xact, hT, if_pos ht]; rfl
theorem st_alenS {a : Nat} (f : xft i pc = some .arraylength) : XR sc d i pc L (.retAddr a :: S) h = XR sc d i (pc + 1) L (.int (Int32.ofNat sc.1) :: S) h := XR_eq f
theorem st_new {idx c q : Nat} (f : xft i pc = some (.new idx)) (hk : xlk xKL (xmo i) idx = some (c, q)) (hc : c < 8) : XR sc d i pc L S h = XR sc d i (pc + 3) L (.ref h.2.1.1 :: S) (xnew h (1 + c, 0) (xN c)) := by
  rw [XR_eq f]; simp only [xact, hk, if_pos hc]; rfl
theorem st_newI {x : Int32} (f : xft i pc = some (.newarray .int)) (h0 : ¬ (x < 0 ∨ 1000 < x.toNatClampNeg)) : XR sc d i pc L (.int x :: S) h = XR sc d i (pc + 2) L (.ref h.2.1.1 :: S) (xnew h (32, x.toNatClampNeg) x.toNatClampNeg) := by
  rw [XR_eq f]; simp only [xact, if_neg h0]; rfl
theorem st_newZ {x : Int32} (f : xft i pc = some (.newarray .boolean)) (h0 : ¬ (x < 0 ∨ 1000 < x.toNatClampNeg)) : XR sc d i pc L (.int x :: S) h = XR sc d i (pc + 2) L (.ref h.2.1.1 :: S) (xnew h (33, x.toNatClampNeg) x.toNatClampNeg) := by
  rw [XR_eq f]; simp only [xact, if_neg h0]; rfl
theorem st_newJ {x : Int32} (f : xft i pc = some (.newarray .long)) (h0 : ¬ (x < 0 ∨ 1000 < x.toNatClampNeg)) : XR sc d i pc L (.int x :: S) h = XR sc d i (pc + 2) L (.ref h.2.1.1 :: S) (xnew h (34, x.toNatClampNeg) x.toNatClampNeg) := by
  rw [XR_eq f]; simp only [xact, if_neg h0]; rfl
theorem st_newA {idx c q : Nat} {x : Int32} (f : xft i pc = some (.anewarray idx)) (hk : xlk xKL (xmo i) idx = some (c, q)) (h0 : ¬ (x < 0 ∨ 1000 < x.toNatClampNeg ∨ 4 ≤ c)) : XR sc d i pc L (.int x :: S) h = XR sc d i (pc + 3) L (.ref h.2.1.1 :: S) (xnew h (40 + c, x.toNatClampNeg) x.toNatClampNeg) := by
  rw [XR_eq f]; simp only [xact, hk, if_neg h0]; rfl
theorem st_objinit {idx a q : Nat} (f : xft i pc = some (.invokespecial idx)) (h1 : xlk xCL (xmo i) idx = none) (h2 : xlk xOL (xmo i) idx = some q) (hd : 1 ≤ d ∧ S.length ≤ 4) : XR sc d i pc L (.ref a :: S) h = XR sc d i (pc + 3) L S h := by
  rw [XR_eq f]; simp only [xact, h1, h2, if_pos hd]; rfl
theorem st_throw {idx e0 q : Nat} (f : xft i pc = some (.new idx)) (hk : xlk xKL (xmo i) idx = some (e0, q)) (hc : 8 ≤ e0 ∧ e0 < 11) (ht : xthr d i pc e0 S h = xend (.inr e0) (xnew h (1 + e0, 0) 6)) : XR sc d i pc L S h = some (.inr e0, xnew h (1 + e0, 0) 6) := by
  have e1 : ¬ e0 < 8 := by omega
  rw [XR_eq f]; simp only [xact, hk, if_neg e1, if_pos hc.2, ht]; rfl
theorem xthr_L {idx e0 s0 c0 : Nat} {tx : String} (hd : 6 ≤ d) (hS : S.length ≤ 4) (hh : xmh i = []) (h3 : xft i (pc + 3) = some .dup) (h4 : xft i (pc + 4) = some (.ldc s0)) (h5 : xlk xSL (xmo i) s0 = some tx) (h6 : xft i (pc + 6) = some (.invokespecial c0)) (h9 : xft i (pc + 9) = some .athrow) (h7 : xlk xIL (xmo i) c0 = some e0) : xthr d i pc e0 S h = xend (.inr e0) (xnew h (1 + e0, 0) 6) := by
  unfold xthr
  rw [if_pos ⟨hd, hS, hh, h3⟩]
  simp only [h4, h5, h6, h9, h7, if_true]
theorem xthr_W {idx e0 s0 c0 : Nat} {tx : String} (hd : 6 ≤ d) (hS : S.length ≤ 4) (hh : xmh i = []) (h3 : xft i (pc + 3) = some .dup) (h4 : xft i (pc + 4) = some (.ldc_w s0)) (h5 : xlk xSL (xmo i) s0 = some tx) (h6 : xft i (pc + 7) = some (.invokespecial c0)) (h9 : xft i (pc + 10) = some .athrow) (h7 : xlk xIL (xmo i) c0 = some e0) : xthr d i pc e0 S h = xend (.inr e0) (xnew h (1 + e0, 0) 6) := by
  unfold xthr
  rw [if_pos ⟨hd, hS, hh, h3⟩]
  simp only [h4, h5, h6, h9, h7, if_true]
/-! calls -/
theorem st_callS {idx j : Nat} {q : Nat × Nat × Nat} {as S2 : List Value} (f : xft i pc = some (.invokestatic idx)) (hj : xlk xCL (xmo i) idx = some (j, 0, q)) (ha : xmn j ≤ S.length ∧ ((S.drop (xmn j)).length ≤ 4 ∨ ((S.drop (xmn j)).length ≤ 8 ∧ (S.drop (xmn j)).all xcat1 = true)) ∧ (S.take (xmn j)).reverse = as ∧ S.drop (xmn j) = S2) : XR sc d i pc L S h = xret i (XR sc d i) pc (pc + 3) L S2 (X sc d j as h) := by
  obtain ⟨h1, h2, rfl, rfl⟩ := ha
  rw [XR_eq f]; simp only [xact, hj, xinv, if_pos (And.intro h1 h2)]; rfl
theorem st_callV {idx j a : Nat} {q : Nat × Nat × Nat} {as S2 : List Value} (f : xft i pc = some (.invokevirtual idx)) (hj : xlk xCL (xmo i) idx = some (j, 1, q)) (ha : xmn j ≤ S.length ∧ ((S.drop (xmn j)).length ≤ 4 ∨ ((S.drop (xmn j)).length ≤ 8 ∧ (S.drop (xmn j)).all xcat1 = true)) ∧ (S.take (xmn j)).reverse = as ∧ S.drop (xmn j) = S2) (hT : h.1 a = (1 + xmo j, 0)) (hr : S.drop (xmn j - 1) = .ref a :: S2) : XR sc d i pc L S h = xret i (XR sc d i) pc (pc + 3) L S2 (X sc d j as h) := by
  obtain ⟨h1, h2, rfl, rfl⟩ := ha
  have h3 : xrcv j h (S.drop (xmn j - 1)) = true := by rw [hr]; exact decide_eq_true hT
  rw [XR_eq f]; simp only [xact, hj, h3, if_true, xinv, if_pos (And.intro h1 h2)]; rfl
theorem st_callI {idx j a : Nat} {q : Nat × Nat × Nat} {as S2 : List Value} (f : xft i pc = some (.invokespecial idx)) (hj : xlk xCL (xmo i) idx = some (j, 2, q)) (ha : xmn j ≤ S.length ∧ ((S.drop (xmn j)).length ≤ 4 ∨ ((S.drop (xmn j)).length ≤ 8 ∧ (S.drop (xmn j)).all xcat1 = true)) ∧ (S.take (xmn j)).reverse = as ∧ S.drop (xmn j) = S2) (hT : h.1 a = (1 + xmo j, 0)) (hr : S.drop (xmn j - 1) = .ref a :: S2) : XR sc d i pc L S h = xret i (XR sc d i) pc (pc + 3) L S2 (X sc d j as h) := by
  obtain ⟨h1, h2, rfl, rfl⟩ := ha
  have h3 : xrcv j h (S.drop (xmn j - 1)) = true := by rw [hr]; exact decide_eq_true hT
  rw [XR_eq f]; simp only [xact, hj, h3, if_true, xinv, if_pos (And.intro h1 h2)]; rfl
theorem xble {S1 : List Value} (h : (Nat.ble S1.length 4 || (Nat.ble S1.length 8 && S1.all xcat1)) = true) : S1.length ≤ 4 ∨ (S1.length ≤ 8 ∧ S1.all xcat1 = true) := by
  rw [Bool.or_eq_true, Bool.and_eq_true] at h
  exact h.imp Nat.le_of_ble_eq_true (fun q => ⟨Nat.le_of_ble_eq_true q.1, q.2⟩)
theorem st_callS' {idx j n : Nat} {q : Nat × Nat × Nat} {as S2 : List Value} (f : xft i pc = some (.invokestatic idx)) (hj : xlk xCL (xmo i) idx = some (j, 0, q)) (hn : xmn j = n) (h1 : Nat.ble n S.length = true) (h2 : (Nat.ble (S.drop n).length 4 || (Nat.ble (S.drop n).length 8 && (S.drop n).all xcat1)) = true) (h3 : (S.take n).reverse = as) (h4 : S.drop n = S2) : XR sc d i pc L S h = xret i (XR sc d i) pc (pc + 3) L S2 (X sc d j as h) := by
  subst hn
  exact st_callS f hj ⟨Nat.le_of_ble_eq_true h1, xble h2, h3, h4⟩
theorem st_callV' {idx j n a o : Nat} {q : Nat × Nat × Nat} {as S2 : List Value} (f : xft i pc = some (.invokevirtual idx)) (hj : xlk xCL (xmo i) idx = some (j, 1, q)) (hn : xmn j = n) (h1 : Nat.ble n S.length = true) (h2 : (Nat.ble (S.drop n).length 4 || (Nat.ble (S.drop n).length 8 && (S.drop n).all xcat1)) = true) (h3 : (S.take n).reverse = as) (h4 : S.drop n = S2) (ho : xmo j = o) (g0 : T a = (1 + o, 0)) (hr : S.drop (n - 1) = .ref a :: S2) : XR sc d i pc L S (T, z, I, J, R) = xret i (XR sc d i) pc (pc + 3) L S2 (X sc d j as (T, z, I, J, R)) := by
  subst hn ho
  exact st_callV f hj ⟨Nat.le_of_ble_eq_true h1, xble h2, h3, h4⟩ g0 hr
theorem st_callI' {idx j n a o : Nat} {q : Nat × Nat × Nat} {as S2 : List Value} (f : xft i pc = some (.invokespecial idx)) (hj : xlk xCL (xmo i) idx = some (j, 2, q)) (hn : xmn j = n) (h1 : Nat.ble n S.length = true) (h2 : (Nat.ble (S.drop n).length 4 || (Nat.ble (S.drop n).length 8 && (S.drop n).all xcat1)) = true) (h3 : (S.take n).reverse = as) (h4 : S.drop n = S2) (ho : xmo j = o) (g0 : T a = (1 + o, 0)) (hr : S.drop (n - 1) = .ref a :: S2) : XR sc d i pc L S (T, z, I, J, R) = xret i (XR sc d i) pc (pc + 3) L S2 (X sc d j as (T, z, I, J, R)) := by
  subst hn ho
  exact st_callI f hj ⟨Nat.le_of_ble_eq_true h1, xble h2, h3, h4⟩ g0 hr
theorem xret_v {k : xK1} {pc2 : Nat} {v : Value} : xret i k pc pc2 L S (some (.inl (some v), h)) = k pc2 L (v :: S) h := rfl
theorem xret_n {k : xK1} {pc2 : Nat} : xret i k pc pc2 L S (some (.inl none, h)) = k pc2 L S h := rfl
theorem xret_t {k : xK1} {pc2 e0 : Nat} (hh : xmh i = []) : xret i k pc pc2 L S (some (.inr e0, h)) = some (.inr e0, h) := by
  simp only [xret, if_pos hh]
theorem xret_c {k : xK1} {pc2 e0 t n : Nat} (hh : xmh i ≠ []) (hx : xhan i pc e0 (xmh i) = some (t, n)) (hn : n < L.length) : xret i k pc pc2 L S (some (.inr e0, h)) = k t (L.set n none) [] h := by
  simp only [xret, if_neg hh, hx, if_pos hn]
end OPS
end
section
/-! the rows at the level of Int: a cell of ints holds xv V, a value of int is xw z -/
def xw (z : Int) : Value := .int (Int32.ofInt z)
def xv (V : Nat → Nat → Int) : Nat → Nat → Int32 := fun a k => Int32.ofInt (V a k)
def iAnd (x y : Int) : Int := (Int32.ofInt x &&& Int32.ofInt y).toInt
def iOr (x y : Int) : Int := (Int32.ofInt x ||| Int32.ofInt y).toInt
def iXor (x y : Int) : Int := (Int32.ofInt x ^^^ Int32.ofInt y).toInt
def iShl (x y : Int) : Int := (Int32.ofInt x <<< (Int32.ofInt y &&& 31)).toInt
def iShr (x y : Int) : Int := (Int32.ofInt x >>> (Int32.ofInt y &&& 31)).toInt
def jI (x : Int) : Int64 := (Int32.ofInt x).toInt64
def jToI (x : Int64) : Int := x.toInt32.toInt
def jShl (x : Int64) (y : Int) : Int64 := x <<< ((Int32.ofInt y).toInt64 &&& 63)
def jShr (x : Int64) (y : Int) : Int64 := x >>> ((Int32.ofInt y).toInt64 &&& 63)
def jCmp (x y : Int64) : Int := (lg_cmp x y).toInt
theorem xv_up2 {V : Nat → Nat → Int} {a k : Nat} {e : Int} : xup2 (xv V) a k (Int32.ofInt e) = xv (xup2 V a k e) := by
  funext b j
  by_cases h : b = a ∧ j = k
  · simp only [xup2, xv, if_pos h]
  · simp only [xup2, xv, if_neg h]
theorem xv_new {V : Nat → Nat → Int} {a : Nat} : va_up (xv V) a (fun _ => 0) = xv (va_up V a (fun _ => 0)) := by
  funext b j
  by_cases h : b = a
  · subst h; simp only [va_up, if_true, xv]; rfl
  · simp only [va_up, if_neg h, xv]
theorem io_lt {x y : Int} (hx : -2147483648 ≤ x ∧ x ≤ 2147483647) (hy : -2147483648 ≤ y ∧ y ≤ 2147483647) : (Int32.ofInt x < Int32.ofInt y) = (x < y) := by
  have h1 : Int32.minValue.toInt = -2147483648 := by decide
  have h2 : Int32.maxValue.toInt = 2147483647 := by decide
  exact propext (Int32.ofInt_lt_iff_lt (by omega) (by omega) (by omega) (by omega))
theorem io_le {x y : Int} (hx : -2147483648 ≤ x ∧ x ≤ 2147483647) (hy : -2147483648 ≤ y ∧ y ≤ 2147483647) : (Int32.ofInt x ≤ Int32.ofInt y) = (x ≤ y) := by
  have h1 : Int32.minValue.toInt = -2147483648 := by decide
  have h2 : Int32.maxValue.toInt = 2147483647 := by decide
  exact propext (Int32.ofInt_le_iff_le (by omega) (by omega) (by omega) (by omega))
theorem io_to {x : Int} (hx : -2147483648 ≤ x ∧ x ≤ 2147483647) : (Int32.ofInt x).toInt = x := Int32.toInt_ofInt_of_le (by omega) (by omega)
theorem io_eq {x y : Int} (hx : -2147483648 ≤ x ∧ x ≤ 2147483647) (hy : -2147483648 ≤ y ∧ y ≤ 2147483647) : (Int32.ofInt x = Int32.ofInt y) = (x = y) := by
  refine propext ⟨fun h => ?_, fun h => h ▸ rfl⟩
  have := congrArg Int32.toInt h
  rwa [io_to hx, io_to hy] at this
theorem io_nat {x : Int} (hx : -2147483648 ≤ x ∧ x ≤ 2147483647) : (Int32.ofInt x).toNatClampNeg = x.toNat := by
  show (Int32.ofInt x).toInt.toNat = _
  rw [io_to hx]
theorem io_zero : (0 : Int32) = Int32.ofInt 0 := rfl
theorem io_in (x : Int32) : -2147483648 ≤ x.toInt ∧ x.toInt ≤ 2147483647 := by
  have h1 := x.le_toInt
  have h2 := x.toInt_lt
  omega
theorem io_div {x y : Int} (hx : -2147483648 ≤ x ∧ x ≤ 2147483647) (hy : -2147483648 ≤ y ∧ y ≤ 2147483647) (h0 : ¬ y = 0) (h1 : ¬ (x = -2147483648 ∧ y = -1)) : Int32.ofInt x / Int32.ofInt y = Int32.ofInt (x.tdiv y) := by
  have a1 : Int32.minValue.toInt = -2147483648 := by decide
  have a2 : Int32.maxValue.toInt = 2147483647 := by decide
  exact (Int32.ofInt_tdiv (by omega) (by omega) (by omega) (by omega)).symm
section IOPS
variable {sc : xS} {d i pc : Nat} {L L' : xL} {S : List Value} {h : xH}
theorem sw_iconst {n : Int} (f : xft i pc = some (.iconst n)) : XR sc d i pc L S h = XR sc d i (pc + 1) L (xw n :: S) h := st_iconst f
theorem sw_bipush {n : Int} (f : xft i pc = some (.bipush n)) (hv : (Int8.ofInt n).toInt32 = Int32.ofInt n) : XR sc d i pc L S h = XR sc d i (pc + 2) L (xw n :: S) h := st_bipush f hv
theorem sw_sipush {n : Int} (f : xft i pc = some (.sipush n)) (hv : (Int16.ofInt n).toInt32 = Int32.ofInt n) : XR sc d i pc L S h = XR sc d i (pc + 3) L (xw n :: S) h := st_sipush f hv
theorem sw_ldc {k : Nat} {v : Int32 × Nat} (n : Int) (f : xft i pc = some (.ldc k)) (hv : xlk xIC (xmo i) k = some v) (hn : v.1 = Int32.ofInt n) : XR sc d i pc L S h = XR sc d i (pc + 2) L (xw n :: S) h := by
  rw [st_ldc f hv, hn]; rfl
theorem sw_iload_n {k : Fin 4} {x : Int} (f : xft i pc = some (.iload_n k)) (hl : L[k.val]? = some (some (xw x))) : XR sc d i pc L S h = XR sc d i (pc + 1) L (xw x :: S) h := st_iload_n f hl
theorem sw_iload {k : Nat} {x : Int} (f : xft i pc = some (.iload k)) (hl : L[k]? = some (some (xw x))) : XR sc d i pc L S h = XR sc d i (pc + 2) L (xw x :: S) h := st_iload f hl
theorem sw_istore_n {k : Fin 4} {x : Int} (f : xft i pc = some (.istore_n k)) (hk : k.val < L.length) (hl : L.set k.val (some (xw x)) = L') : XR sc d i pc L (xw x :: S) h = XR sc d i (pc + 1) L' S h := st_istore_n f hk hl
theorem sw_istore {k : Nat} {x : Int} (f : xft i pc = some (.istore k)) (hk : k < L.length) (hl : L.set k (some (xw x)) = L') : XR sc d i pc L (xw x :: S) h = XR sc d i (pc + 2) L' S h := st_istore f hk hl
theorem sw_iinc {k : Nat} {n x : Int} (f : xft i pc = some (.iinc k n)) (hl : L[k]? = some (some (xw x))) (hk : k < L.length) (hs : L.set k (some (xw (x + n))) = L') : XR sc d i pc L S h = XR sc d i (pc + 3) L' S h := by
  refine st_iinc f hl hk ?_
  rw [← hs, ← Int32.ofInt_add]; rfl
theorem sw_iadd {x y : Int} (f : xft i pc = some .iadd) : XR sc d i pc L (xw y :: xw x :: S) h = XR sc d i (pc + 1) L (xw (x + y) :: S) h := by
  unfold xw; rw [Int32.ofInt_add]; exact st_iadd f
theorem sw_isub {x y : Int} (f : xft i pc = some .isub) : XR sc d i pc L (xw y :: xw x :: S) h = XR sc d i (pc + 1) L (xw (x - y) :: S) h := by
  unfold xw; rw [Int32.ofInt_sub]; exact st_isub f
theorem sw_imul {x y : Int} (f : xft i pc = some .imul) : XR sc d i pc L (xw y :: xw x :: S) h = XR sc d i (pc + 1) L (xw (x * y) :: S) h := by
  unfold xw; rw [Int32.ofInt_mul]; exact st_imul f
theorem sw_idivT {x y : Int} (f : xft i pc = some .idiv) (g : ¬ y = 0 ∧ ¬ (x = -2147483648 ∧ y = -1) ∧ (-2147483648 ≤ x ∧ x ≤ 2147483647) ∧ -2147483648 ≤ y ∧ y ≤ 2147483647) : XR sc d i pc L (xw y :: xw x :: S) h = XR sc d i (pc + 1) L (xw (x.tdiv y) :: S) h := by
  unfold xw
  rw [← io_div g.2.2.1 g.2.2.2 g.1 g.2.1]
  exact st_idiv f (fun e => g.1 (by rw [io_zero, io_eq g.2.2.2 (by omega)] at e; exact e))
theorem sw_idiv {x y : Int} (f : xft i pc = some .idiv) (g : 0 < y ∧ y ≤ 2147483647 ∧ 0 ≤ x ∧ x ≤ 2147483647) : XR sc d i pc L (xw y :: xw x :: S) h = XR sc d i (pc + 1) L (xw (x / y) :: S) h := by
  rw [← Int.tdiv_eq_ediv_of_nonneg g.2.2.1]
  exact sw_idivT f (by omega)
theorem sw_iremT {x y : Int} (f : xft i pc = some .irem) (g : ¬ y = 0 ∧ ¬ (x = -2147483648 ∧ y = -1) ∧ (-2147483648 ≤ x ∧ x ≤ 2147483647) ∧ -2147483648 ≤ y ∧ y ≤ 2147483647) : XR sc d i pc L (xw y :: xw x :: S) h = XR sc d i (pc + 1) L (xw (x - x.tdiv y * y) :: S) h := by
  unfold xw
  rw [Int32.ofInt_sub, Int32.ofInt_mul, ← io_div g.2.2.1 g.2.2.2 g.1 g.2.1]
  exact st_irem f (fun e => g.1 (by rw [io_zero, io_eq g.2.2.2 (by omega)] at e; exact e))
theorem sw_irem {x y : Int} (f : xft i pc = some .irem) (g : 0 < y ∧ y ≤ 2147483647 ∧ 0 ≤ x ∧ x ≤ 2147483647) : XR sc d i pc L (xw y :: xw x :: S) h = XR sc d i (pc + 1) L (xw (x % y) :: S) h := by
  have e : x % y = x - x.tdiv y * y := by rw [Int.tdiv_eq_ediv_of_nonneg g.2.2.1, Int.mul_comm]; exact Int.emod_def x y
  rw [e]
  exact sw_iremT f (by omega)
theorem sw_iand {x y : Int} (f : xft i pc = some .iand) : XR sc d i pc L (xw y :: xw x :: S) h = XR sc d i (pc + 1) L (xw (iAnd x y) :: S) h := by
  unfold xw iAnd; rw [Int32.ofInt_toInt]; exact st_iand f
theorem sw_ior {x y : Int} (f : xft i pc = some .ior) : XR sc d i pc L (xw y :: xw x :: S) h = XR sc d i (pc + 1) L (xw (iOr x y) :: S) h := by
  unfold xw iOr; rw [Int32.ofInt_toInt]; exact st_ior f
theorem sw_ixor {x y : Int} (f : xft i pc = some .ixor) : XR sc d i pc L (xw y :: xw x :: S) h = XR sc d i (pc + 1) L (xw (iXor x y) :: S) h := by
  unfold xw iXor; rw [Int32.ofInt_toInt]; exact st_ixor f
theorem sw_ishl {x y : Int} (f : xft i pc = some .ishl) : XR sc d i pc L (xw y :: xw x :: S) h = XR sc d i (pc + 1) L (xw (iShl x y) :: S) h := by
  unfold xw iShl; rw [Int32.ofInt_toInt]; exact st_ishl f
theorem sw_ishr {x y : Int} (f : xft i pc = some .ishr) : XR sc d i pc L (xw y :: xw x :: S) h = XR sc d i (pc + 1) L (xw (iShr x y) :: S) h := by
  unfold xw iShr; rw [Int32.ofInt_toInt]; exact st_ishr f
theorem sw_i2l {x : Int} (f : xft i pc = some .i2l) : XR sc d i pc L (xw x :: S) h = XR sc d i (pc + 1) L (.long (jI x) :: S) h := st_i2l f
theorem sw_l2i {x : Int64} (f : xft i pc = some .l2i) : XR sc d i pc L (.long x :: S) h = XR sc d i (pc + 1) L (xw (jToI x) :: S) h := by
  unfold xw jToI; rw [Int32.ofInt_toInt]; exact st_l2i f
theorem sw_lshl {x : Int64} {y : Int} (f : xft i pc = some .lshl) : XR sc d i pc L (xw y :: .long x :: S) h = XR sc d i (pc + 1) L (.long (jShl x y) :: S) h := st_lshl f
theorem sw_lshr {x : Int64} {y : Int} (f : xft i pc = some .lshr) : XR sc d i pc L (xw y :: .long x :: S) h = XR sc d i (pc + 1) L (.long (jShr x y) :: S) h := st_lshr f
theorem sw_lcmp {x y : Int64} (f : xft i pc = some .lcmp) : XR sc d i pc L (.long y :: .long x :: S) h = XR sc d i (pc + 1) L (xw (jCmp x y) :: S) h := by
  unfold xw jCmp; rw [Int32.ofInt_toInt]; exact st_lcmp f
theorem sw_icmp_eq {x y : Int} {off : Int} {t : Nat} (f : xft i pc = some (.if_icmp .eq off)) (ht : 0 ≤ (pc : Int) + off ∧ xjmp pc off = t) (gx : -2147483648 ≤ x ∧ x ≤ 2147483647) (gy : -2147483648 ≤ y ∧ y ≤ 2147483647) : XR sc d i pc L (xw y :: xw x :: S) h = if x = y then XR sc d i t L S h else XR sc d i (pc + 3) L S h := by
  refine (st_icmp_eq f ht).trans ?_
  simp only [io_eq gx gy]
theorem sw_if_eq {x : Int} {off : Int} {t : Nat} (f : xft i pc = some (.ifCond .eq off)) (ht : 0 ≤ (pc : Int) + off ∧ xjmp pc off = t) (gx : -2147483648 ≤ x ∧ x ≤ 2147483647) : XR sc d i pc L (xw x :: S) h = if x = 0 then XR sc d i t L S h else XR sc d i (pc + 3) L S h := by
  refine (st_if_eq f ht).trans ?_
  rw [io_zero]
  simp only [io_eq (y := 0) gx ⟨by decide, by decide⟩]
theorem sw_icmp_ne {x y : Int} {off : Int} {t : Nat} (f : xft i pc = some (.if_icmp .ne off)) (ht : 0 ≤ (pc : Int) + off ∧ xjmp pc off = t) (gx : -2147483648 ≤ x ∧ x ≤ 2147483647) (gy : -2147483648 ≤ y ∧ y ≤ 2147483647) : XR sc d i pc L (xw y :: xw x :: S) h = if x = y then XR sc d i (pc + 3) L S h else XR sc d i t L S h := by
  refine (st_icmp_ne f ht).trans ?_
  simp only [io_eq gx gy]
theorem sw_if_ne {x : Int} {off : Int} {t : Nat} (f : xft i pc = some (.ifCond .ne off)) (ht : 0 ≤ (pc : Int) + off ∧ xjmp pc off = t) (gx : -2147483648 ≤ x ∧ x ≤ 2147483647) : XR sc d i pc L (xw x :: S) h = if x = 0 then XR sc d i (pc + 3) L S h else XR sc d i t L S h := by
  refine (st_if_ne f ht).trans ?_
  rw [io_zero]
  simp only [io_eq (y := 0) gx ⟨by decide, by decide⟩]
theorem sw_icmp_lt {x y : Int} {off : Int} {t : Nat} (f : xft i pc = some (.if_icmp .lt off)) (ht : 0 ≤ (pc : Int) + off ∧ xjmp pc off = t) (gx : -2147483648 ≤ x ∧ x ≤ 2147483647) (gy : -2147483648 ≤ y ∧ y ≤ 2147483647) : XR sc d i pc L (xw y :: xw x :: S) h = if x < y then XR sc d i t L S h else XR sc d i (pc + 3) L S h := by
  refine (st_icmp_lt f ht).trans ?_
  simp only [io_lt gx gy]
theorem sw_if_lt {x : Int} {off : Int} {t : Nat} (f : xft i pc = some (.ifCond .lt off)) (ht : 0 ≤ (pc : Int) + off ∧ xjmp pc off = t) (gx : -2147483648 ≤ x ∧ x ≤ 2147483647) : XR sc d i pc L (xw x :: S) h = if x < 0 then XR sc d i t L S h else XR sc d i (pc + 3) L S h := by
  refine (st_if_lt f ht).trans ?_
  rw [io_zero]
  simp only [io_lt (y := 0) gx ⟨by decide, by decide⟩]
theorem sw_icmp_ge {x y : Int} {off : Int} {t : Nat} (f : xft i pc = some (.if_icmp .ge off)) (ht : 0 ≤ (pc : Int) + off ∧ xjmp pc off = t) (gx : -2147483648 ≤ x ∧ x ≤ 2147483647) (gy : -2147483648 ≤ y ∧ y ≤ 2147483647) : XR sc d i pc L (xw y :: xw x :: S) h = if y ≤ x then XR sc d i t L S h else XR sc d i (pc + 3) L S h := by
  refine (st_icmp_ge f ht).trans ?_
  simp only [io_le gy gx]
theorem sw_if_ge {x : Int} {off : Int} {t : Nat} (f : xft i pc = some (.ifCond .ge off)) (ht : 0 ≤ (pc : Int) + off ∧ xjmp pc off = t) (gx : -2147483648 ≤ x ∧ x ≤ 2147483647) : XR sc d i pc L (xw x :: S) h = if 0 ≤ x then XR sc d i t L S h else XR sc d i (pc + 3) L S h := by
  refine (st_if_ge f ht).trans ?_
  rw [io_zero]
  simp only [io_le (x := 0) ⟨by decide, by decide⟩ gx]
theorem sw_icmp_gt {x y : Int} {off : Int} {t : Nat} (f : xft i pc = some (.if_icmp .gt off)) (ht : 0 ≤ (pc : Int) + off ∧ xjmp pc off = t) (gx : -2147483648 ≤ x ∧ x ≤ 2147483647) (gy : -2147483648 ≤ y ∧ y ≤ 2147483647) : XR sc d i pc L (xw y :: xw x :: S) h = if y < x then XR sc d i t L S h else XR sc d i (pc + 3) L S h := by
  refine (st_icmp_gt f ht).trans ?_
  simp only [io_lt gy gx]
theorem sw_if_gt {x : Int} {off : Int} {t : Nat} (f : xft i pc = some (.ifCond .gt off)) (ht : 0 ≤ (pc : Int) + off ∧ xjmp pc off = t) (gx : -2147483648 ≤ x ∧ x ≤ 2147483647) : XR sc d i pc L (xw x :: S) h = if 0 < x then XR sc d i t L S h else XR sc d i (pc + 3) L S h := by
  refine (st_if_gt f ht).trans ?_
  rw [io_zero]
  simp only [io_lt (x := 0) ⟨by decide, by decide⟩ gx]
theorem sw_icmp_le {x y : Int} {off : Int} {t : Nat} (f : xft i pc = some (.if_icmp .le off)) (ht : 0 ≤ (pc : Int) + off ∧ xjmp pc off = t) (gx : -2147483648 ≤ x ∧ x ≤ 2147483647) (gy : -2147483648 ≤ y ∧ y ≤ 2147483647) : XR sc d i pc L (xw y :: xw x :: S) h = if x ≤ y then XR sc d i t L S h else XR sc d i (pc + 3) L S h := by
  refine (st_icmp_le f ht).trans ?_
  simp only [io_le gx gy]
theorem sw_if_le {x : Int} {off : Int} {t : Nat} (f : xft i pc = some (.ifCond .le off)) (ht : 0 ≤ (pc : Int) + off ∧ xjmp pc off = t) (gx : -2147483648 ≤ x ∧ x ≤ 2147483647) : XR sc d i pc L (xw x :: S) h = if x ≤ 0 then XR sc d i t L S h else XR sc d i (pc + 3) L S h := by
  refine (st_if_le f ht).trans ?_
  rw [io_zero]
  simp only [io_le (y := 0) gx ⟨by decide, by decide⟩]
theorem sw_ireturn {x : Int} (f : xft i pc = some .ireturn) (hr : xmr i = some .int) : XR sc d i pc L [xw x] h = some (.inl (some (xw x)), h) := st_ireturn f hr
theorem sw_zreturn {x : Int} (f : xft i pc = some .ireturn) (hr : xmr i = some .boolean) (hx : x = 0 ∨ x = 1) : XR sc d i pc L [xw x] h = some (.inl (some (xw x)), h) :=
  st_zreturn f hr (hx.imp (fun e => by rw [e]; rfl) (fun e => by rw [e]; rfl))
variable {T : Nat → Nat × Nat} {z : Nat × Nat} {V : Nat → Nat → Int} {J : Nat → Nat → Int64} {R : Nat → Nat → Option Nat}
theorem sw_getI {idx a c k : Nat} {q : Bool × Nat} (f : xft i pc = some (.getfield idx)) (hf : xlk xFL (xmo i) idx = some (c, k, q)) (hk : xfk c k ≠ 2) (hT : T a = (1 + c, 0)) : XR sc d i pc L (.ref a :: S) (T, z, xv V, J, R) = XR sc d i (pc + 3) L (xw (V a k) :: S) (T, z, xv V, J, R) := st_getI f hf hk hT
theorem sw_putI {idx a c k : Nat} {x : Int} {n : Bool} {p0 : Nat} (f : xft i pc = some (.putfield idx)) (hf : xlk xFL (xmo i) idx = some (c, k, n, p0)) (hk : (xfk c k = 0 ∨ (xfk c k = 1 ∧ (x = 0 ∨ x = 1)))) (hfin : ((xT c k).2.2.2 = false ∨ ((xmy i).name = "<init>" ∧ xmo i = c ∧ n = false))) (hT : T a = (1 + c, 0)) : XR sc d i pc L (xw x :: .ref a :: S) (T, z, xv V, J, R) = XR sc d i (pc + 3) L S (T, z, xv (xup2 V a k x), J, R) := by
  rw [← xv_up2]
  exact st_putI f hf (hk.imp id (fun q => ⟨q.1, q.2.imp (fun e => by rw [e]; rfl) (fun e => by rw [e]; rfl)⟩)) hfin hT
theorem io_ix {x : Int} {n : Nat} (g : 0 ≤ x ∧ x < n ∧ n ≤ 3584) : ¬ Int32.ofInt x < 0 ∧ (Int32.ofInt x).toNatClampNeg < n ∧ (Int32.ofInt x).toNatClampNeg = x.toNat := by
  have h1 : -2147483648 ≤ x ∧ x ≤ 2147483647 := by omega
  have h2 := io_nat h1
  refine ⟨?_, by omega, h2⟩
  rw [io_zero, io_lt h1 (by omega)]
  omega
theorem sw_iaload {x : Int} {a n : Nat} (f : xft i pc = some .iaload) (hT : T a = (32, n)) (g : 0 ≤ x ∧ x < n ∧ n ≤ 3584) : XR sc d i pc L (xw x :: .ref a :: S) (T, z, xv V, J, R) = XR sc d i (pc + 1) L (xw (V a x.toNat) :: S) (T, z, xv V, J, R) := by
  have h1 := io_ix g
  have := st_iaload (sc := sc) (d := d) (L := L) (S := S) (z := z) (I := xv V) (J := J) (R := R) f hT h1.1 h1.2.1
  rw [h1.2.2] at this
  exact this
theorem sw_ialoadS {x : Int} {a : Nat} (f : xft i pc = some .iaload) (g : 0 ≤ x ∧ x < (sc.1 : Int) ∧ sc.1 ≤ 3584) : XR sc d i pc L (xw x :: .retAddr a :: S) h = XR sc d i (pc + 1) L (xw (sc.2 x.toNat).toInt :: S) h := by
  have h1 := io_ix g
  unfold xw
  rw [Int32.ofInt_toInt, ← h1.2.2]
  exact st_ialoadS f h1.1 h1.2.1
theorem sw_baload {x : Int} {a n : Nat} (f : xft i pc = some .baload) (hT : T a = (33, n)) (g : 0 ≤ x ∧ x < n ∧ n ≤ 3584) : XR sc d i pc L (xw x :: .ref a :: S) (T, z, xv V, J, R) = XR sc d i (pc + 1) L (xw (V a x.toNat) :: S) (T, z, xv V, J, R) := by
  have h1 := io_ix g
  have := st_baload (sc := sc) (d := d) (L := L) (S := S) (z := z) (I := xv V) (J := J) (R := R) f hT h1.1 h1.2.1
  rw [h1.2.2] at this
  exact this
theorem sw_laload {x : Int} {a n : Nat} (f : xft i pc = some .laload) (hT : T a = (34, n)) (g : 0 ≤ x ∧ x < n ∧ n ≤ 3584) : XR sc d i pc L (xw x :: .ref a :: S) (T, z, xv V, J, R) = XR sc d i (pc + 1) L (.long (J a x.toNat) :: S) (T, z, xv V, J, R) := by
  have h1 := io_ix g
  rw [← h1.2.2]
  exact st_laload f hT h1.1 h1.2.1
theorem sw_aaload {x : Int} {a n t : Nat} {v : Option Nat} (f : xft i pc = some .aaload) (hT : T a = (t, n)) (ht : 40 ≤ t ∧ t < 44) (g : 0 ≤ x ∧ x < n ∧ n ≤ 3584) (hv : R a x.toNat = v) : XR sc d i pc L (xw x :: .ref a :: S) (T, z, xv V, J, R) = XR sc d i (pc + 1) L (va_rf v :: S) (T, z, xv V, J, R) := by
  have h1 := io_ix g
  rw [← hv, ← h1.2.2]
  exact st_aaload f hT ht h1.1 h1.2.1
theorem sw_iastore {x v : Int} {a n : Nat} (f : xft i pc = some .iastore) (hT : T a = (32, n)) (g : 0 ≤ x ∧ x < n ∧ n ≤ 3584) : XR sc d i pc L (xw v :: xw x :: .ref a :: S) (T, z, xv V, J, R) = XR sc d i (pc + 1) L S (T, z, xv (xup2 V a x.toNat v), J, R) := by
  have h1 := io_ix g
  rw [← xv_up2, ← h1.2.2]
  exact st_iastore f hT h1.1 h1.2.1
theorem sw_bastore {x v : Int} {a n : Nat} (f : xft i pc = some .bastore) (hT : T a = (33, n)) (g : 0 ≤ x ∧ x < n ∧ n ≤ 3584) (hv : v = 0 ∨ v = 1) : XR sc d i pc L (xw v :: xw x :: .ref a :: S) (T, z, xv V, J, R) = XR sc d i (pc + 1) L S (T, z, xv (xup2 V a x.toNat v), J, R) := by
  have h1 := io_ix g
  rw [← xv_up2, ← h1.2.2]
  exact st_bastore f hT h1.1 h1.2.1 (hv.imp (fun e => by rw [e]; rfl) (fun e => by rw [e]; rfl))
theorem sw_lastore {x : Int} {v : Int64} {a n : Nat} (f : xft i pc = some .lastore) (hT : T a = (34, n)) (g : 0 ≤ x ∧ x < n ∧ n ≤ 3584) : XR sc d i pc L (.long v :: xw x :: .ref a :: S) (T, z, xv V, J, R) = XR sc d i (pc + 1) L S (T, z, xv V, xup2 J a x.toNat v, R) := by
  have h1 := io_ix g
  rw [← h1.2.2]
  exact st_lastore f hT h1.1 h1.2.1
theorem sw_aastore {x : Int} {a q c n : Nat} (f : xft i pc = some .aastore) (hT : T a = (40 + c, n)) (hc : c < 4) (g : 0 ≤ x ∧ x < n ∧ n ≤ 3584) (hq : q < z.1) (hTq : T q = (1 + c, 0)) : XR sc d i pc L (.ref q :: xw x :: .ref a :: S) (T, z, xv V, J, R) = XR sc d i (pc + 1) L S (T, z, xv V, J, xup2 R a x.toNat (some q)) := by
  have h1 := io_ix g
  rw [← h1.2.2]
  exact st_aastore f hT hc h1.1 h1.2.1 hq hTq
theorem sw_alenI {a n t : Nat} (f : xft i pc = some .arraylength) (hT : T a = (t, n)) (ht : (32 ≤ t ∧ t < 35) ∨ (40 ≤ t ∧ t < 44)) : XR sc d i pc L (.ref a :: S) (T, z, xv V, J, R) = XR sc d i (pc + 1) L (xw n :: S) (T, z, xv V, J, R) := by
  unfold xw; rw [Int32.ofInt_eq_ofNat]; exact st_alenI f hT ht
theorem sw_alenS {a : Nat} (f : xft i pc = some .arraylength) : XR sc d i pc L (.retAddr a :: S) h = XR sc d i (pc + 1) L (xw sc.1 :: S) h := by
  unfold xw; rw [Int32.ofInt_eq_ofNat]; exact st_alenS f
theorem sw_new {idx c q : Nat} (f : xft i pc = some (.new idx)) (hk : xlk xKL (xmo i) idx = some (c, q)) (hc : c < 8) : XR sc d i pc L S (T, z, xv V, J, R) = XR sc d i (pc + 3) L (.ref z.1 :: S) (va_up T z.1 (1 + c, 0), (z.1 + 1, z.2 + xN c), xv (va_up V z.1 (fun _ => 0)), va_up J z.1 (fun _ => 0), va_up R z.1 (fun _ => none)) := by
  rw [← xv_new]; exact st_new f hk hc
theorem sw_newI {x : Int} (n : Nat) (f : xft i pc = some (.newarray .int)) (g : x = n ∧ n ≤ 1000) : XR sc d i pc L (xw x :: S) (T, z, xv V, J, R) = XR sc d i (pc + 2) L (.ref z.1 :: S) (va_up T z.1 (32, n), (z.1 + 1, z.2 + n), xv (va_up V z.1 (fun _ => 0)), va_up J z.1 (fun _ => 0), va_up R z.1 (fun _ => none)) := by
  obtain ⟨rfl, gn⟩ := g
  have h1 := io_ix (x := (n : Int)) (n := n + 1) (by omega)
  have h2 : (Int32.ofInt (n : Int)).toNatClampNeg = n := by rw [h1.2.2]; rfl
  have := st_newI (sc := sc) (d := d) (L := L) (S := S) (h := (T, z, xv V, J, R)) f (x := Int32.ofInt (n : Int)) (fun q => q.elim h1.1 (fun q => by omega))
  rw [h2] at this
  rw [← xv_new]; exact this
theorem sw_newZ {x : Int} (n : Nat) (f : xft i pc = some (.newarray .boolean)) (g : x = n ∧ n ≤ 1000) : XR sc d i pc L (xw x :: S) (T, z, xv V, J, R) = XR sc d i (pc + 2) L (.ref z.1 :: S) (va_up T z.1 (33, n), (z.1 + 1, z.2 + n), xv (va_up V z.1 (fun _ => 0)), va_up J z.1 (fun _ => 0), va_up R z.1 (fun _ => none)) := by
  obtain ⟨rfl, gn⟩ := g
  have h1 := io_ix (x := (n : Int)) (n := n + 1) (by omega)
  have h2 : (Int32.ofInt (n : Int)).toNatClampNeg = n := by rw [h1.2.2]; rfl
  have := st_newZ (sc := sc) (d := d) (L := L) (S := S) (h := (T, z, xv V, J, R)) f (x := Int32.ofInt (n : Int)) (fun q => q.elim h1.1 (fun q => by omega))
  rw [h2] at this
  rw [← xv_new]; exact this
theorem sw_newJ {x : Int} (n : Nat) (f : xft i pc = some (.newarray .long)) (g : x = n ∧ n ≤ 1000) : XR sc d i pc L (xw x :: S) (T, z, xv V, J, R) = XR sc d i (pc + 2) L (.ref z.1 :: S) (va_up T z.1 (34, n), (z.1 + 1, z.2 + n), xv (va_up V z.1 (fun _ => 0)), va_up J z.1 (fun _ => 0), va_up R z.1 (fun _ => none)) := by
  obtain ⟨rfl, gn⟩ := g
  have h1 := io_ix (x := (n : Int)) (n := n + 1) (by omega)
  have h2 : (Int32.ofInt (n : Int)).toNatClampNeg = n := by rw [h1.2.2]; rfl
  have := st_newJ (sc := sc) (d := d) (L := L) (S := S) (h := (T, z, xv V, J, R)) f (x := Int32.ofInt (n : Int)) (fun q => q.elim h1.1 (fun q => by omega))
  rw [h2] at this
  rw [← xv_new]; exact this
theorem sw_newA {idx c q : Nat} {x : Int} (n : Nat) (f : xft i pc = some (.anewarray idx)) (hk : xlk xKL (xmo i) idx = some (c, q)) (hc : c < 4) (g : x = n ∧ n ≤ 1000) : XR sc d i pc L (xw x :: S) (T, z, xv V, J, R) = XR sc d i (pc + 3) L (.ref z.1 :: S) (va_up T z.1 (40 + c, n), (z.1 + 1, z.2 + n), xv (va_up V z.1 (fun _ => 0)), va_up J z.1 (fun _ => 0), va_up R z.1 (fun _ => none)) := by
  obtain ⟨rfl, gn⟩ := g
  have h1 := io_ix (x := (n : Int)) (n := n + 1) (by omega)
  have h2 : (Int32.ofInt (n : Int)).toNatClampNeg = n := by rw [h1.2.2]; rfl
  have := st_newA (sc := sc) (d := d) (L := L) (S := S) (h := (T, z, xv V, J, R)) f hk (x := Int32.ofInt (n : Int)) (fun q => q.elim h1.1 (fun q => q.elim (fun q => by omega) (fun q => by omega)))
  rw [h2] at this
  rw [← xv_new]; exact this
theorem sw_throw {idx e0 q : Nat} (f : xft i pc = some (.new idx)) (hk : xlk xKL (xmo i) idx = some (e0, q)) (hc : 8 ≤ e0 ∧ e0 < 11) (ht : xthr d i pc e0 S (T, z, xv V, J, R) = xend (.inr e0) (xnew (T, z, xv V, J, R) (1 + e0, 0) 6)) : XR sc d i pc L S (T, z, xv V, J, R) = some (.inr e0, (va_up T z.1 (1 + e0, 0), (z.1 + 1, z.2 + 6), xv (va_up V z.1 (fun _ => 0)), va_up J z.1 (fun _ => 0), va_up R z.1 (fun _ => none))) := by
  rw [← xv_new]; exact st_throw f hk hc ht
end IOPS
end
section
/-! constants and links, by program (gen2.py) -/
theorem c8_m50 : (Int8.ofInt (-50)).toInt32 = Int32.ofInt (-50) := by decide
theorem c8_6 : (Int8.ofInt (6)).toInt32 = Int32.ofInt (6) := by decide
theorem c8_7 : (Int8.ofInt (7)).toInt32 = Int32.ofInt (7) := by decide
theorem c8_8 : (Int8.ofInt (8)).toInt32 = Int32.ofInt (8) := by decide
theorem c8_9 : (Int8.ofInt (9)).toInt32 = Int32.ofInt (9) := by decide
theorem c8_10 : (Int8.ofInt (10)).toInt32 = Int32.ofInt (10) := by decide
theorem c8_11 : (Int8.ofInt (11)).toInt32 = Int32.ofInt (11) := by decide
theorem c8_12 : (Int8.ofInt (12)).toInt32 = Int32.ofInt (12) := by decide
theorem c8_16 : (Int8.ofInt (16)).toInt32 = Int32.ofInt (16) := by decide
theorem c8_20 : (Int8.ofInt (20)).toInt32 = Int32.ofInt (20) := by decide
theorem c8_31 : (Int8.ofInt (31)).toInt32 = Int32.ofInt (31) := by decide
theorem c8_40 : (Int8.ofInt (40)).toInt32 = Int32.ofInt (40) := by decide
theorem c8_42 : (Int8.ofInt (42)).toInt32 = Int32.ofInt (42) := by decide
theorem c8_49 : (Int8.ofInt (49)).toInt32 = Int32.ofInt (49) := by decide
theorem c8_50 : (Int8.ofInt (50)).toInt32 = Int32.ofInt (50) := by decide
theorem c8_60 : (Int8.ofInt (60)).toInt32 = Int32.ofInt (60) := by decide
theorem c8_64 : (Int8.ofInt (64)).toInt32 = Int32.ofInt (64) := by decide
theorem c8_96 : (Int8.ofInt (96)).toInt32 = Int32.ofInt (96) := by decide
theorem c8_100 : (Int8.ofInt (100)).toInt32 = Int32.ofInt (100) := by decide
theorem c8_126 : (Int8.ofInt (126)).toInt32 = Int32.ofInt (126) := by decide
theorem c16_m200 : (Int16.ofInt (-200)).toInt32 = Int32.ofInt (-200) := by decide
theorem c16_168 : (Int16.ofInt (168)).toInt32 = Int32.ofInt (168) := by decide
theorem c16_252 : (Int16.ofInt (252)).toInt32 = Int32.ofInt (252) := by decide
theorem c16_1000 : (Int16.ofInt (1000)).toInt32 = Int32.ofInt (1000) := by decide
theorem c16_3000 : (Int16.ofInt (3000)).toInt32 = Int32.ofInt (3000) := by decide
theorem c16_9999 : (Int16.ofInt (9999)).toInt32 = Int32.ofInt (9999) := by decide
set_option maxRecDepth 100000 in
theorem lm_0 : xml 0 = 2 := by decide +kernel
set_option maxRecDepth 100000 in
theorem jl_0 : 0 < xMs.length := by decide +kernel
set_option maxRecDepth 100000 in
theorem mn_0 : xmn 0 = 2 := by decide +kernel
set_option maxRecDepth 100000 in
theorem r_0_3 : xlk xCL (xmo 0) 3 = none := by decide +kernel
set_option maxRecDepth 100000 in
theorem t_0_3 : xlk xOL (xmo 0) 3 = some 285 := by decide +kernel
set_option maxRecDepth 100000 in
theorem e_0_9 : xlk xFL (xmo 0) 9 = some (0, 0, false, 286) := by decide +kernel
set_option maxRecDepth 100000 in
theorem n_0 : (xmy 0).name = "<init>" ∧ xmo 0 = 0 ∧ false = false := by decide +kernel
set_option maxRecDepth 100000 in
theorem e_0_15 : xlk xFL (xmo 0) 15 = some (0, 1, false, 287) := by decide +kernel
set_option maxRecDepth 100000 in
theorem mr_0 : xmr 0 = none := by decide +kernel
set_option maxRecDepth 100000 in
theorem lm_1 : xml 1 = 7 := by decide +kernel
set_option maxRecDepth 100000 in
theorem jl_1 : 1 < xMs.length := by decide +kernel
set_option maxRecDepth 100000 in
theorem mn_1 : xmn 1 = 5 := by decide +kernel
set_option maxRecDepth 100000 in
theorem e_1_15 : xlk xFL (xmo 1) 15 = some (0, 1, false, 287) := by decide +kernel
set_option maxRecDepth 100000 in
theorem mr_1 : xmr 1 = none := by decide +kernel
set_option maxRecDepth 100000 in
theorem lm_2 : xml 2 = 6 := by decide +kernel
set_option maxRecDepth 100000 in
theorem jl_2 : 2 < xMs.length := by decide +kernel
set_option maxRecDepth 100000 in
theorem mn_2 : xmn 2 = 1 := by decide +kernel
set_option maxRecDepth 100000 in
theorem e_2_15 : xlk xFL (xmo 2) 15 = some (0, 1, false, 287) := by decide +kernel
set_option maxRecDepth 100000 in
theorem mr_2 : xmr 2 = some .int := by decide +kernel
set_option maxRecDepth 100000 in
theorem lm_3 : xml 3 = 3 := by decide +kernel
set_option maxRecDepth 100000 in
theorem jl_3 : 3 < xMs.length := by decide +kernel
set_option maxRecDepth 100000 in
theorem mn_3 : xmn 3 = 3 := by decide +kernel
set_option maxRecDepth 100000 in
theorem h_3_19 : xlk xCL (xmo 3) 19 = some (8, 0, 344, 345, 0) := by decide +kernel
set_option maxRecDepth 100000 in
theorem mn_8 : xmn 8 = 2 := by decide +kernel
set_option maxRecDepth 100000 in
theorem e_3_9 : xlk xFL (xmo 3) 9 = some (0, 0, false, 286) := by decide +kernel
set_option maxRecDepth 100000 in
theorem mr_3 : xmr 3 = some .int := by decide +kernel
set_option maxRecDepth 100000 in
theorem lm_4 : xml 4 = 6 := by decide +kernel
set_option maxRecDepth 100000 in
theorem jl_4 : 4 < xMs.length := by decide +kernel
set_option maxRecDepth 100000 in
theorem mn_4 : xmn 4 = 6 := by decide +kernel
set_option maxRecDepth 100000 in
theorem h_4_19 : xlk xCL (xmo 4) 19 = some (8, 0, 344, 345, 0) := by decide +kernel
set_option maxRecDepth 100000 in
theorem h_4_23 : xlk xCL (xmo 4) 23 = some (7, 1, 347, 349, 2) := by decide +kernel
set_option maxRecDepth 100000 in
theorem mn_7 : xmn 7 = 5 := by decide +kernel
set_option maxRecDepth 100000 in
theorem mo_7 : xmo 7 = 0 := by decide +kernel
set_option maxRecDepth 100000 in
theorem mr_4 : xmr 4 = some .boolean := by decide +kernel
set_option maxRecDepth 100000 in
theorem lm_5 : xml 5 = 11 := by decide +kernel
set_option maxRecDepth 100000 in
theorem jl_5 : 5 < xMs.length := by decide +kernel
set_option maxRecDepth 100000 in
theorem mn_5 : xmn 5 = 5 := by decide +kernel
set_option maxRecDepth 100000 in
theorem h_5_27 : xlk xCL (xmo 5) 27 = some (9, 0, 428, 429, 0) := by decide +kernel
set_option maxRecDepth 100000 in
theorem mn_9 : xmn 9 = 3 := by decide +kernel
set_option maxRecDepth 100000 in
theorem h_5_31 : xlk xCL (xmo 5) 31 = some (3, 1, 431, 355, 356) := by decide +kernel
set_option maxRecDepth 100000 in
theorem mo_3 : xmo 3 = 0 := by decide +kernel
set_option maxRecDepth 100000 in
theorem h_5_35 : xlk xCL (xmo 5) 35 = some (6, 1, 432, 434, 3) := by decide +kernel
set_option maxRecDepth 100000 in
theorem mn_6 : xmn 6 = 5 := by decide +kernel
set_option maxRecDepth 100000 in
theorem mo_6 : xmo 6 = 0 := by decide +kernel
set_option maxRecDepth 100000 in
theorem mr_5 : xmr 5 = some .int := by decide +kernel
set_option maxRecDepth 100000 in
theorem lm_6 : xml 6 = 6 := by decide +kernel
set_option maxRecDepth 100000 in
theorem jl_6 : 6 < xMs.length := by decide +kernel
set_option maxRecDepth 100000 in
theorem h_6_39 : xlk xCL (xmo 6) 39 = some (4, 1, 436, 341, 342) := by decide +kernel
set_option maxRecDepth 100000 in
theorem mo_4 : xmo 4 = 0 := by decide +kernel
set_option maxRecDepth 100000 in
theorem mr_6 : xmr 6 = some .int := by decide +kernel
set_option maxRecDepth 100000 in
theorem lm_7 : xml 7 = 7 := by decide +kernel
set_option maxRecDepth 100000 in
theorem jl_7 : 7 < xMs.length := by decide +kernel
set_option maxRecDepth 100000 in
theorem e_7_15 : xlk xFL (xmo 7) 15 = some (0, 1, false, 287) := by decide +kernel
set_option maxRecDepth 100000 in
theorem mr_7 : xmr 7 = some .boolean := by decide +kernel
set_option maxRecDepth 100000 in
theorem lm_8 : xml 8 = 2 := by decide +kernel
set_option maxRecDepth 100000 in
theorem jl_8 : 8 < xMs.length := by decide +kernel
set_option maxRecDepth 100000 in
theorem mr_8 : xmr 8 = some .boolean := by decide +kernel
set_option maxRecDepth 100000 in
theorem lm_9 : xml 9 = 6 := by decide +kernel
set_option maxRecDepth 100000 in
theorem jl_9 : 9 < xMs.length := by decide +kernel
set_option maxRecDepth 100000 in
theorem mr_9 : xmr 9 = some .int := by decide +kernel
set_option maxRecDepth 100000 in
theorem lm_10 : xml 10 = 1 := by decide +kernel
set_option maxRecDepth 100000 in
theorem jl_10 : 10 < xMs.length := by decide +kernel
set_option maxRecDepth 100000 in
theorem mn_10 : xmn 10 = 1 := by decide +kernel
set_option maxRecDepth 100000 in
theorem r_10_3 : xlk xCL (xmo 10) 3 = none := by decide +kernel
set_option maxRecDepth 100000 in
theorem t_10_3 : xlk xOL (xmo 10) 3 = some 108 := by decide +kernel
set_option maxRecDepth 100000 in
theorem e_10_9 : xlk xFL (xmo 10) 9 = some (2, 0, false, 109) := by decide +kernel
set_option maxRecDepth 100000 in
theorem n_10 : (xmy 10).name = "<init>" ∧ xmo 10 = 2 ∧ false = false := by decide +kernel
set_option maxRecDepth 100000 in
theorem e_10_15 : xlk xFL (xmo 10) 15 = some (2, 1, false, 112) := by decide +kernel
set_option maxRecDepth 100000 in
theorem e_10_18 : xlk xFL (xmo 10) 18 = some (2, 2, false, 114) := by decide +kernel
set_option maxRecDepth 100000 in
theorem mr_10 : xmr 10 = none := by decide +kernel
set_option maxRecDepth 100000 in
theorem lm_11 : xml 11 = 5 := by decide +kernel
set_option maxRecDepth 100000 in
theorem jl_11 : 11 < xMs.length := by decide +kernel
set_option maxRecDepth 100000 in
theorem mn_11 : xmn 11 = 1 := by decide +kernel
set_option maxRecDepth 100000 in
theorem e_11_15 : xlk xFL (xmo 11) 15 = some (2, 1, false, 112) := by decide +kernel
set_option maxRecDepth 100000 in
theorem mr_11 : xmr 11 = some .boolean := by decide +kernel
set_option maxRecDepth 100000 in
theorem lm_12 : xml 12 = 3 := by decide +kernel
set_option maxRecDepth 100000 in
theorem jl_12 : 12 < xMs.length := by decide +kernel
set_option maxRecDepth 100000 in
theorem mn_12 : xmn 12 = 2 := by decide +kernel
set_option maxRecDepth 100000 in
theorem e_12_15 : xlk xFL (xmo 12) 15 = some (2, 1, false, 112) := by decide +kernel
set_option maxRecDepth 100000 in
theorem h_12_21 : xlk xCL (xmo 12) 21 = some (158, 0, 783, 490, 0) := by decide +kernel
set_option maxRecDepth 100000 in
theorem mn_158 : xmn 158 = 2 := by decide +kernel
set_option maxRecDepth 100000 in
theorem mr_12 : xmr 12 = none := by decide +kernel
set_option maxRecDepth 100000 in
theorem lm_13 : xml 13 = 5 := by decide +kernel
set_option maxRecDepth 100000 in
theorem jl_13 : 13 < xMs.length := by decide +kernel
set_option maxRecDepth 100000 in
theorem mn_13 : xmn 13 = 5 := by decide +kernel
set_option maxRecDepth 100000 in
theorem e_13_18 : xlk xFL (xmo 13) 18 = some (2, 2, false, 114) := by decide +kernel
set_option maxRecDepth 100000 in
theorem mr_13 : xmr 13 = none := by decide +kernel
set_option maxRecDepth 100000 in
theorem lm_14 : xml 14 = 4 := by decide +kernel
set_option maxRecDepth 100000 in
theorem jl_14 : 14 < xMs.length := by decide +kernel
set_option maxRecDepth 100000 in
theorem mn_14 : xmn 14 = 4 := by decide +kernel
set_option maxRecDepth 100000 in
theorem e_14_18 : xlk xFL (xmo 14) 18 = some (2, 2, false, 114) := by decide +kernel
set_option maxRecDepth 100000 in
theorem mr_14 : xmr 14 = some .int := by decide +kernel
set_option maxRecDepth 100000 in
theorem lm_15 : xml 15 = 6 := by decide +kernel
set_option maxRecDepth 100000 in
theorem jl_15 : 15 < xMs.length := by decide +kernel
set_option maxRecDepth 100000 in
theorem mn_15 : xmn 15 = 6 := by decide +kernel
set_option maxRecDepth 100000 in
theorem r_15_3 : xlk xCL (xmo 15) 3 = none := by decide +kernel
set_option maxRecDepth 100000 in
theorem t_15_3 : xlk xOL (xmo 15) 3 = some 361 := by decide +kernel
set_option maxRecDepth 100000 in
theorem e_15_9 : xlk xFL (xmo 15) 9 = some (1, 0, false, 362) := by decide +kernel
set_option maxRecDepth 100000 in
theorem n_15 : (xmy 15).name = "<init>" ∧ xmo 15 = 1 ∧ false = false := by decide +kernel
set_option maxRecDepth 100000 in
theorem e_15_15 : xlk xFL (xmo 15) 15 = some (1, 1, false, 364) := by decide +kernel
set_option maxRecDepth 100000 in
theorem e_15_18 : xlk xFL (xmo 15) 18 = some (1, 2, false, 366) := by decide +kernel
set_option maxRecDepth 100000 in
theorem e_15_21 : xlk xFL (xmo 15) 21 = some (1, 5, false, 371) := by decide +kernel
set_option maxRecDepth 100000 in
theorem e_15_24 : xlk xFL (xmo 15) 24 = some (1, 3, false, 368) := by decide +kernel
set_option maxRecDepth 100000 in
theorem e_15_28 : xlk xFL (xmo 15) 28 = some (1, 4, false, 370) := by decide +kernel
set_option maxRecDepth 100000 in
theorem e_15_32 : xlk xFL (xmo 15) 32 = some (1, 9, false, 379) := by decide +kernel
set_option maxRecDepth 100000 in
theorem e_15_35 : xlk xFL (xmo 15) 35 = some (1, 10, false, 382) := by decide +kernel
set_option maxRecDepth 100000 in
theorem e_15_38 : xlk xFL (xmo 15) 38 = some (1, 11, false, 385) := by decide +kernel
set_option maxRecDepth 100000 in
theorem mr_15 : xmr 15 = none := by decide +kernel
set_option maxRecDepth 100000 in
theorem lm_16 : xml 16 = 2 := by decide +kernel
set_option maxRecDepth 100000 in
theorem jl_16 : 16 < xMs.length := by decide +kernel
set_option maxRecDepth 100000 in
theorem mn_16 : xmn 16 = 2 := by decide +kernel
set_option maxRecDepth 100000 in
theorem e_16_28 : xlk xFL (xmo 16) 28 = some (1, 4, false, 370) := by decide +kernel
set_option maxRecDepth 100000 in
theorem mr_16 : xmr 16 = some .boolean := by decide +kernel
set_option maxRecDepth 100000 in
theorem lm_17 : xml 17 = 4 := by decide +kernel
set_option maxRecDepth 100000 in
theorem jl_17 : 17 < xMs.length := by decide +kernel
set_option maxRecDepth 100000 in
theorem mn_17 : xmn 17 = 2 := by decide +kernel
set_option maxRecDepth 100000 in
theorem e_17_28 : xlk xFL (xmo 17) 28 = some (1, 4, false, 370) := by decide +kernel
set_option maxRecDepth 100000 in
theorem e_17_41 : xlk xFL (xmo 17) 41 = some (1, 6, false, 373) := by decide +kernel
set_option maxRecDepth 100000 in
theorem mr_17 : xmr 17 = some .int := by decide +kernel
set_option maxRecDepth 100000 in
theorem lm_18 : xml 18 = 4 := by decide +kernel
set_option maxRecDepth 100000 in
theorem jl_18 : 18 < xMs.length := by decide +kernel
set_option maxRecDepth 100000 in
theorem mn_18 : xmn 18 = 2 := by decide +kernel
set_option maxRecDepth 100000 in
theorem e_18_28 : xlk xFL (xmo 18) 28 = some (1, 4, false, 370) := by decide +kernel
set_option maxRecDepth 100000 in
theorem mr_18 : xmr 18 = some .int := by decide +kernel
set_option maxRecDepth 100000 in
theorem lm_19 : xml 19 = 3 := by decide +kernel
set_option maxRecDepth 100000 in
theorem jl_19 : 19 < xMs.length := by decide +kernel
set_option maxRecDepth 100000 in
theorem mn_19 : xmn 19 = 1 := by decide +kernel
set_option maxRecDepth 100000 in
theorem e_19_15 : xlk xFL (xmo 19) 15 = some (1, 1, false, 364) := by decide +kernel
set_option maxRecDepth 100000 in
theorem e_19_21 : xlk xFL (xmo 19) 21 = some (1, 5, false, 371) := by decide +kernel
set_option maxRecDepth 100000 in
theorem e_19_41 : xlk xFL (xmo 19) 41 = some (1, 6, false, 373) := by decide +kernel
set_option maxRecDepth 100000 in
theorem e_19_44 : xlk xFL (xmo 19) 44 = some (1, 7, false, 375) := by decide +kernel
set_option maxRecDepth 100000 in
theorem h_19_47 : xlk xCL (xmo 19) 47 = some (158, 0, 489, 490, 0) := by decide +kernel
set_option maxRecDepth 100000 in
theorem mr_19 : xmr 19 = some .int := by decide +kernel
set_option maxRecDepth 100000 in
theorem lm_20 : xml 20 = 1 := by decide +kernel
set_option maxRecDepth 100000 in
theorem jl_20 : 20 < xMs.length := by decide +kernel
set_option maxRecDepth 100000 in
theorem mn_20 : xmn 20 = 1 := by decide +kernel
set_option maxRecDepth 100000 in
theorem e_20_38 : xlk xFL (xmo 20) 38 = some (1, 11, false, 385) := by decide +kernel
set_option maxRecDepth 100000 in
theorem mr_20 : xmr 20 = some .boolean := by decide +kernel
set_option maxRecDepth 100000 in
theorem lm_21 : xml 21 = 1 := by decide +kernel
set_option maxRecDepth 100000 in
theorem jl_21 : 21 < xMs.length := by decide +kernel
set_option maxRecDepth 100000 in
theorem mn_21 : xmn 21 = 1 := by decide +kernel
set_option maxRecDepth 100000 in
theorem e_21_53 : xlk xFL (xmo 21) 53 = some (1, 8, false, 378) := by decide +kernel
set_option maxRecDepth 100000 in
theorem h_21_56 : xlk xCL (xmo 21) 56 = some (20, 1, 652, 463, 464) := by decide +kernel
set_option maxRecDepth 100000 in
theorem mo_20 : xmo 20 = 1 := by decide +kernel
set_option maxRecDepth 100000 in
theorem e_21_60 : xlk xFL (xmo 21) 60 = some (1, 12, false, 388) := by decide +kernel
set_option maxRecDepth 100000 in
theorem mr_21 : xmr 21 = some .boolean := by decide +kernel
set_option maxRecDepth 100000 in
theorem lm_22 : xml 22 = 1 := by decide +kernel
set_option maxRecDepth 100000 in
theorem jl_22 : 22 < xMs.length := by decide +kernel
set_option maxRecDepth 100000 in
theorem mn_22 : xmn 22 = 1 := by decide +kernel
set_option maxRecDepth 100000 in
theorem e_22_32 : xlk xFL (xmo 22) 32 = some (1, 9, false, 379) := by decide +kernel
set_option maxRecDepth 100000 in
theorem e_22_35 : xlk xFL (xmo 22) 35 = some (1, 10, false, 382) := by decide +kernel
set_option maxRecDepth 100000 in
theorem e_22_38 : xlk xFL (xmo 22) 38 = some (1, 11, false, 385) := by decide +kernel
set_option maxRecDepth 100000 in
theorem mr_22 : xmr 22 = none := by decide +kernel
set_option maxRecDepth 100000 in
theorem lm_23 : xml 23 = 1 := by decide +kernel
set_option maxRecDepth 100000 in
theorem jl_23 : 23 < xMs.length := by decide +kernel
set_option maxRecDepth 100000 in
theorem mn_23 : xmn 23 = 1 := by decide +kernel
set_option maxRecDepth 100000 in
theorem e_23_60 : xlk xFL (xmo 23) 60 = some (1, 12, false, 388) := by decide +kernel
set_option maxRecDepth 100000 in
theorem h_23_63 : xlk xCL (xmo 23) 63 = some (22, 1, 616, 521, 522) := by decide +kernel
set_option maxRecDepth 100000 in
theorem mo_22 : xmo 22 = 1 := by decide +kernel
set_option maxRecDepth 100000 in
theorem mr_23 : xmr 23 = none := by decide +kernel
set_option maxRecDepth 100000 in
theorem lm_24 : xml 24 = 1 := by decide +kernel
set_option maxRecDepth 100000 in
theorem jl_24 : 24 < xMs.length := by decide +kernel
set_option maxRecDepth 100000 in
theorem mn_24 : xmn 24 = 1 := by decide +kernel
set_option maxRecDepth 100000 in
theorem r_24_3 : xlk xCL (xmo 24) 3 = none := by decide +kernel
set_option maxRecDepth 100000 in
theorem t_24_3 : xlk xOL (xmo 24) 3 = some 80 := by decide +kernel
set_option maxRecDepth 100000 in
theorem e_24_9 : xlk xFL (xmo 24) 9 = some (4, 0, false, 81) := by decide +kernel
set_option maxRecDepth 100000 in
theorem n_24 : (xmy 24).name = "<init>" ∧ xmo 24 = 4 ∧ false = false := by decide +kernel
set_option maxRecDepth 100000 in
theorem e_24_15 : xlk xFL (xmo 24) 15 = some (4, 1, false, 82) := by decide +kernel
set_option maxRecDepth 100000 in
theorem e_24_18 : xlk xFL (xmo 24) 18 = some (4, 2, false, 83) := by decide +kernel
set_option maxRecDepth 100000 in
theorem e_24_22 : xlk xFL (xmo 24) 22 = some (4, 3, false, 84) := by decide +kernel
set_option maxRecDepth 100000 in
theorem e_24_25 : xlk xFL (xmo 24) 25 = some (4, 4, false, 85) := by decide +kernel
set_option maxRecDepth 100000 in
theorem mr_24 : xmr 24 = none := by decide +kernel
set_option maxRecDepth 100000 in
theorem lm_25 : xml 25 = 8 := by decide +kernel
set_option maxRecDepth 100000 in
theorem jl_25 : 25 < xMs.length := by decide +kernel
set_option maxRecDepth 100000 in
theorem mn_25 : xmn 25 = 4 := by decide +kernel
set_option maxRecDepth 100000 in
theorem h_25_28 : xlk xCL (xmo 25) 28 = some (32, 1, 538, 540, 5) := by decide +kernel
set_option maxRecDepth 100000 in
theorem mn_32 : xmn 32 = 1 := by decide +kernel
set_option maxRecDepth 100000 in
theorem mo_32 : xmo 32 = 4 := by decide +kernel
set_option maxRecDepth 100000 in
theorem h_25_31 : xlk xCL (xmo 25) 31 = some (20, 1, 542, 463, 464) := by decide +kernel
set_option maxRecDepth 100000 in
theorem e_25_37 : xlk xFL (xmo 25) 37 = some (1, 9, true, 380) := by decide +kernel
set_option maxRecDepth 100000 in
theorem e_25_41 : xlk xFL (xmo 25) 41 = some (1, 10, true, 383) := by decide +kernel
set_option maxRecDepth 100000 in
theorem h_25_44 : xlk xCL (xmo 25) 44 = some (31, 0, 543, 544, 0) := by decide +kernel
set_option maxRecDepth 100000 in
theorem mn_31 : xmn 31 = 2 := by decide +kernel
set_option maxRecDepth 100000 in
theorem e_25_48 : xlk xFL (xmo 25) 48 = some (1, 11, true, 386) := by decide +kernel
set_option maxRecDepth 100000 in
theorem h_25_51 : xlk xCL (xmo 25) 51 = some (33, 1, 546, 548, 6) := by decide +kernel
set_option maxRecDepth 100000 in
theorem mn_33 : xmn 33 = 3 := by decide +kernel
set_option maxRecDepth 100000 in
theorem mo_33 : xmo 33 = 4 := by decide +kernel
set_option maxRecDepth 100000 in
theorem h_25_55 : xlk xCL (xmo 25) 55 = some (34, 1, 550, 552, 7) := by decide +kernel
set_option maxRecDepth 100000 in
theorem mn_34 : xmn 34 = 2 := by decide +kernel
set_option maxRecDepth 100000 in
theorem mo_34 : xmo 34 = 4 := by decide +kernel
set_option maxRecDepth 100000 in
theorem h_25_59 : xlk xCL (xmo 25) 59 = some (37, 1, 564, 566, 10) := by decide +kernel
set_option maxRecDepth 100000 in
theorem mn_37 : xmn 37 = 3 := by decide +kernel
set_option maxRecDepth 100000 in
theorem mo_37 : xmo 37 = 4 := by decide +kernel
set_option maxRecDepth 100000 in
theorem mr_25 : xmr 25 = none := by decide +kernel
set_option maxRecDepth 100000 in
theorem lm_26 : xml 26 = 1 := by decide +kernel
set_option maxRecDepth 100000 in
theorem jl_26 : 26 < xMs.length := by decide +kernel
set_option maxRecDepth 100000 in
theorem mn_26 : xmn 26 = 1 := by decide +kernel
set_option maxRecDepth 100000 in
theorem e_26_62 : xlk xFL (xmo 26) 62 = some (4, 5, false, 86) := by decide +kernel
set_option maxRecDepth 100000 in
theorem mr_26 : xmr 26 = some .boolean := by decide +kernel
set_option maxRecDepth 100000 in
theorem lm_27 : xml 27 = 2 := by decide +kernel
set_option maxRecDepth 100000 in
theorem jl_27 : 27 < xMs.length := by decide +kernel
set_option maxRecDepth 100000 in
theorem mn_27 : xmn 27 = 2 := by decide +kernel
set_option maxRecDepth 100000 in
theorem e_27_62 : xlk xFL (xmo 27) 62 = some (4, 5, false, 86) := by decide +kernel
set_option maxRecDepth 100000 in
theorem e_27_25 : xlk xFL (xmo 27) 25 = some (4, 4, false, 85) := by decide +kernel
set_option maxRecDepth 100000 in
theorem mr_27 : xmr 27 = some .int := by decide +kernel
set_option maxRecDepth 100000 in
theorem lm_28 : xml 28 = 3 := by decide +kernel
set_option maxRecDepth 100000 in
theorem jl_28 : 28 < xMs.length := by decide +kernel
set_option maxRecDepth 100000 in
theorem mn_28 : xmn 28 = 2 := by decide +kernel
set_option maxRecDepth 100000 in
theorem h_28_31 : xlk xCL (xmo 28) 31 = some (20, 1, 542, 463, 464) := by decide +kernel
set_option maxRecDepth 100000 in
theorem mr_28 : xmr 28 = some .boolean := by decide +kernel
set_option maxRecDepth 100000 in
theorem e_28_37 : xlk xFL (xmo 28) 37 = some (1, 9, true, 380) := by decide +kernel
set_option maxRecDepth 100000 in
theorem e_28_41 : xlk xFL (xmo 28) 41 = some (1, 10, true, 383) := by decide +kernel
set_option maxRecDepth 100000 in
theorem h_28_44 : xlk xCL (xmo 28) 44 = some (31, 0, 543, 544, 0) := by decide +kernel
set_option maxRecDepth 100000 in
theorem e_28_18 : xlk xFL (xmo 28) 18 = some (4, 2, false, 83) := by decide +kernel
set_option maxRecDepth 100000 in
theorem e_28_48 : xlk xFL (xmo 28) 48 = some (1, 11, true, 386) := by decide +kernel
set_option maxRecDepth 100000 in
theorem e_28_9 : xlk xFL (xmo 28) 9 = some (4, 0, false, 81) := by decide +kernel
set_option maxRecDepth 100000 in
theorem lm_29 : xml 29 = 4 := by decide +kernel
set_option maxRecDepth 100000 in
theorem jl_29 : 29 < xMs.length := by decide +kernel
set_option maxRecDepth 100000 in
theorem mn_29 : xmn 29 = 3 := by decide +kernel
set_option maxRecDepth 100000 in
theorem h_29_65 : xlk xCL (xmo 29) 65 = some (28, 1, 576, 577, 578) := by decide +kernel
set_option maxRecDepth 100000 in
theorem mo_28 : xmo 28 = 4 := by decide +kernel
set_option maxRecDepth 100000 in
theorem e_29_15 : xlk xFL (xmo 29) 15 = some (4, 1, false, 82) := by decide +kernel
set_option maxRecDepth 100000 in
theorem e_29_37 : xlk xFL (xmo 29) 37 = some (1, 9, true, 380) := by decide +kernel
set_option maxRecDepth 100000 in
theorem e_29_41 : xlk xFL (xmo 29) 41 = some (1, 10, true, 383) := by decide +kernel
set_option maxRecDepth 100000 in
theorem h_29_44 : xlk xCL (xmo 29) 44 = some (31, 0, 543, 544, 0) := by decide +kernel
set_option maxRecDepth 100000 in
theorem mr_29 : xmr 29 = some .int := by decide +kernel
set_option maxRecDepth 100000 in
theorem lm_30 : xml 30 = 3 := by decide +kernel
set_option maxRecDepth 100000 in
theorem jl_30 : 30 < xMs.length := by decide +kernel
set_option maxRecDepth 100000 in
theorem mn_30 : xmn 30 = 2 := by decide +kernel
set_option maxRecDepth 100000 in
theorem h_30_65 : xlk xCL (xmo 30) 65 = some (28, 1, 576, 577, 578) := by decide +kernel
set_option maxRecDepth 100000 in
theorem e_30_15 : xlk xFL (xmo 30) 15 = some (4, 1, false, 82) := by decide +kernel
set_option maxRecDepth 100000 in
theorem e_30_37 : xlk xFL (xmo 30) 37 = some (1, 9, true, 380) := by decide +kernel
set_option maxRecDepth 100000 in
theorem e_30_41 : xlk xFL (xmo 30) 41 = some (1, 10, true, 383) := by decide +kernel
set_option maxRecDepth 100000 in
theorem h_30_44 : xlk xCL (xmo 30) 44 = some (31, 0, 543, 544, 0) := by decide +kernel
set_option maxRecDepth 100000 in
theorem h_30_69 : xlk xCL (xmo 30) 69 = some (19, 1, 633, 486, 487) := by decide +kernel
set_option maxRecDepth 100000 in
theorem mo_19 : xmo 19 = 1 := by decide +kernel
set_option maxRecDepth 100000 in
theorem mr_30 : xmr 30 = some .int := by decide +kernel
set_option maxRecDepth 100000 in
theorem lm_31 : xml 31 = 2 := by decide +kernel
set_option maxRecDepth 100000 in
theorem jl_31 : 31 < xMs.length := by decide +kernel
set_option maxRecDepth 100000 in
theorem mr_31 : xmr 31 = some .int := by decide +kernel
set_option maxRecDepth 100000 in
theorem lm_32 : xml 32 = 2 := by decide +kernel
set_option maxRecDepth 100000 in
theorem jl_32 : 32 < xMs.length := by decide +kernel
set_option maxRecDepth 100000 in
theorem e_32_9 : xlk xFL (xmo 32) 9 = some (4, 0, false, 81) := by decide +kernel
set_option maxRecDepth 100000 in
theorem e_32_15 : xlk xFL (xmo 32) 15 = some (4, 1, false, 82) := by decide +kernel
set_option maxRecDepth 100000 in
theorem e_32_18 : xlk xFL (xmo 32) 18 = some (4, 2, false, 83) := by decide +kernel
set_option maxRecDepth 100000 in
theorem e_32_62 : xlk xFL (xmo 32) 62 = some (4, 5, false, 86) := by decide +kernel
set_option maxRecDepth 100000 in
theorem mr_32 : xmr 32 = none := by decide +kernel
set_option maxRecDepth 100000 in
theorem lm_33 : xml 33 = 3 := by decide +kernel
set_option maxRecDepth 100000 in
theorem jl_33 : 33 < xMs.length := by decide +kernel
set_option maxRecDepth 100000 in
theorem e_33_9 : xlk xFL (xmo 33) 9 = some (4, 0, false, 81) := by decide +kernel
set_option maxRecDepth 100000 in
theorem e_33_15 : xlk xFL (xmo 33) 15 = some (4, 1, false, 82) := by decide +kernel
set_option maxRecDepth 100000 in
theorem mr_33 : xmr 33 = none := by decide +kernel
set_option maxRecDepth 100000 in
theorem lm_34 : xml 34 = 6 := by decide +kernel
set_option maxRecDepth 100000 in
theorem jl_34 : 34 < xMs.length := by decide +kernel
set_option maxRecDepth 100000 in
theorem e_34_22 : xlk xFL (xmo 34) 22 = some (4, 3, false, 84) := by decide +kernel
set_option maxRecDepth 100000 in
theorem k_34_73 : xlk xIC (xmo 34) 73 = some ((1000000 : Int32), 554) := by decide +kernel
set_option maxRecDepth 100000 in
theorem h_34_74 : xlk xCL (xmo 34) 74 = some (35, 1, 555, 557, 8) := by decide +kernel
set_option maxRecDepth 100000 in
theorem mn_35 : xmn 35 = 2 := by decide +kernel
set_option maxRecDepth 100000 in
theorem mo_35 : xmo 35 = 4 := by decide +kernel
set_option maxRecDepth 100000 in
theorem mr_34 : xmr 34 = none := by decide +kernel
set_option maxRecDepth 100000 in
theorem lm_35 : xml 35 = 4 := by decide +kernel
set_option maxRecDepth 100000 in
theorem jl_35 : 35 < xMs.length := by decide +kernel
set_option maxRecDepth 100000 in
theorem k_35_73 : xlk xIC (xmo 35) 73 = some ((1000000 : Int32), 554) := by decide +kernel
set_option maxRecDepth 100000 in
theorem h_35_78 : xlk xCL (xmo 35) 78 = some (36, 1, 559, 561, 9) := by decide +kernel
set_option maxRecDepth 100000 in
theorem mn_36 : xmn 36 = 3 := by decide +kernel
set_option maxRecDepth 100000 in
theorem mo_36 : xmo 36 = 4 := by decide +kernel
set_option maxRecDepth 100000 in
theorem h_35_81 : xlk xCL (xmo 35) 81 = some (159, 0, 563, 505, 0) := by decide +kernel
set_option maxRecDepth 100000 in
theorem mn_159 : xmn 159 = 2 := by decide +kernel
set_option maxRecDepth 100000 in
theorem mr_35 : xmr 35 = some .int := by decide +kernel
set_option maxRecDepth 100000 in
theorem lm_36 : xml 36 = 4 := by decide +kernel
set_option maxRecDepth 100000 in
theorem jl_36 : 36 < xMs.length := by decide +kernel
set_option maxRecDepth 100000 in
theorem e_36_9 : xlk xFL (xmo 36) 9 = some (4, 0, false, 81) := by decide +kernel
set_option maxRecDepth 100000 in
theorem h_36_44 : xlk xCL (xmo 36) 44 = some (31, 0, 543, 544, 0) := by decide +kernel
set_option maxRecDepth 100000 in
theorem e_36_22 : xlk xFL (xmo 36) 22 = some (4, 3, false, 84) := by decide +kernel
set_option maxRecDepth 100000 in
theorem k_36_73 : xlk xIC (xmo 36) 73 = some ((1000000 : Int32), 554) := by decide +kernel
set_option maxRecDepth 100000 in
theorem mr_36 : xmr 36 = some .int := by decide +kernel
set_option maxRecDepth 100000 in
theorem lm_37 : xml 37 = 6 := by decide +kernel
set_option maxRecDepth 100000 in
theorem jl_37 : 37 < xMs.length := by decide +kernel
set_option maxRecDepth 100000 in
theorem e_37_22 : xlk xFL (xmo 37) 22 = some (4, 3, false, 84) := by decide +kernel
set_option maxRecDepth 100000 in
theorem k_37_73 : xlk xIC (xmo 37) 73 = some ((1000000 : Int32), 554) := by decide +kernel
set_option maxRecDepth 100000 in
theorem mr_37 : xmr 37 = none := by decide +kernel
set_option maxRecDepth 100000 in
theorem e_37_25 : xlk xFL (xmo 37) 25 = some (4, 4, false, 85) := by decide +kernel
set_option maxRecDepth 100000 in
theorem e_37_62 : xlk xFL (xmo 37) 62 = some (4, 5, false, 86) := by decide +kernel
set_option maxRecDepth 100000 in
theorem h_37_86 : xlk xCL (xmo 37) 86 = some (38, 1, 568, 570, 11) := by decide +kernel
set_option maxRecDepth 100000 in
theorem mn_38 : xmn 38 = 2 := by decide +kernel
set_option maxRecDepth 100000 in
theorem mo_38 : xmo 38 = 4 := by decide +kernel
set_option maxRecDepth 100000 in
theorem e_37_18 : xlk xFL (xmo 37) 18 = some (4, 2, false, 83) := by decide +kernel
set_option maxRecDepth 100000 in
theorem h_37_44 : xlk xCL (xmo 37) 44 = some (31, 0, 543, 544, 0) := by decide +kernel
set_option maxRecDepth 100000 in
theorem lm_38 : xml 38 = 3 := by decide +kernel
set_option maxRecDepth 100000 in
theorem jl_38 : 38 < xMs.length := by decide +kernel
set_option maxRecDepth 100000 in
theorem h_38_78 : xlk xCL (xmo 38) 78 = some (36, 1, 559, 561, 9) := by decide +kernel
set_option maxRecDepth 100000 in
theorem e_38_22 : xlk xFL (xmo 38) 22 = some (4, 3, false, 84) := by decide +kernel
set_option maxRecDepth 100000 in
theorem mr_38 : xmr 38 = some .int := by decide +kernel
set_option maxRecDepth 100000 in
theorem lm_39 : xml 39 = 1 := by decide +kernel
set_option maxRecDepth 100000 in
theorem jl_39 : 39 < xMs.length := by decide +kernel
set_option maxRecDepth 100000 in
theorem mn_39 : xmn 39 = 1 := by decide +kernel
set_option maxRecDepth 100000 in
theorem r_39_3 : xlk xCL (xmo 39) 3 = none := by decide +kernel
set_option maxRecDepth 100000 in
theorem t_39_3 : xlk xOL (xmo 39) 3 = some 128 := by decide +kernel
set_option maxRecDepth 100000 in
theorem e_39_9 : xlk xFL (xmo 39) 9 = some (3, 0, false, 129) := by decide +kernel
set_option maxRecDepth 100000 in
theorem n_39 : (xmy 39).name = "<init>" ∧ xmo 39 = 3 ∧ false = false := by decide +kernel
set_option maxRecDepth 100000 in
theorem e_39_15 : xlk xFL (xmo 39) 15 = some (3, 1, false, 132) := by decide +kernel
set_option maxRecDepth 100000 in
theorem mr_39 : xmr 39 = none := by decide +kernel
set_option maxRecDepth 100000 in
theorem lm_40 : xml 40 = 1 := by decide +kernel
set_option maxRecDepth 100000 in
theorem jl_40 : 40 < xMs.length := by decide +kernel
set_option maxRecDepth 100000 in
theorem mn_40 : xmn 40 = 1 := by decide +kernel
set_option maxRecDepth 100000 in
theorem r_40_3 : xlk xCL (xmo 40) 3 = none := by decide +kernel
set_option maxRecDepth 100000 in
theorem t_40_3 : xlk xOL (xmo 40) 3 = some 145 := by decide +kernel
set_option maxRecDepth 100000 in
theorem e_40_9 : xlk xFL (xmo 40) 9 = some (5, 0, false, 146) := by decide +kernel
set_option maxRecDepth 100000 in
theorem n_40 : (xmy 40).name = "<init>" ∧ xmo 40 = 5 ∧ false = false := by decide +kernel
set_option maxRecDepth 100000 in
theorem e_40_15 : xlk xFL (xmo 40) 15 = some (5, 1, false, 147) := by decide +kernel
set_option maxRecDepth 100000 in
theorem mr_40 : xmr 40 = none := by decide +kernel
set_option maxRecDepth 100000 in
theorem lm_41 : xml 41 = 4 := by decide +kernel
set_option maxRecDepth 100000 in
theorem jl_41 : 41 < xMs.length := by decide +kernel
set_option maxRecDepth 100000 in
theorem mn_41 : xmn 41 = 3 := by decide +kernel
set_option maxRecDepth 100000 in
theorem e_41_9 : xlk xFL (xmo 41) 9 = some (5, 0, false, 146) := by decide +kernel
set_option maxRecDepth 100000 in
theorem e_41_18 : xlk xFL (xmo 41) 18 = some (3, 0, true, 130) := by decide +kernel
set_option maxRecDepth 100000 in
theorem e_41_23 : xlk xFL (xmo 41) 23 = some (3, 1, true, 133) := by decide +kernel
set_option maxRecDepth 100000 in
theorem e_41_26 : xlk xFL (xmo 41) 26 = some (2, 0, true, 110) := by decide +kernel
set_option maxRecDepth 100000 in
theorem mr_41 : xmr 41 = none := by decide +kernel
set_option maxRecDepth 100000 in
theorem lm_42 : xml 42 = 3 := by decide +kernel
set_option maxRecDepth 100000 in
theorem jl_42 : 42 < xMs.length := by decide +kernel
set_option maxRecDepth 100000 in
theorem mn_42 : xmn 42 = 3 := by decide +kernel
set_option maxRecDepth 100000 in
theorem e_42_9 : xlk xFL (xmo 42) 9 = some (5, 0, false, 146) := by decide +kernel
set_option maxRecDepth 100000 in
theorem h_42_29 : xlk xCL (xmo 42) 29 = some (158, 0, 713, 490, 0) := by decide +kernel
set_option maxRecDepth 100000 in
theorem mr_42 : xmr 42 = some .int := by decide +kernel
set_option maxRecDepth 100000 in
theorem lm_43 : xml 43 = 7 := by decide +kernel
set_option maxRecDepth 100000 in
theorem jl_43 : 43 < xMs.length := by decide +kernel
set_option maxRecDepth 100000 in
theorem mn_43 : xmn 43 = 2 := by decide +kernel
set_option maxRecDepth 100000 in
theorem e_43_9 : xlk xFL (xmo 43) 9 = some (5, 0, false, 146) := by decide +kernel
set_option maxRecDepth 100000 in
theorem h_43_35 : xlk xCL (xmo 43) 35 = some (159, 0, 704, 505, 0) := by decide +kernel
set_option maxRecDepth 100000 in
theorem h_43_38 : xlk xCL (xmo 43) 38 = some (47, 1, 705, 707, 18) := by decide +kernel
set_option maxRecDepth 100000 in
theorem mn_47 : xmn 47 = 2 := by decide +kernel
set_option maxRecDepth 100000 in
theorem mo_47 : xmo 47 = 5 := by decide +kernel
set_option maxRecDepth 100000 in
theorem mr_43 : xmr 43 = some .int := by decide +kernel
set_option maxRecDepth 100000 in
theorem lm_44 : xml 44 = 6 := by decide +kernel
set_option maxRecDepth 100000 in
theorem jl_44 : 44 < xMs.length := by decide +kernel
set_option maxRecDepth 100000 in
theorem mn_44 : xmn 44 = 2 := by decide +kernel
set_option maxRecDepth 100000 in
theorem h_44_42 : xlk xCL (xmo 44) 42 = some (48, 1, 725, 727, 19) := by decide +kernel
set_option maxRecDepth 100000 in
theorem mn_48 : xmn 48 = 1 := by decide +kernel
set_option maxRecDepth 100000 in
theorem mo_48 : xmo 48 = 5 := by decide +kernel
set_option maxRecDepth 100000 in
theorem e_44_15 : xlk xFL (xmo 44) 15 = some (5, 1, false, 147) := by decide +kernel
set_option maxRecDepth 100000 in
theorem h_44_45 : xlk xCL (xmo 44) 45 = some (157, 0, 729, 730, 0) := by decide +kernel
set_option maxRecDepth 100000 in
theorem mn_157 : xmn 157 = 2 := by decide +kernel
set_option maxRecDepth 100000 in
theorem mr_44 : xmr 44 = some .int := by decide +kernel
set_option maxRecDepth 100000 in
theorem lm_45 : xml 45 = 4 := by decide +kernel
set_option maxRecDepth 100000 in
theorem jl_45 : 45 < xMs.length := by decide +kernel
set_option maxRecDepth 100000 in
theorem mn_45 : xmn 45 = 2 := by decide +kernel
set_option maxRecDepth 100000 in
theorem h_45_48 : xlk xCL (xmo 45) 48 = some (42, 1, 709, 710, 711) := by decide +kernel
set_option maxRecDepth 100000 in
theorem mo_42 : xmo 42 = 5 := by decide +kernel
set_option maxRecDepth 100000 in
theorem h_45_51 : xlk xCL (xmo 45) 51 = some (46, 1, 751, 753, 20) := by decide +kernel
set_option maxRecDepth 100000 in
theorem mn_46 : xmn 46 = 4 := by decide +kernel
set_option maxRecDepth 100000 in
theorem mo_46 : xmo 46 = 5 := by decide +kernel
set_option maxRecDepth 100000 in
theorem mr_45 : xmr 45 = some .int := by decide +kernel
set_option maxRecDepth 100000 in
theorem lm_46 : xml 46 = 5 := by decide +kernel
set_option maxRecDepth 100000 in
theorem jl_46 : 46 < xMs.length := by decide +kernel
set_option maxRecDepth 100000 in
theorem h_46_48 : xlk xCL (xmo 46) 48 = some (42, 1, 709, 710, 711) := by decide +kernel
set_option maxRecDepth 100000 in
theorem mr_46 : xmr 46 = some .boolean := by decide +kernel
set_option maxRecDepth 100000 in
theorem lm_47 : xml 47 = 4 := by decide +kernel
set_option maxRecDepth 100000 in
theorem jl_47 : 47 < xMs.length := by decide +kernel
set_option maxRecDepth 100000 in
theorem h_47_48 : xlk xCL (xmo 47) 48 = some (42, 1, 709, 710, 711) := by decide +kernel
set_option maxRecDepth 100000 in
theorem mr_47 : xmr 47 = some .int := by decide +kernel
set_option maxRecDepth 100000 in
theorem lm_48 : xml 48 = 4 := by decide +kernel
set_option maxRecDepth 100000 in
theorem jl_48 : 48 < xMs.length := by decide +kernel
set_option maxRecDepth 100000 in
theorem e_48_9 : xlk xFL (xmo 48) 9 = some (5, 0, false, 146) := by decide +kernel
set_option maxRecDepth 100000 in
theorem e_48_15 : xlk xFL (xmo 48) 15 = some (5, 1, false, 147) := by decide +kernel
set_option maxRecDepth 100000 in
theorem mr_48 : xmr 48 = none := by decide +kernel
set_option maxRecDepth 100000 in
theorem lm_49 : xml 49 = 2 := by decide +kernel
set_option maxRecDepth 100000 in
theorem jl_49 : 49 < xMs.length := by decide +kernel
set_option maxRecDepth 100000 in
theorem mn_49 : xmn 49 = 1 := by decide +kernel
set_option maxRecDepth 100000 in
theorem r_49_1 : xlk xCL (xmo 49) 1 = none := by decide +kernel
set_option maxRecDepth 100000 in
theorem t_49_1 : xlk xOL (xmo 49) 1 = some 68 := by decide +kernel
set_option maxRecDepth 100000 in
theorem q_49_9 : xlk xKL (xmo 49) 9 = some (0, 71) := by decide +kernel
set_option maxRecDepth 100000 in
theorem e_49_11 : xlk xFL (xmo 49) 11 = some (6, 0, false, 153) := by decide +kernel
set_option maxRecDepth 100000 in
theorem n_49 : (xmy 49).name = "<init>" ∧ xmo 49 = 6 ∧ false = false := by decide +kernel
set_option maxRecDepth 100000 in
theorem q_49_15 : xlk xKL (xmo 49) 15 = some (1, 73) := by decide +kernel
set_option maxRecDepth 100000 in
theorem e_49_17 : xlk xFL (xmo 49) 17 = some (6, 2, false, 155) := by decide +kernel
set_option maxRecDepth 100000 in
theorem q_49_21 : xlk xKL (xmo 49) 21 = some (4, 75) := by decide +kernel
set_option maxRecDepth 100000 in
theorem h_49_23 : xlk xCL (xmo 49) 23 = some (24, 2, 77, 78, 0) := by decide +kernel
set_option maxRecDepth 100000 in
theorem mo_24 : xmo 24 = 4 := by decide +kernel
set_option maxRecDepth 100000 in
theorem e_49_24 : xlk xFL (xmo 49) 24 = some (6, 4, false, 157) := by decide +kernel
set_option maxRecDepth 100000 in
theorem q_49_28 : xlk xKL (xmo 49) 28 = some (2, 102) := by decide +kernel
set_option maxRecDepth 100000 in
theorem e_49_30 : xlk xFL (xmo 49) 30 = some (6, 5, false, 158) := by decide +kernel
set_option maxRecDepth 100000 in
theorem h_49_34 : xlk xCL (xmo 49) 34 = some (10, 2, 105, 106, 0) := by decide +kernel
set_option maxRecDepth 100000 in
theorem mo_10 : xmo 10 = 2 := by decide +kernel
set_option maxRecDepth 100000 in
theorem q_49_35 : xlk xKL (xmo 49) 35 = some (3, 122) := by decide +kernel
set_option maxRecDepth 100000 in
theorem e_49_37 : xlk xFL (xmo 49) 37 = some (6, 6, false, 159) := by decide +kernel
set_option maxRecDepth 100000 in
theorem h_49_41 : xlk xCL (xmo 49) 41 = some (39, 2, 125, 126, 0) := by decide +kernel
set_option maxRecDepth 100000 in
theorem mo_39 : xmo 39 = 3 := by decide +kernel
set_option maxRecDepth 100000 in
theorem q_49_42 : xlk xKL (xmo 49) 42 = some (5, 140) := by decide +kernel
set_option maxRecDepth 100000 in
theorem h_49_44 : xlk xCL (xmo 49) 44 = some (40, 2, 142, 143, 0) := by decide +kernel
set_option maxRecDepth 100000 in
theorem mo_40 : xmo 40 = 5 := by decide +kernel
set_option maxRecDepth 100000 in
theorem e_49_45 : xlk xFL (xmo 49) 45 = some (6, 7, false, 160) := by decide +kernel
set_option maxRecDepth 100000 in
theorem mr_49 : xmr 49 = none := by decide +kernel
set_option maxRecDepth 100000 in
theorem lm_50 : xml 50 = 3 := by decide +kernel
set_option maxRecDepth 100000 in
theorem jl_50 : 50 < xMs.length := by decide +kernel
set_option maxRecDepth 100000 in
theorem mn_50 : xmn 50 = 2 := by decide +kernel
set_option maxRecDepth 100000 in
theorem h_50_49 : xlk xCL (xmo 50) 49 = some (88, 0, 194, 195, 0) := by decide +kernel
set_option maxRecDepth 100000 in
theorem mn_88 : xmn 88 = 3 := by decide +kernel
set_option maxRecDepth 100000 in
theorem e_50_53 : xlk xFL (xmo 50) 53 = some (6, 1, false, 154) := by decide +kernel
set_option maxRecDepth 100000 in
theorem q_50_57 : xlk xKL (xmo 50) 57 = some (9, 265) := by decide +kernel
set_option maxRecDepth 100000 in
theorem u_50_59 : xlk xSL (xmo 50) 59 = some "there are 8 hides" := by decide +kernel
set_option maxRecDepth 100000 in
theorem v_50_61 : xlk xIL (xmo 50) 61 = some 9 := by decide +kernel
set_option maxRecDepth 100000 in
theorem w_50 : xmh 50 = [] := by decide +kernel
set_option maxRecDepth 100000 in
theorem e_50_11 : xlk xFL (xmo 50) 11 = some (6, 0, false, 153) := by decide +kernel
set_option maxRecDepth 100000 in
theorem q_50_9 : xlk xKL (xmo 50) 9 = some (0, 71) := by decide +kernel
set_option maxRecDepth 100000 in
theorem h_50_64 : xlk xCL (xmo 50) 64 = some (0, 2, 282, 283, 0) := by decide +kernel
set_option maxRecDepth 100000 in
theorem mo_0 : xmo 0 = 0 := by decide +kernel
set_option maxRecDepth 100000 in
theorem mr_50 : xmr 50 = some .int := by decide +kernel
set_option maxRecDepth 100000 in
theorem lm_51 : xml 51 = 5 := by decide +kernel
set_option maxRecDepth 100000 in
theorem jl_51 : 51 < xMs.length := by decide +kernel
set_option maxRecDepth 100000 in
theorem mn_51 : xmn 51 = 4 := by decide +kernel
set_option maxRecDepth 100000 in
theorem h_51_67 : xlk xCL (xmo 51) 67 = some (83, 1, 301, 303, 1) := by decide +kernel
set_option maxRecDepth 100000 in
theorem mn_83 : xmn 83 = 2 := by decide +kernel
set_option maxRecDepth 100000 in
theorem mo_83 : xmo 83 = 6 := by decide +kernel
set_option maxRecDepth 100000 in
theorem h_51_71 : xlk xCL (xmo 51) 71 = some (87, 0, 321, 322, 0) := by decide +kernel
set_option maxRecDepth 100000 in
theorem mn_87 : xmn 87 = 2 := by decide +kernel
set_option maxRecDepth 100000 in
theorem h_51_75 : xlk xCL (xmo 51) 75 = some (1, 1, 325, 326, 327) := by decide +kernel
set_option maxRecDepth 100000 in
theorem mo_1 : xmo 1 = 0 := by decide +kernel
set_option maxRecDepth 100000 in
theorem h_51_79 : xlk xCL (xmo 51) 79 = some (2, 1, 329, 330, 331) := by decide +kernel
set_option maxRecDepth 100000 in
theorem mo_2 : xmo 2 = 0 := by decide +kernel
set_option maxRecDepth 100000 in
theorem mr_51 : xmr 51 = some .int := by decide +kernel
set_option maxRecDepth 100000 in
theorem lm_52 : xml 52 = 9 := by decide +kernel
set_option maxRecDepth 100000 in
theorem jl_52 : 52 < xMs.length := by decide +kernel
set_option maxRecDepth 100000 in
theorem mn_52 : xmn 52 = 7 := by decide +kernel
set_option maxRecDepth 100000 in
theorem h_52_67 : xlk xCL (xmo 52) 67 = some (83, 1, 301, 303, 1) := by decide +kernel
set_option maxRecDepth 100000 in
theorem h_52_71 : xlk xCL (xmo 52) 71 = some (87, 0, 321, 322, 0) := by decide +kernel
set_option maxRecDepth 100000 in
theorem h_52_49 : xlk xCL (xmo 52) 49 = some (88, 0, 194, 195, 0) := by decide +kernel
set_option maxRecDepth 100000 in
theorem h_52_83 : xlk xCL (xmo 52) 83 = some (4, 1, 340, 341, 342) := by decide +kernel
set_option maxRecDepth 100000 in
theorem q_52_57 : xlk xKL (xmo 52) 57 = some (9, 265) := by decide +kernel
set_option maxRecDepth 100000 in
theorem u_52_87 : xlk xSL (xmo 52) 87 = some "it cannot be cut there" := by decide +kernel
set_option maxRecDepth 100000 in
theorem v_52_61 : xlk xIL (xmo 52) 61 = some 9 := by decide +kernel
set_option maxRecDepth 100000 in
theorem w_52 : xmh 52 = [] := by decide +kernel
set_option maxRecDepth 100000 in
theorem e_52_89 : xlk xFL (xmo 52) 89 = some (6, 3, false, 156) := by decide +kernel
set_option maxRecDepth 100000 in
theorem u_52_92 : xlk xSL (xmo 52) 92 = some "there were 40 parts" := by decide +kernel
set_option maxRecDepth 100000 in
theorem e_52_17 : xlk xFL (xmo 52) 17 = some (6, 2, false, 155) := by decide +kernel
set_option maxRecDepth 100000 in
theorem q_52_15 : xlk xKL (xmo 52) 15 = some (1, 73) := by decide +kernel
set_option maxRecDepth 100000 in
theorem h_52_94 : xlk xCL (xmo 52) 94 = some (3, 1, 354, 355, 356) := by decide +kernel
set_option maxRecDepth 100000 in
theorem h_52_98 : xlk xCL (xmo 52) 98 = some (15, 2, 358, 359, 0) := by decide +kernel
set_option maxRecDepth 100000 in
theorem mo_15 : xmo 15 = 1 := by decide +kernel
set_option maxRecDepth 100000 in
theorem h_52_75 : xlk xCL (xmo 52) 75 = some (1, 1, 325, 326, 327) := by decide +kernel
set_option maxRecDepth 100000 in
theorem mr_52 : xmr 52 = some .int := by decide +kernel
set_option maxRecDepth 100000 in
theorem lm_53 : xml 53 = 7 := by decide +kernel
set_option maxRecDepth 100000 in
theorem jl_53 : 53 < xMs.length := by decide +kernel
set_option maxRecDepth 100000 in
theorem mn_53 : xmn 53 = 6 := by decide +kernel
set_option maxRecDepth 100000 in
theorem h_53_67 : xlk xCL (xmo 53) 67 = some (83, 1, 301, 303, 1) := by decide +kernel
set_option maxRecDepth 100000 in
theorem h_53_49 : xlk xCL (xmo 53) 49 = some (88, 0, 194, 195, 0) := by decide +kernel
set_option maxRecDepth 100000 in
theorem h_53_101 : xlk xCL (xmo 53) 101 = some (5, 1, 424, 425, 426) := by decide +kernel
set_option maxRecDepth 100000 in
theorem mo_5 : xmo 5 = 0 := by decide +kernel
set_option maxRecDepth 100000 in
theorem mr_53 : xmr 53 = some .int := by decide +kernel
set_option maxRecDepth 100000 in
theorem lm_54 : xml 54 = 5 := by decide +kernel
set_option maxRecDepth 100000 in
theorem jl_54 : 54 < xMs.length := by decide +kernel
set_option maxRecDepth 100000 in
theorem mn_54 : xmn 54 = 3 := by decide +kernel
set_option maxRecDepth 100000 in
theorem h_54_105 : xlk xCL (xmo 54) 105 = some (84, 1, 444, 446, 4) := by decide +kernel
set_option maxRecDepth 100000 in
theorem mn_84 : xmn 84 = 2 := by decide +kernel
set_option maxRecDepth 100000 in
theorem mo_84 : xmo 84 = 6 := by decide +kernel
set_option maxRecDepth 100000 in
theorem e_54_109 : xlk xFL (xmo 54) 109 = some (1, 5, true, 372) := by decide +kernel
set_option maxRecDepth 100000 in
theorem h_54_49 : xlk xCL (xmo 54) 49 = some (88, 0, 194, 195, 0) := by decide +kernel
set_option maxRecDepth 100000 in
theorem e_54_112 : xlk xFL (xmo 54) 112 = some (1, 8, true, 377) := by decide +kernel
set_option maxRecDepth 100000 in
theorem q_54_57 : xlk xKL (xmo 54) 57 = some (9, 265) := by decide +kernel
set_option maxRecDepth 100000 in
theorem u_54_115 : xlk xSL (xmo 54) 115 = some "it is in a seam" := by decide +kernel
set_option maxRecDepth 100000 in
theorem v_54_61 : xlk xIL (xmo 54) 61 = some 9 := by decide +kernel
set_option maxRecDepth 100000 in
theorem w_54 : xmh 54 = [] := by decide +kernel
set_option maxRecDepth 100000 in
theorem mr_54 : xmr 54 = some .int := by decide +kernel
set_option maxRecDepth 100000 in
theorem lm_55 : xml 55 = 4 := by decide +kernel
set_option maxRecDepth 100000 in
theorem jl_55 : 55 < xMs.length := by decide +kernel
set_option maxRecDepth 100000 in
theorem mn_55 : xmn 55 = 3 := by decide +kernel
set_option maxRecDepth 100000 in
theorem h_55_105 : xlk xCL (xmo 55) 105 = some (84, 1, 444, 446, 4) := by decide +kernel
set_option maxRecDepth 100000 in
theorem e_55_117 : xlk xFL (xmo 55) 117 = some (1, 0, true, 363) := by decide +kernel
set_option maxRecDepth 100000 in
theorem h_55_49 : xlk xCL (xmo 55) 49 = some (88, 0, 194, 195, 0) := by decide +kernel
set_option maxRecDepth 100000 in
theorem h_55_120 : xlk xCL (xmo 55) 120 = some (16, 1, 457, 458, 459) := by decide +kernel
set_option maxRecDepth 100000 in
theorem mo_16 : xmo 16 = 1 := by decide +kernel
set_option maxRecDepth 100000 in
theorem q_55_57 : xlk xKL (xmo 55) 57 = some (9, 265) := by decide +kernel
set_option maxRecDepth 100000 in
theorem u_55_124 : xlk xSL (xmo 55) 124 = some "it is too near to another hole" := by decide +kernel
set_option maxRecDepth 100000 in
theorem v_55_61 : xlk xIL (xmo 55) 61 = some 9 := by decide +kernel
set_option maxRecDepth 100000 in
theorem w_55 : xmh 55 = [] := by decide +kernel
set_option maxRecDepth 100000 in
theorem e_55_112 : xlk xFL (xmo 55) 112 = some (1, 8, true, 377) := by decide +kernel
set_option maxRecDepth 100000 in
theorem h_55_126 : xlk xCL (xmo 55) 126 = some (20, 1, 462, 463, 464) := by decide +kernel
set_option maxRecDepth 100000 in
theorem e_55_130 : xlk xFL (xmo 55) 130 = some (1, 12, true, 389) := by decide +kernel
set_option maxRecDepth 100000 in
theorem u_55_134 : xlk xSL (xmo 55) 134 = some "it is in a seam, buckled, or broke" := by decide +kernel
set_option maxRecDepth 100000 in
theorem h_55_136 : xlk xCL (xmo 55) 136 = some (17, 1, 467, 468, 469) := by decide +kernel
set_option maxRecDepth 100000 in
theorem mo_17 : xmo 17 = 1 := by decide +kernel
set_option maxRecDepth 100000 in
theorem mr_55 : xmr 55 = some .int := by decide +kernel
set_option maxRecDepth 100000 in
theorem lm_56 : xml 56 = 5 := by decide +kernel
set_option maxRecDepth 100000 in
theorem jl_56 : 56 < xMs.length := by decide +kernel
set_option maxRecDepth 100000 in
theorem mn_56 : xmn 56 = 3 := by decide +kernel
set_option maxRecDepth 100000 in
theorem h_56_105 : xlk xCL (xmo 56) 105 = some (84, 1, 444, 446, 4) := by decide +kernel
set_option maxRecDepth 100000 in
theorem e_56_140 : xlk xFL (xmo 56) 140 = some (1, 3, true, 369) := by decide +kernel
set_option maxRecDepth 100000 in
theorem e_56_117 : xlk xFL (xmo 56) 117 = some (1, 0, true, 363) := by decide +kernel
set_option maxRecDepth 100000 in
theorem e_56_143 : xlk xFL (xmo 56) 143 = some (1, 1, true, 365) := by decide +kernel
set_option maxRecDepth 100000 in
theorem e_56_109 : xlk xFL (xmo 56) 109 = some (1, 5, true, 372) := by decide +kernel
set_option maxRecDepth 100000 in
theorem e_56_146 : xlk xFL (xmo 56) 146 = some (1, 2, true, 367) := by decide +kernel
set_option maxRecDepth 100000 in
theorem mr_56 : xmr 56 = some .boolean := by decide +kernel
set_option maxRecDepth 100000 in
theorem lm_57 : xml 57 = 4 := by decide +kernel
set_option maxRecDepth 100000 in
theorem jl_57 : 57 < xMs.length := by decide +kernel
set_option maxRecDepth 100000 in
theorem mn_57 : xmn 57 = 3 := by decide +kernel
set_option maxRecDepth 100000 in
theorem h_57_105 : xlk xCL (xmo 57) 105 = some (84, 1, 444, 446, 4) := by decide +kernel
set_option maxRecDepth 100000 in
theorem h_57_49 : xlk xCL (xmo 57) 49 = some (88, 0, 194, 195, 0) := by decide +kernel
set_option maxRecDepth 100000 in
theorem e_57_117 : xlk xFL (xmo 57) 117 = some (1, 0, true, 363) := by decide +kernel
set_option maxRecDepth 100000 in
theorem mr_57 : xmr 57 = some .int := by decide +kernel
set_option maxRecDepth 100000 in
theorem e_57_143 : xlk xFL (xmo 57) 143 = some (1, 1, true, 365) := by decide +kernel
set_option maxRecDepth 100000 in
theorem e_57_109 : xlk xFL (xmo 57) 109 = some (1, 5, true, 372) := by decide +kernel
set_option maxRecDepth 100000 in
theorem e_57_146 : xlk xFL (xmo 57) 146 = some (1, 2, true, 367) := by decide +kernel
set_option maxRecDepth 100000 in
theorem e_57_149 : xlk xFL (xmo 57) 149 = some (1, 6, true, 374) := by decide +kernel
set_option maxRecDepth 100000 in
theorem e_57_152 : xlk xFL (xmo 57) 152 = some (1, 7, true, 376) := by decide +kernel
set_option maxRecDepth 100000 in
theorem h_57_155 : xlk xCL (xmo 57) 155 = some (19, 1, 485, 486, 487) := by decide +kernel
set_option maxRecDepth 100000 in
theorem e_57_158 : xlk xFL (xmo 57) 158 = some (1, 9, true, 381) := by decide +kernel
set_option maxRecDepth 100000 in
theorem e_57_161 : xlk xFL (xmo 57) 161 = some (1, 10, true, 384) := by decide +kernel
set_option maxRecDepth 100000 in
theorem e_57_164 : xlk xFL (xmo 57) 164 = some (1, 11, true, 387) := by decide +kernel
set_option maxRecDepth 100000 in
theorem e_57_130 : xlk xFL (xmo 57) 130 = some (1, 12, true, 389) := by decide +kernel
set_option maxRecDepth 100000 in
theorem lm_58 : xml 58 = 6 := by decide +kernel
set_option maxRecDepth 100000 in
theorem jl_58 : 58 < xMs.length := by decide +kernel
set_option maxRecDepth 100000 in
theorem mn_58 : xmn 58 = 5 := by decide +kernel
set_option maxRecDepth 100000 in
theorem h_58_105 : xlk xCL (xmo 58) 105 = some (84, 1, 444, 446, 4) := by decide +kernel
set_option maxRecDepth 100000 in
theorem h_58_71 : xlk xCL (xmo 58) 71 = some (87, 0, 321, 322, 0) := by decide +kernel
set_option maxRecDepth 100000 in
theorem e_58_149 : xlk xFL (xmo 58) 149 = some (1, 6, true, 374) := by decide +kernel
set_option maxRecDepth 100000 in
theorem h_58_167 : xlk xCL (xmo 58) 167 = some (89, 0, 499, 500, 0) := by decide +kernel
set_option maxRecDepth 100000 in
theorem mn_89 : xmn 89 = 2 := by decide +kernel
set_option maxRecDepth 100000 in
theorem e_58_140 : xlk xFL (xmo 58) 140 = some (1, 3, true, 369) := by decide +kernel
set_option maxRecDepth 100000 in
theorem h_58_126 : xlk xCL (xmo 58) 126 = some (20, 1, 462, 463, 464) := by decide +kernel
set_option maxRecDepth 100000 in
theorem e_58_130 : xlk xFL (xmo 58) 130 = some (1, 12, true, 389) := by decide +kernel
set_option maxRecDepth 100000 in
theorem q_58_57 : xlk xKL (xmo 58) 57 = some (9, 265) := by decide +kernel
set_option maxRecDepth 100000 in
theorem u_58_170 : xlk xSL (xmo 58) 170 = some "it is no strap, is buckled, or broke" := by decide +kernel
set_option maxRecDepth 100000 in
theorem v_58_61 : xlk xIL (xmo 58) 61 = some 9 := by decide +kernel
set_option maxRecDepth 100000 in
theorem w_58 : xmh 58 = [] := by decide +kernel
set_option maxRecDepth 100000 in
theorem h_58_172 : xlk xCL (xmo 58) 172 = some (159, 0, 504, 505, 0) := by decide +kernel
set_option maxRecDepth 100000 in
theorem e_58_158 : xlk xFL (xmo 58) 158 = some (1, 9, true, 381) := by decide +kernel
set_option maxRecDepth 100000 in
theorem h_58_177 : xlk xCL (xmo 58) 177 = some (158, 0, 507, 490, 0) := by decide +kernel
set_option maxRecDepth 100000 in
theorem e_58_161 : xlk xFL (xmo 58) 161 = some (1, 10, true, 384) := by decide +kernel
set_option maxRecDepth 100000 in
theorem h_58_180 : xlk xCL (xmo 58) 180 = some (18, 1, 508, 509, 510) := by decide +kernel
set_option maxRecDepth 100000 in
theorem mo_18 : xmo 18 = 1 := by decide +kernel
set_option maxRecDepth 100000 in
theorem e_58_164 : xlk xFL (xmo 58) 164 = some (1, 11, true, 387) := by decide +kernel
set_option maxRecDepth 100000 in
theorem mr_58 : xmr 58 = some .int := by decide +kernel
set_option maxRecDepth 100000 in
theorem lm_59 : xml 59 = 4 := by decide +kernel
set_option maxRecDepth 100000 in
theorem jl_59 : 59 < xMs.length := by decide +kernel
set_option maxRecDepth 100000 in
theorem mn_59 : xmn 59 = 2 := by decide +kernel
set_option maxRecDepth 100000 in
theorem h_59_105 : xlk xCL (xmo 59) 105 = some (84, 1, 444, 446, 4) := by decide +kernel
set_option maxRecDepth 100000 in
theorem h_59_126 : xlk xCL (xmo 59) 126 = some (20, 1, 462, 463, 464) := by decide +kernel
set_option maxRecDepth 100000 in
theorem q_59_57 : xlk xKL (xmo 59) 57 = some (9, 265) := by decide +kernel
set_option maxRecDepth 100000 in
theorem u_59_183 : xlk xSL (xmo 59) 183 = some "it is not buckled" := by decide +kernel
set_option maxRecDepth 100000 in
theorem v_59_61 : xlk xIL (xmo 59) 61 = some 9 := by decide +kernel
set_option maxRecDepth 100000 in
theorem w_59 : xmh 59 = [] := by decide +kernel
set_option maxRecDepth 100000 in
theorem e_59_164 : xlk xFL (xmo 59) 164 = some (1, 11, true, 387) := by decide +kernel
set_option maxRecDepth 100000 in
theorem h_59_185 : xlk xCL (xmo 59) 185 = some (22, 1, 520, 521, 522) := by decide +kernel
set_option maxRecDepth 100000 in
theorem mr_59 : xmr 59 = some .int := by decide +kernel
set_option maxRecDepth 100000 in
theorem lm_60 : xml 60 = 6 := by decide +kernel
set_option maxRecDepth 100000 in
theorem jl_60 : 60 < xMs.length := by decide +kernel
set_option maxRecDepth 100000 in
theorem mn_60 : xmn 60 = 5 := by decide +kernel
set_option maxRecDepth 100000 in
theorem h_60_105 : xlk xCL (xmo 60) 105 = some (84, 1, 444, 446, 4) := by decide +kernel
set_option maxRecDepth 100000 in
theorem h_60_188 : xlk xCL (xmo 60) 188 = some (90, 0, 531, 532, 0) := by decide +kernel
set_option maxRecDepth 100000 in
theorem mn_90 : xmn 90 = 2 := by decide +kernel
set_option maxRecDepth 100000 in
theorem h_60_49 : xlk xCL (xmo 60) 49 = some (88, 0, 194, 195, 0) := by decide +kernel
set_option maxRecDepth 100000 in
theorem e_60_24 : xlk xFL (xmo 60) 24 = some (6, 4, false, 157) := by decide +kernel
set_option maxRecDepth 100000 in
theorem e_60_17 : xlk xFL (xmo 60) 17 = some (6, 2, false, 155) := by decide +kernel
set_option maxRecDepth 100000 in
theorem h_60_191 : xlk xCL (xmo 60) 191 = some (25, 1, 534, 535, 536) := by decide +kernel
set_option maxRecDepth 100000 in
theorem mo_25 : xmo 25 = 4 := by decide +kernel
set_option maxRecDepth 100000 in
theorem h_60_195 : xlk xCL (xmo 60) 195 = some (29, 1, 572, 573, 574) := by decide +kernel
set_option maxRecDepth 100000 in
theorem mo_29 : xmo 29 = 4 := by decide +kernel
set_option maxRecDepth 100000 in
theorem mr_60 : xmr 60 = some .int := by decide +kernel
set_option maxRecDepth 100000 in
theorem lm_61 : xml 61 = 4 := by decide +kernel
set_option maxRecDepth 100000 in
theorem jl_61 : 61 < xMs.length := by decide +kernel
set_option maxRecDepth 100000 in
theorem mn_61 : xmn 61 = 4 := by decide +kernel
set_option maxRecDepth 100000 in
theorem h_61_71 : xlk xCL (xmo 61) 71 = some (87, 0, 321, 322, 0) := by decide +kernel
set_option maxRecDepth 100000 in
theorem q_61_199 : xlk xKL (xmo 61) 199 = some (10, 305) := by decide +kernel
set_option maxRecDepth 100000 in
theorem u_61_201 : xlk xSL (xmo 61) 201 = some "place is below 0" := by decide +kernel
set_option maxRecDepth 100000 in
theorem v_61_203 : xlk xIL (xmo 61) 203 = some 10 := by decide +kernel
set_option maxRecDepth 100000 in
theorem w_61 : xmh 61 = [] := by decide +kernel
set_option maxRecDepth 100000 in
theorem h_61_167 : xlk xCL (xmo 61) 167 = some (89, 0, 499, 500, 0) := by decide +kernel
set_option maxRecDepth 100000 in
theorem e_61_24 : xlk xFL (xmo 61) 24 = some (6, 4, false, 157) := by decide +kernel
set_option maxRecDepth 100000 in
theorem e_61_17 : xlk xFL (xmo 61) 17 = some (6, 2, false, 155) := by decide +kernel
set_option maxRecDepth 100000 in
theorem h_61_191 : xlk xCL (xmo 61) 191 = some (25, 1, 534, 535, 536) := by decide +kernel
set_option maxRecDepth 100000 in
theorem h_61_204 : xlk xCL (xmo 61) 204 = some (27, 1, 588, 589, 590) := by decide +kernel
set_option maxRecDepth 100000 in
theorem mo_27 : xmo 27 = 4 := by decide +kernel
set_option maxRecDepth 100000 in
theorem mr_61 : xmr 61 = some .int := by decide +kernel
set_option maxRecDepth 100000 in
theorem lm_62 : xml 62 = 5 := by decide +kernel
set_option maxRecDepth 100000 in
theorem jl_62 : 62 < xMs.length := by decide +kernel
set_option maxRecDepth 100000 in
theorem mn_62 : xmn 62 = 4 := by decide +kernel
set_option maxRecDepth 100000 in
theorem h_62_188 : xlk xCL (xmo 62) 188 = some (90, 0, 531, 532, 0) := by decide +kernel
set_option maxRecDepth 100000 in
theorem h_62_49 : xlk xCL (xmo 62) 49 = some (88, 0, 194, 195, 0) := by decide +kernel
set_option maxRecDepth 100000 in
theorem e_62_24 : xlk xFL (xmo 62) 24 = some (6, 4, false, 157) := by decide +kernel
set_option maxRecDepth 100000 in
theorem e_62_17 : xlk xFL (xmo 62) 17 = some (6, 2, false, 155) := by decide +kernel
set_option maxRecDepth 100000 in
theorem h_62_191 : xlk xCL (xmo 62) 191 = some (25, 1, 534, 535, 536) := by decide +kernel
set_option maxRecDepth 100000 in
theorem h_62_207 : xlk xCL (xmo 62) 207 = some (26, 1, 599, 600, 601) := by decide +kernel
set_option maxRecDepth 100000 in
theorem mo_26 : xmo 26 = 4 := by decide +kernel
set_option maxRecDepth 100000 in
theorem q_62_57 : xlk xKL (xmo 62) 57 = some (9, 265) := by decide +kernel
set_option maxRecDepth 100000 in
theorem u_62_210 : xlk xSL (xmo 62) 210 = some "there is no way" := by decide +kernel
set_option maxRecDepth 100000 in
theorem v_62_61 : xlk xIL (xmo 62) 61 = some 9 := by decide +kernel
set_option maxRecDepth 100000 in
theorem w_62 : xmh 62 = [] := by decide +kernel
set_option maxRecDepth 100000 in
theorem h_62_212 : xlk xCL (xmo 62) 212 = some (79, 1, 604, 606, 12) := by decide +kernel
set_option maxRecDepth 100000 in
theorem mn_79 : xmn 79 = 4 := by decide +kernel
set_option maxRecDepth 100000 in
theorem mo_79 : xmo 79 = 6 := by decide +kernel
set_option maxRecDepth 100000 in
theorem h_62_216 : xlk xCL (xmo 62) 216 = some (81, 1, 617, 619, 14) := by decide +kernel
set_option maxRecDepth 100000 in
theorem mn_81 : xmn 81 = 2 := by decide +kernel
set_option maxRecDepth 100000 in
theorem mo_81 : xmo 81 = 6 := by decide +kernel
set_option maxRecDepth 100000 in
theorem mr_62 : xmr 62 = some .int := by decide +kernel
set_option maxRecDepth 100000 in
theorem lm_63 : xml 63 = 6 := by decide +kernel
set_option maxRecDepth 100000 in
theorem jl_63 : 63 < xMs.length := by decide +kernel
set_option maxRecDepth 100000 in
theorem mn_63 : xmn 63 = 3 := by decide +kernel
set_option maxRecDepth 100000 in
theorem h_63_188 : xlk xCL (xmo 63) 188 = some (90, 0, 531, 532, 0) := by decide +kernel
set_option maxRecDepth 100000 in
theorem e_63_24 : xlk xFL (xmo 63) 24 = some (6, 4, false, 157) := by decide +kernel
set_option maxRecDepth 100000 in
theorem e_63_17 : xlk xFL (xmo 63) 17 = some (6, 2, false, 155) := by decide +kernel
set_option maxRecDepth 100000 in
theorem h_63_191 : xlk xCL (xmo 63) 191 = some (25, 1, 534, 535, 536) := by decide +kernel
set_option maxRecDepth 100000 in
theorem h_63_207 : xlk xCL (xmo 63) 207 = some (26, 1, 599, 600, 601) := by decide +kernel
set_option maxRecDepth 100000 in
theorem mr_63 : xmr 63 = some .int := by decide +kernel
set_option maxRecDepth 100000 in
theorem e_63_89 : xlk xFL (xmo 63) 89 = some (6, 3, false, 156) := by decide +kernel
set_option maxRecDepth 100000 in
theorem h_63_219 : xlk xCL (xmo 63) 219 = some (28, 1, 628, 577, 578) := by decide +kernel
set_option maxRecDepth 100000 in
theorem h_63_223 : xlk xCL (xmo 63) 223 = some (30, 1, 629, 630, 631) := by decide +kernel
set_option maxRecDepth 100000 in
theorem mo_30 : xmo 30 = 4 := by decide +kernel
set_option maxRecDepth 100000 in
theorem h_63_172 : xlk xCL (xmo 63) 172 = some (159, 0, 504, 505, 0) := by decide +kernel
set_option maxRecDepth 100000 in
theorem lm_64 : xml 64 = 3 := by decide +kernel
set_option maxRecDepth 100000 in
theorem jl_64 : 64 < xMs.length := by decide +kernel
set_option maxRecDepth 100000 in
theorem mn_64 : xmn 64 = 2 := by decide +kernel
set_option maxRecDepth 100000 in
theorem h_64_105 : xlk xCL (xmo 64) 105 = some (84, 1, 444, 446, 4) := by decide +kernel
set_option maxRecDepth 100000 in
theorem e_64_152 : xlk xFL (xmo 64) 152 = some (1, 7, true, 376) := by decide +kernel
set_option maxRecDepth 100000 in
theorem mr_64 : xmr 64 = some .int := by decide +kernel
set_option maxRecDepth 100000 in
theorem lm_65 : xml 65 = 11 := by decide +kernel
set_option maxRecDepth 100000 in
theorem jl_65 : 65 < xMs.length := by decide +kernel
set_option maxRecDepth 100000 in
theorem mn_65 : xmn 65 = 5 := by decide +kernel
set_option maxRecDepth 100000 in
theorem h_65_105 : xlk xCL (xmo 65) 105 = some (84, 1, 444, 446, 4) := by decide +kernel
set_option maxRecDepth 100000 in
theorem h_65_167 : xlk xCL (xmo 65) 167 = some (89, 0, 499, 500, 0) := by decide +kernel
set_option maxRecDepth 100000 in
theorem h_65_49 : xlk xCL (xmo 65) 49 = some (88, 0, 194, 195, 0) := by decide +kernel
set_option maxRecDepth 100000 in
theorem h_65_227 : xlk xCL (xmo 65) 227 = some (21, 1, 648, 649, 650) := by decide +kernel
set_option maxRecDepth 100000 in
theorem mo_21 : xmo 21 = 1 := by decide +kernel
set_option maxRecDepth 100000 in
theorem q_65_57 : xlk xKL (xmo 65) 57 = some (9, 265) := by decide +kernel
set_option maxRecDepth 100000 in
theorem u_65_230 : xlk xSL (xmo 65) 230 = some "one has 4 seams, is buckled, or broke" := by decide +kernel
set_option maxRecDepth 100000 in
theorem v_65_61 : xlk xIL (xmo 65) 61 = some 9 := by decide +kernel
set_option maxRecDepth 100000 in
theorem w_65 : xmh 65 = [] := by decide +kernel
set_option maxRecDepth 100000 in
theorem e_65_112 : xlk xFL (xmo 65) 112 = some (1, 8, true, 377) := by decide +kernel
set_option maxRecDepth 100000 in
theorem e_65_117 : xlk xFL (xmo 65) 117 = some (1, 0, true, 363) := by decide +kernel
set_option maxRecDepth 100000 in
theorem h_65_172 : xlk xCL (xmo 65) 172 = some (159, 0, 504, 505, 0) := by decide +kernel
set_option maxRecDepth 100000 in
theorem e_65_109 : xlk xFL (xmo 65) 109 = some (1, 5, true, 372) := by decide +kernel
set_option maxRecDepth 100000 in
theorem mr_65 : xmr 65 = some .int := by decide +kernel
set_option maxRecDepth 100000 in
theorem lm_66 : xml 66 = 6 := by decide +kernel
set_option maxRecDepth 100000 in
theorem jl_66 : 66 < xMs.length := by decide +kernel
set_option maxRecDepth 100000 in
theorem mn_66 : xmn 66 = 4 := by decide +kernel
set_option maxRecDepth 100000 in
theorem h_66_232 : xlk xCL (xmo 66) 232 = some (85, 1, 661, 663, 15) := by decide +kernel
set_option maxRecDepth 100000 in
theorem mn_85 : xmn 85 = 2 := by decide +kernel
set_option maxRecDepth 100000 in
theorem mo_85 : xmo 85 = 6 := by decide +kernel
set_option maxRecDepth 100000 in
theorem h_66_71 : xlk xCL (xmo 66) 71 = some (87, 0, 321, 322, 0) := by decide +kernel
set_option maxRecDepth 100000 in
theorem h_66_49 : xlk xCL (xmo 66) 49 = some (88, 0, 194, 195, 0) := by decide +kernel
set_option maxRecDepth 100000 in
theorem e_66_236 : xlk xFL (xmo 66) 236 = some (2, 0, true, 111) := by decide +kernel
set_option maxRecDepth 100000 in
theorem mr_66 : xmr 66 = some .int := by decide +kernel
set_option maxRecDepth 100000 in
theorem lm_67 : xml 67 = 6 := by decide +kernel
set_option maxRecDepth 100000 in
theorem jl_67 : 67 < xMs.length := by decide +kernel
set_option maxRecDepth 100000 in
theorem mn_67 : xmn 67 = 4 := by decide +kernel
set_option maxRecDepth 100000 in
theorem h_67_240 : xlk xCL (xmo 67) 240 = some (86, 1, 673, 675, 16) := by decide +kernel
set_option maxRecDepth 100000 in
theorem mn_86 : xmn 86 = 2 := by decide +kernel
set_option maxRecDepth 100000 in
theorem mo_86 : xmo 86 = 6 := by decide +kernel
set_option maxRecDepth 100000 in
theorem h_67_71 : xlk xCL (xmo 67) 71 = some (87, 0, 321, 322, 0) := by decide +kernel
set_option maxRecDepth 100000 in
theorem h_67_49 : xlk xCL (xmo 67) 49 = some (88, 0, 194, 195, 0) := by decide +kernel
set_option maxRecDepth 100000 in
theorem e_67_244 : xlk xFL (xmo 67) 244 = some (3, 0, true, 131) := by decide +kernel
set_option maxRecDepth 100000 in
theorem mr_67 : xmr 67 = some .int := by decide +kernel
set_option maxRecDepth 100000 in
theorem lm_68 : xml 68 = 6 := by decide +kernel
set_option maxRecDepth 100000 in
theorem jl_68 : 68 < xMs.length := by decide +kernel
set_option maxRecDepth 100000 in
theorem mn_68 : xmn 68 = 4 := by decide +kernel
set_option maxRecDepth 100000 in
theorem h_68_240 : xlk xCL (xmo 68) 240 = some (86, 1, 673, 675, 16) := by decide +kernel
set_option maxRecDepth 100000 in
theorem h_68_71 : xlk xCL (xmo 68) 71 = some (87, 0, 321, 322, 0) := by decide +kernel
set_option maxRecDepth 100000 in
theorem h_68_49 : xlk xCL (xmo 68) 49 = some (88, 0, 194, 195, 0) := by decide +kernel
set_option maxRecDepth 100000 in
theorem e_68_245 : xlk xFL (xmo 68) 245 = some (3, 1, true, 134) := by decide +kernel
set_option maxRecDepth 100000 in
theorem mr_68 : xmr 68 = some .int := by decide +kernel
set_option maxRecDepth 100000 in
theorem lm_69 : xml 69 = 4 := by decide +kernel
set_option maxRecDepth 100000 in
theorem jl_69 : 69 < xMs.length := by decide +kernel
set_option maxRecDepth 100000 in
theorem mn_69 : xmn 69 = 4 := by decide +kernel
set_option maxRecDepth 100000 in
theorem h_69_248 : xlk xCL (xmo 69) 248 = some (82, 1, 692, 694, 17) := by decide +kernel
set_option maxRecDepth 100000 in
theorem mn_82 : xmn 82 = 4 := by decide +kernel
set_option maxRecDepth 100000 in
theorem mo_82 : xmo 82 = 6 := by decide +kernel
set_option maxRecDepth 100000 in
theorem e_69_45 : xlk xFL (xmo 69) 45 = some (6, 7, false, 160) := by decide +kernel
set_option maxRecDepth 100000 in
theorem h_69_251 : xlk xCL (xmo 69) 251 = some (43, 1, 700, 701, 702) := by decide +kernel
set_option maxRecDepth 100000 in
theorem mo_43 : xmo 43 = 5 := by decide +kernel
set_option maxRecDepth 100000 in
theorem mr_69 : xmr 69 = some .int := by decide +kernel
set_option maxRecDepth 100000 in
theorem lm_70 : xml 70 = 4 := by decide +kernel
set_option maxRecDepth 100000 in
theorem jl_70 : 70 < xMs.length := by decide +kernel
set_option maxRecDepth 100000 in
theorem mn_70 : xmn 70 = 4 := by decide +kernel
set_option maxRecDepth 100000 in
theorem h_70_248 : xlk xCL (xmo 70) 248 = some (82, 1, 692, 694, 17) := by decide +kernel
set_option maxRecDepth 100000 in
theorem e_70_45 : xlk xFL (xmo 70) 45 = some (6, 7, false, 160) := by decide +kernel
set_option maxRecDepth 100000 in
theorem h_70_254 : xlk xCL (xmo 70) 254 = some (44, 1, 721, 722, 723) := by decide +kernel
set_option maxRecDepth 100000 in
theorem mo_44 : xmo 44 = 5 := by decide +kernel
set_option maxRecDepth 100000 in
theorem mr_70 : xmr 70 = some .int := by decide +kernel
set_option maxRecDepth 100000 in
theorem lm_71 : xml 71 = 5 := by decide +kernel
set_option maxRecDepth 100000 in
theorem jl_71 : 71 < xMs.length := by decide +kernel
set_option maxRecDepth 100000 in
theorem mn_71 : xmn 71 = 5 := by decide +kernel
set_option maxRecDepth 100000 in
theorem h_71_71 : xlk xCL (xmo 71) 71 = some (87, 0, 321, 322, 0) := by decide +kernel
set_option maxRecDepth 100000 in
theorem h_71_248 : xlk xCL (xmo 71) 248 = some (82, 1, 692, 694, 17) := by decide +kernel
set_option maxRecDepth 100000 in
theorem e_71_45 : xlk xFL (xmo 71) 45 = some (6, 7, false, 160) := by decide +kernel
set_option maxRecDepth 100000 in
theorem h_71_251 : xlk xCL (xmo 71) 251 = some (43, 1, 700, 701, 702) := by decide +kernel
set_option maxRecDepth 100000 in
theorem h_71_257 : xlk xCL (xmo 71) 257 = some (42, 1, 739, 710, 711) := by decide +kernel
set_option maxRecDepth 100000 in
theorem mr_71 : xmr 71 = some .int := by decide +kernel
set_option maxRecDepth 100000 in
theorem lm_72 : xml 72 = 4 := by decide +kernel
set_option maxRecDepth 100000 in
theorem jl_72 : 72 < xMs.length := by decide +kernel
set_option maxRecDepth 100000 in
theorem mn_72 : xmn 72 = 4 := by decide +kernel
set_option maxRecDepth 100000 in
theorem h_72_248 : xlk xCL (xmo 72) 248 = some (82, 1, 692, 694, 17) := by decide +kernel
set_option maxRecDepth 100000 in
theorem e_72_45 : xlk xFL (xmo 72) 45 = some (6, 7, false, 160) := by decide +kernel
set_option maxRecDepth 100000 in
theorem h_72_251 : xlk xCL (xmo 72) 251 = some (43, 1, 700, 701, 702) := by decide +kernel
set_option maxRecDepth 100000 in
theorem h_72_260 : xlk xCL (xmo 72) 260 = some (45, 1, 747, 748, 749) := by decide +kernel
set_option maxRecDepth 100000 in
theorem mo_45 : xmo 45 = 5 := by decide +kernel
set_option maxRecDepth 100000 in
theorem mr_72 : xmr 72 = some .int := by decide +kernel
set_option maxRecDepth 100000 in
theorem lm_73 : xml 73 = 14 := by decide +kernel
set_option maxRecDepth 100000 in
theorem jl_73 : 73 < xMs.length := by decide +kernel
set_option maxRecDepth 100000 in
theorem mn_73 : xmn 73 = 7 := by decide +kernel
set_option maxRecDepth 100000 in
theorem h_73_232 : xlk xCL (xmo 73) 232 = some (85, 1, 661, 663, 15) := by decide +kernel
set_option maxRecDepth 100000 in
theorem h_73_240 : xlk xCL (xmo 73) 240 = some (86, 1, 673, 675, 16) := by decide +kernel
set_option maxRecDepth 100000 in
theorem h_73_71 : xlk xCL (xmo 73) 71 = some (87, 0, 321, 322, 0) := by decide +kernel
set_option maxRecDepth 100000 in
theorem h_73_49 : xlk xCL (xmo 73) 49 = some (88, 0, 194, 195, 0) := by decide +kernel
set_option maxRecDepth 100000 in
theorem h_73_263 : xlk xCL (xmo 73) 263 = some (11, 1, 762, 763, 764) := by decide +kernel
set_option maxRecDepth 100000 in
theorem mo_11 : xmo 11 = 2 := by decide +kernel
set_option maxRecDepth 100000 in
theorem q_73_57 : xlk xKL (xmo 73) 57 = some (9, 265) := by decide +kernel
set_option maxRecDepth 100000 in
theorem u_73_266 : xlk xSL (xmo 73) 266 = some "the horse is lame" := by decide +kernel
set_option maxRecDepth 100000 in
theorem v_73_61 : xlk xIL (xmo 73) 61 = some 9 := by decide +kernel
set_option maxRecDepth 100000 in
theorem w_73 : xmh 73 = [] := by decide +kernel
set_option maxRecDepth 100000 in
theorem e_73_268 : xlk xFL (xmo 73) 268 = some (6, 8, false, 161) := by decide +kernel
set_option maxRecDepth 100000 in
theorem u_73_271 : xlk xSL (xmo 73) 271 = some "there were 60 rides" := by decide +kernel
set_option maxRecDepth 100000 in
theorem e_73_45 : xlk xFL (xmo 73) 45 = some (6, 7, false, 160) := by decide +kernel
set_option maxRecDepth 100000 in
theorem h_73_273 : xlk xCL (xmo 73) 273 = some (41, 1, 696, 697, 698) := by decide +kernel
set_option maxRecDepth 100000 in
theorem mo_41 : xmo 41 = 5 := by decide +kernel
set_option maxRecDepth 100000 in
theorem h_73_251 : xlk xCL (xmo 73) 251 = some (43, 1, 700, 701, 702) := by decide +kernel
set_option maxRecDepth 100000 in
theorem h_73_257 : xlk xCL (xmo 73) 257 = some (42, 1, 739, 710, 711) := by decide +kernel
set_option maxRecDepth 100000 in
theorem e_73_277 : xlk xFL (xmo 73) 277 = some (2, 1, true, 113) := by decide +kernel
set_option maxRecDepth 100000 in
theorem h_73_280 : xlk xCL (xmo 73) 280 = some (13, 1, 768, 769, 770) := by decide +kernel
set_option maxRecDepth 100000 in
theorem mo_13 : xmo 13 = 2 := by decide +kernel
set_option maxRecDepth 100000 in
theorem e_73_245 : xlk xFL (xmo 73) 245 = some (3, 1, true, 134) := by decide +kernel
set_option maxRecDepth 100000 in
theorem mr_73 : xmr 73 = some .int := by decide +kernel
set_option maxRecDepth 100000 in
theorem lm_74 : xml 74 = 7 := by decide +kernel
set_option maxRecDepth 100000 in
theorem jl_74 : 74 < xMs.length := by decide +kernel
set_option maxRecDepth 100000 in
theorem mn_74 : xmn 74 = 2 := by decide +kernel
set_option maxRecDepth 100000 in
theorem h_74_49 : xlk xCL (xmo 74) 49 = some (88, 0, 194, 195, 0) := by decide +kernel
set_option maxRecDepth 100000 in
theorem e_74_30 : xlk xFL (xmo 74) 30 = some (6, 5, false, 158) := by decide +kernel
set_option maxRecDepth 100000 in
theorem h_74_283 : xlk xCL (xmo 74) 283 = some (12, 1, 779, 780, 781) := by decide +kernel
set_option maxRecDepth 100000 in
theorem mo_12 : xmo 12 = 2 := by decide +kernel
set_option maxRecDepth 100000 in
theorem h_74_263 : xlk xCL (xmo 74) 263 = some (11, 1, 762, 763, 764) := by decide +kernel
set_option maxRecDepth 100000 in
theorem mr_74 : xmr 74 = some .int := by decide +kernel
set_option maxRecDepth 100000 in
theorem lm_75 : xml 75 = 5 := by decide +kernel
set_option maxRecDepth 100000 in
theorem jl_75 : 75 < xMs.length := by decide +kernel
set_option maxRecDepth 100000 in
theorem mn_75 : xmn 75 = 4 := by decide +kernel
set_option maxRecDepth 100000 in
theorem h_75_232 : xlk xCL (xmo 75) 232 = some (85, 1, 661, 663, 15) := by decide +kernel
set_option maxRecDepth 100000 in
theorem h_75_71 : xlk xCL (xmo 75) 71 = some (87, 0, 321, 322, 0) := by decide +kernel
set_option maxRecDepth 100000 in
theorem h_75_49 : xlk xCL (xmo 75) 49 = some (88, 0, 194, 195, 0) := by decide +kernel
set_option maxRecDepth 100000 in
theorem e_75_277 : xlk xFL (xmo 75) 277 = some (2, 1, true, 113) := by decide +kernel
set_option maxRecDepth 100000 in
theorem mr_75 : xmr 75 = some .int := by decide +kernel
set_option maxRecDepth 100000 in
theorem e_75_236 : xlk xFL (xmo 75) 236 = some (2, 0, true, 111) := by decide +kernel
set_option maxRecDepth 100000 in
theorem h_75_263 : xlk xCL (xmo 75) 263 = some (11, 1, 762, 763, 764) := by decide +kernel
set_option maxRecDepth 100000 in
theorem lm_76 : xml 76 = 6 := by decide +kernel
set_option maxRecDepth 100000 in
theorem jl_76 : 76 < xMs.length := by decide +kernel
set_option maxRecDepth 100000 in
theorem mn_76 : xmn 76 = 5 := by decide +kernel
set_option maxRecDepth 100000 in
theorem h_76_232 : xlk xCL (xmo 76) 232 = some (85, 1, 661, 663, 15) := by decide +kernel
set_option maxRecDepth 100000 in
theorem h_76_71 : xlk xCL (xmo 76) 71 = some (87, 0, 321, 322, 0) := by decide +kernel
set_option maxRecDepth 100000 in
theorem h_76_49 : xlk xCL (xmo 76) 49 = some (88, 0, 194, 195, 0) := by decide +kernel
set_option maxRecDepth 100000 in
theorem h_76_286 : xlk xCL (xmo 76) 286 = some (14, 1, 798, 799, 800) := by decide +kernel
set_option maxRecDepth 100000 in
theorem mo_14 : xmo 14 = 2 := by decide +kernel
set_option maxRecDepth 100000 in
theorem mr_76 : xmr 76 = some .int := by decide +kernel
set_option maxRecDepth 100000 in
theorem lm_77 : xml 77 = 9 := by decide +kernel
set_option maxRecDepth 100000 in
theorem jl_77 : 77 < xMs.length := by decide +kernel
set_option maxRecDepth 100000 in
theorem mn_77 : xmn 77 = 4 := by decide +kernel
set_option maxRecDepth 100000 in
theorem h_77_232 : xlk xCL (xmo 77) 232 = some (85, 1, 661, 663, 15) := by decide +kernel
set_option maxRecDepth 100000 in
theorem h_77_71 : xlk xCL (xmo 77) 71 = some (87, 0, 321, 322, 0) := by decide +kernel
set_option maxRecDepth 100000 in
theorem h_77_49 : xlk xCL (xmo 77) 49 = some (88, 0, 194, 195, 0) := by decide +kernel
set_option maxRecDepth 100000 in
theorem h_77_286 : xlk xCL (xmo 77) 286 = some (14, 1, 798, 799, 800) := by decide +kernel
set_option maxRecDepth 100000 in
theorem mr_77 : xmr 77 = some .int := by decide +kernel
set_option maxRecDepth 100000 in
theorem lm_78 : xml 78 = 1 := by decide +kernel
set_option maxRecDepth 100000 in
theorem jl_78 : 78 < xMs.length := by decide +kernel
set_option maxRecDepth 100000 in
theorem mn_78 : xmn 78 = 1 := by decide +kernel
set_option maxRecDepth 100000 in
theorem e_78_268 : xlk xFL (xmo 78) 268 = some (6, 8, false, 161) := by decide +kernel
set_option maxRecDepth 100000 in
theorem mr_78 : xmr 78 = some .int := by decide +kernel
set_option maxRecDepth 100000 in
theorem lm_79 : xml 79 = 7 := by decide +kernel
set_option maxRecDepth 100000 in
theorem jl_79 : 79 < xMs.length := by decide +kernel
set_option maxRecDepth 100000 in
theorem h_79_289 : xlk xCL (xmo 79) 289 = some (80, 1, 608, 610, 13) := by decide +kernel
set_option maxRecDepth 100000 in
theorem mn_80 : xmn 80 = 2 := by decide +kernel
set_option maxRecDepth 100000 in
theorem mo_80 : xmo 80 = 6 := by decide +kernel
set_option maxRecDepth 100000 in
theorem mr_79 : xmr 79 = some .int := by decide +kernel
set_option maxRecDepth 100000 in
theorem h_79_292 : xlk xCL (xmo 79) 292 = some (23, 1, 612, 613, 614) := by decide +kernel
set_option maxRecDepth 100000 in
theorem mo_23 : xmo 23 = 1 := by decide +kernel
set_option maxRecDepth 100000 in
theorem e_79_24 : xlk xFL (xmo 79) 24 = some (6, 4, false, 157) := by decide +kernel
set_option maxRecDepth 100000 in
theorem e_79_17 : xlk xFL (xmo 79) 17 = some (6, 2, false, 155) := by decide +kernel
set_option maxRecDepth 100000 in
theorem h_79_191 : xlk xCL (xmo 79) 191 = some (25, 1, 534, 535, 536) := by decide +kernel
set_option maxRecDepth 100000 in
theorem lm_80 : xml 80 = 4 := by decide +kernel
set_option maxRecDepth 100000 in
theorem jl_80 : 80 < xMs.length := by decide +kernel
set_option maxRecDepth 100000 in
theorem e_80_89 : xlk xFL (xmo 80) 89 = some (6, 3, false, 156) := by decide +kernel
set_option maxRecDepth 100000 in
theorem e_80_17 : xlk xFL (xmo 80) 17 = some (6, 2, false, 155) := by decide +kernel
set_option maxRecDepth 100000 in
theorem e_80_24 : xlk xFL (xmo 80) 24 = some (6, 4, false, 157) := by decide +kernel
set_option maxRecDepth 100000 in
theorem h_80_195 : xlk xCL (xmo 80) 195 = some (29, 1, 572, 573, 574) := by decide +kernel
set_option maxRecDepth 100000 in
theorem h_80_155 : xlk xCL (xmo 80) 155 = some (19, 1, 485, 486, 487) := by decide +kernel
set_option maxRecDepth 100000 in
theorem mr_80 : xmr 80 = some (.object "Saddletree$Part") := by decide +kernel
set_option maxRecDepth 100000 in
theorem lm_81 : xml 81 = 4 := by decide +kernel
set_option maxRecDepth 100000 in
theorem jl_81 : 81 < xMs.length := by decide +kernel
set_option maxRecDepth 100000 in
theorem e_81_89 : xlk xFL (xmo 81) 89 = some (6, 3, false, 156) := by decide +kernel
set_option maxRecDepth 100000 in
theorem e_81_17 : xlk xFL (xmo 81) 17 = some (6, 2, false, 155) := by decide +kernel
set_option maxRecDepth 100000 in
theorem e_81_152 : xlk xFL (xmo 81) 152 = some (1, 7, true, 376) := by decide +kernel
set_option maxRecDepth 100000 in
theorem e_81_24 : xlk xFL (xmo 81) 24 = some (6, 4, false, 157) := by decide +kernel
set_option maxRecDepth 100000 in
theorem h_81_195 : xlk xCL (xmo 81) 195 = some (29, 1, 572, 573, 574) := by decide +kernel
set_option maxRecDepth 100000 in
theorem mr_81 : xmr 81 = none := by decide +kernel
set_option maxRecDepth 100000 in
theorem lm_82 : xml 82 = 6 := by decide +kernel
set_option maxRecDepth 100000 in
theorem jl_82 : 82 < xMs.length := by decide +kernel
set_option maxRecDepth 100000 in
theorem h_82_232 : xlk xCL (xmo 82) 232 = some (85, 1, 661, 663, 15) := by decide +kernel
set_option maxRecDepth 100000 in
theorem h_82_240 : xlk xCL (xmo 82) 240 = some (86, 1, 673, 675, 16) := by decide +kernel
set_option maxRecDepth 100000 in
theorem h_82_49 : xlk xCL (xmo 82) 49 = some (88, 0, 194, 195, 0) := by decide +kernel
set_option maxRecDepth 100000 in
theorem e_82_45 : xlk xFL (xmo 82) 45 = some (6, 7, false, 160) := by decide +kernel
set_option maxRecDepth 100000 in
theorem h_82_273 : xlk xCL (xmo 82) 273 = some (41, 1, 696, 697, 698) := by decide +kernel
set_option maxRecDepth 100000 in
theorem mr_82 : xmr 82 = none := by decide +kernel
set_option maxRecDepth 100000 in
theorem lm_83 : xml 83 = 3 := by decide +kernel
set_option maxRecDepth 100000 in
theorem jl_83 : 83 < xMs.length := by decide +kernel
set_option maxRecDepth 100000 in
theorem e_83_11 : xlk xFL (xmo 83) 11 = some (6, 0, false, 153) := by decide +kernel
set_option maxRecDepth 100000 in
theorem q_83_199 : xlk xKL (xmo 83) 199 = some (10, 305) := by decide +kernel
set_option maxRecDepth 100000 in
theorem u_83_295 : xlk xSL (xmo 83) 295 = some "there is no such hide" := by decide +kernel
set_option maxRecDepth 100000 in
theorem v_83_203 : xlk xIL (xmo 83) 203 = some 10 := by decide +kernel
set_option maxRecDepth 100000 in
theorem w_83 : xmh 83 = [] := by decide +kernel
set_option maxRecDepth 100000 in
theorem mr_83 : xmr 83 = some (.object "Saddletree$Hide") := by decide +kernel
set_option maxRecDepth 100000 in
theorem lm_84 : xml 84 = 3 := by decide +kernel
set_option maxRecDepth 100000 in
theorem jl_84 : 84 < xMs.length := by decide +kernel
set_option maxRecDepth 100000 in
theorem e_84_17 : xlk xFL (xmo 84) 17 = some (6, 2, false, 155) := by decide +kernel
set_option maxRecDepth 100000 in
theorem q_84_199 : xlk xKL (xmo 84) 199 = some (10, 305) := by decide +kernel
set_option maxRecDepth 100000 in
theorem u_84_297 : xlk xSL (xmo 84) 297 = some "there is no such part" := by decide +kernel
set_option maxRecDepth 100000 in
theorem v_84_203 : xlk xIL (xmo 84) 203 = some 10 := by decide +kernel
set_option maxRecDepth 100000 in
theorem w_84 : xmh 84 = [] := by decide +kernel
set_option maxRecDepth 100000 in
theorem mr_84 : xmr 84 = some (.object "Saddletree$Part") := by decide +kernel
set_option maxRecDepth 100000 in
theorem lm_85 : xml 85 = 3 := by decide +kernel
set_option maxRecDepth 100000 in
theorem jl_85 : 85 < xMs.length := by decide +kernel
set_option maxRecDepth 100000 in
theorem e_85_30 : xlk xFL (xmo 85) 30 = some (6, 5, false, 158) := by decide +kernel
set_option maxRecDepth 100000 in
theorem q_85_199 : xlk xKL (xmo 85) 199 = some (10, 305) := by decide +kernel
set_option maxRecDepth 100000 in
theorem u_85_299 : xlk xSL (xmo 85) 299 = some "there is no such horse" := by decide +kernel
set_option maxRecDepth 100000 in
theorem v_85_203 : xlk xIL (xmo 85) 203 = some 10 := by decide +kernel
set_option maxRecDepth 100000 in
theorem w_85 : xmh 85 = [] := by decide +kernel
set_option maxRecDepth 100000 in
theorem mr_85 : xmr 85 = some (.object "Saddletree$Horse") := by decide +kernel
set_option maxRecDepth 100000 in
theorem lm_86 : xml 86 = 3 := by decide +kernel
set_option maxRecDepth 100000 in
theorem jl_86 : 86 < xMs.length := by decide +kernel
set_option maxRecDepth 100000 in
theorem e_86_37 : xlk xFL (xmo 86) 37 = some (6, 6, false, 159) := by decide +kernel
set_option maxRecDepth 100000 in
theorem q_86_199 : xlk xKL (xmo 86) 199 = some (10, 305) := by decide +kernel
set_option maxRecDepth 100000 in
theorem u_86_301 : xlk xSL (xmo 86) 301 = some "there is no such saddle" := by decide +kernel
set_option maxRecDepth 100000 in
theorem v_86_203 : xlk xIL (xmo 86) 203 = some 10 := by decide +kernel
set_option maxRecDepth 100000 in
theorem w_86 : xmh 86 = [] := by decide +kernel
set_option maxRecDepth 100000 in
theorem mr_86 : xmr 86 = some (.object "Saddletree$Saddle") := by decide +kernel
set_option maxRecDepth 100000 in
theorem lm_87 : xml 87 = 2 := by decide +kernel
set_option maxRecDepth 100000 in
theorem jl_87 : 87 < xMs.length := by decide +kernel
set_option maxRecDepth 100000 in
theorem q_87_199 : xlk xKL (xmo 87) 199 = some (10, 305) := by decide +kernel
set_option maxRecDepth 100000 in
theorem u_87_303 : xlk xSL (xmo 87) 303 = some "there is no such number" := by decide +kernel
set_option maxRecDepth 100000 in
theorem v_87_203 : xlk xIL (xmo 87) 203 = some 10 := by decide +kernel
set_option maxRecDepth 100000 in
theorem w_87 : xmh 87 = [] := by decide +kernel
set_option maxRecDepth 100000 in
theorem mr_87 : xmr 87 = none := by decide +kernel
set_option maxRecDepth 100000 in
theorem lm_88 : xml 88 = 3 := by decide +kernel
set_option maxRecDepth 100000 in
theorem jl_88 : 88 < xMs.length := by decide +kernel
set_option maxRecDepth 100000 in
theorem q_88_305 : xlk xKL (xmo 88) 305 = some (8, 197) := by decide +kernel
set_option maxRecDepth 100000 in
theorem u_88_307 : xlk xSL (xmo 88) 307 = some "out of range" := by decide +kernel
set_option maxRecDepth 100000 in
theorem v_88_309 : xlk xIL (xmo 88) 309 = some 8 := by decide +kernel
set_option maxRecDepth 100000 in
theorem w_88 : xmh 88 = [] := by decide +kernel
set_option maxRecDepth 100000 in
theorem mr_88 : xmr 88 = none := by decide +kernel
set_option maxRecDepth 100000 in
theorem lm_89 : xml 89 = 2 := by decide +kernel
set_option maxRecDepth 100000 in
theorem jl_89 : 89 < xMs.length := by decide +kernel
set_option maxRecDepth 100000 in
theorem q_89_305 : xlk xKL (xmo 89) 305 = some (8, 197) := by decide +kernel
set_option maxRecDepth 100000 in
theorem u_89_310 : xlk xSL (xmo 89) 310 = some "both are one" := by decide +kernel
set_option maxRecDepth 100000 in
theorem v_89_309 : xlk xIL (xmo 89) 309 = some 8 := by decide +kernel
set_option maxRecDepth 100000 in
theorem w_89 : xmh 89 = [] := by decide +kernel
set_option maxRecDepth 100000 in
theorem mr_89 : xmr 89 = none := by decide +kernel
set_option maxRecDepth 100000 in
theorem lm_90 : xml 90 = 2 := by decide +kernel
set_option maxRecDepth 100000 in
theorem jl_90 : 90 < xMs.length := by decide +kernel
set_option maxRecDepth 100000 in
theorem h_90_71 : xlk xCL (xmo 90) 71 = some (87, 0, 321, 322, 0) := by decide +kernel
set_option maxRecDepth 100000 in
theorem h_90_167 : xlk xCL (xmo 90) 167 = some (89, 0, 499, 500, 0) := by decide +kernel
set_option maxRecDepth 100000 in
theorem mr_90 : xmr 90 = none := by decide +kernel
set_option maxRecDepth 100000 in
theorem lm_91 : xml 91 = 1 := by decide +kernel
set_option maxRecDepth 100000 in
theorem jl_91 : 91 < xMs.length := by decide +kernel
set_option maxRecDepth 100000 in
theorem mn_91 : xmn 91 = 1 := by decide +kernel
set_option maxRecDepth 100000 in
theorem r_91_1 : xlk xCL (xmo 91) 1 = none := by decide +kernel
set_option maxRecDepth 100000 in
theorem t_91_1 : xlk xOL (xmo 91) 1 = some 814 := by decide +kernel
set_option maxRecDepth 100000 in
theorem e_91_7 : xlk xFL (xmo 91) 7 = some (7, 1, false, 816) := by decide +kernel
set_option maxRecDepth 100000 in
theorem n_91 : (xmy 91).name = "<init>" ∧ xmo 91 = 7 ∧ false = false := by decide +kernel
set_option maxRecDepth 100000 in
theorem e_91_13 : xlk xFL (xmo 91) 13 = some (7, 2, false, 817) := by decide +kernel
set_option maxRecDepth 100000 in
theorem e_91_16 : xlk xFL (xmo 91) 16 = some (7, 4, false, 819) := by decide +kernel
set_option maxRecDepth 100000 in
theorem e_91_19 : xlk xFL (xmo 91) 19 = some (7, 5, false, 820) := by decide +kernel
set_option maxRecDepth 100000 in
theorem e_91_22 : xlk xFL (xmo 91) 22 = some (7, 6, false, 821) := by decide +kernel
set_option maxRecDepth 100000 in
theorem e_91_25 : xlk xFL (xmo 91) 25 = some (7, 7, false, 822) := by decide +kernel
set_option maxRecDepth 100000 in
theorem e_91_28 : xlk xFL (xmo 91) 28 = some (7, 8, false, 823) := by decide +kernel
set_option maxRecDepth 100000 in
theorem e_91_32 : xlk xFL (xmo 91) 32 = some (7, 9, false, 824) := by decide +kernel
set_option maxRecDepth 100000 in
theorem e_91_36 : xlk xFL (xmo 91) 36 = some (7, 10, false, 825) := by decide +kernel
set_option maxRecDepth 100000 in
theorem e_91_39 : xlk xFL (xmo 91) 39 = some (7, 11, false, 826) := by decide +kernel
set_option maxRecDepth 100000 in
theorem e_91_42 : xlk xFL (xmo 91) 42 = some (7, 12, false, 827) := by decide +kernel
set_option maxRecDepth 100000 in
theorem e_91_45 : xlk xFL (xmo 91) 45 = some (7, 13, false, 828) := by decide +kernel
set_option maxRecDepth 100000 in
theorem e_91_48 : xlk xFL (xmo 91) 48 = some (7, 14, false, 829) := by decide +kernel
set_option maxRecDepth 100000 in
theorem e_91_51 : xlk xFL (xmo 91) 51 = some (7, 15, false, 830) := by decide +kernel
set_option maxRecDepth 100000 in
theorem e_91_54 : xlk xFL (xmo 91) 54 = some (7, 16, false, 831) := by decide +kernel
set_option maxRecDepth 100000 in
theorem e_91_57 : xlk xFL (xmo 91) 57 = some (7, 18, false, 833) := by decide +kernel
set_option maxRecDepth 100000 in
theorem e_91_60 : xlk xFL (xmo 91) 60 = some (7, 19, false, 834) := by decide +kernel
set_option maxRecDepth 100000 in
theorem e_91_63 : xlk xFL (xmo 91) 63 = some (7, 20, false, 835) := by decide +kernel
set_option maxRecDepth 100000 in
theorem e_91_66 : xlk xFL (xmo 91) 66 = some (7, 21, false, 836) := by decide +kernel
set_option maxRecDepth 100000 in
theorem e_91_69 : xlk xFL (xmo 91) 69 = some (7, 22, false, 837) := by decide +kernel
set_option maxRecDepth 100000 in
theorem e_91_72 : xlk xFL (xmo 91) 72 = some (7, 23, false, 838) := by decide +kernel
set_option maxRecDepth 100000 in
theorem e_91_75 : xlk xFL (xmo 91) 75 = some (7, 25, false, 840) := by decide +kernel
set_option maxRecDepth 100000 in
theorem e_91_78 : xlk xFL (xmo 91) 78 = some (7, 26, false, 841) := by decide +kernel
set_option maxRecDepth 100000 in
theorem e_91_81 : xlk xFL (xmo 91) 81 = some (7, 27, false, 842) := by decide +kernel
set_option maxRecDepth 100000 in
theorem mr_91 : xmr 91 = none := by decide +kernel
set_option maxRecDepth 100000 in
theorem lm_92 : xml 92 = 1 := by decide +kernel
set_option maxRecDepth 100000 in
theorem jl_92 : 92 < xMs.length := by decide +kernel
set_option maxRecDepth 100000 in
theorem mn_92 : xmn 92 = 1 := by decide +kernel
set_option maxRecDepth 100000 in
theorem e_92_84 : xlk xFL (xmo 92) 84 = some (7, 28, false, 843) := by decide +kernel
set_option maxRecDepth 100000 in
theorem mr_92 : xmr 92 = some .int := by decide +kernel
set_option maxRecDepth 100000 in
theorem lm_93 : xml 93 = 2 := by decide +kernel
set_option maxRecDepth 100000 in
theorem jl_93 : 93 < xMs.length := by decide +kernel
set_option maxRecDepth 100000 in
theorem mn_93 : xmn 93 = 2 := by decide +kernel
set_option maxRecDepth 100000 in
theorem e_93_84 : xlk xFL (xmo 93) 84 = some (7, 28, false, 843) := by decide +kernel
set_option maxRecDepth 100000 in
theorem mr_93 : xmr 93 = some .boolean := by decide +kernel
set_option maxRecDepth 100000 in
theorem lm_94 : xml 94 = 3 := by decide +kernel
set_option maxRecDepth 100000 in
theorem jl_94 : 94 < xMs.length := by decide +kernel
set_option maxRecDepth 100000 in
theorem mn_94 : xmn 94 = 3 := by decide +kernel
set_option maxRecDepth 100000 in
theorem mr_94 : xmr 94 = some .boolean := by decide +kernel
set_option maxRecDepth 100000 in
theorem lm_95 : xml 95 = 2 := by decide +kernel
set_option maxRecDepth 100000 in
theorem jl_95 : 95 < xMs.length := by decide +kernel
set_option maxRecDepth 100000 in
theorem mn_95 : xmn 95 = 2 := by decide +kernel
set_option maxRecDepth 100000 in
theorem e_95_88 : xlk xFL (xmo 95) 88 = some (7, 0, false, 815) := by decide +kernel
set_option maxRecDepth 100000 in
theorem h_95_91 : xlk xCL (xmo 95) 91 = some (94, 0, 912, 913, 0) := by decide +kernel
set_option maxRecDepth 100000 in
theorem mr_95 : xmr 95 = some .boolean := by decide +kernel
set_option maxRecDepth 100000 in
theorem lm_96 : xml 96 = 2 := by decide +kernel
set_option maxRecDepth 100000 in
theorem jl_96 : 96 < xMs.length := by decide +kernel
set_option maxRecDepth 100000 in
theorem mn_96 : xmn 96 = 2 := by decide +kernel
set_option maxRecDepth 100000 in
theorem e_96_95 : xlk xFL (xmo 96) 95 = some (7, 3, false, 818) := by decide +kernel
set_option maxRecDepth 100000 in
theorem h_96_91 : xlk xCL (xmo 96) 91 = some (94, 0, 912, 913, 0) := by decide +kernel
set_option maxRecDepth 100000 in
theorem mr_96 : xmr 96 = some .boolean := by decide +kernel
set_option maxRecDepth 100000 in
theorem lm_97 : xml 97 = 1 := by decide +kernel
set_option maxRecDepth 100000 in
theorem jl_97 : 97 < xMs.length := by decide +kernel
set_option maxRecDepth 100000 in
theorem mn_97 : xmn 97 = 1 := by decide +kernel
set_option maxRecDepth 100000 in
theorem h_97_91 : xlk xCL (xmo 97) 91 = some (94, 0, 912, 913, 0) := by decide +kernel
set_option maxRecDepth 100000 in
theorem mr_97 : xmr 97 = some .boolean := by decide +kernel
set_option maxRecDepth 100000 in
theorem lm_98 : xml 98 = 2 := by decide +kernel
set_option maxRecDepth 100000 in
theorem jl_98 : 98 < xMs.length := by decide +kernel
set_option maxRecDepth 100000 in
theorem mn_98 : xmn 98 = 2 := by decide +kernel
set_option maxRecDepth 100000 in
theorem h_98_91 : xlk xCL (xmo 98) 91 = some (94, 0, 912, 913, 0) := by decide +kernel
set_option maxRecDepth 100000 in
theorem mr_98 : xmr 98 = some .boolean := by decide +kernel
set_option maxRecDepth 100000 in
theorem lm_99 : xml 99 = 2 := by decide +kernel
set_option maxRecDepth 100000 in
theorem jl_99 : 99 < xMs.length := by decide +kernel
set_option maxRecDepth 100000 in
theorem mn_99 : xmn 99 = 2 := by decide +kernel
set_option maxRecDepth 100000 in
theorem h_99_91 : xlk xCL (xmo 99) 91 = some (94, 0, 912, 913, 0) := by decide +kernel
set_option maxRecDepth 100000 in
theorem e_99_88 : xlk xFL (xmo 99) 88 = some (7, 0, false, 815) := by decide +kernel
set_option maxRecDepth 100000 in
theorem h_99_98 : xlk xCL (xmo 99) 98 = some (93, 1, 915, 917, 21) := by decide +kernel
set_option maxRecDepth 100000 in
theorem mo_93 : xmo 93 = 7 := by decide +kernel
set_option maxRecDepth 100000 in
theorem mr_99 : xmr 99 = some .int := by decide +kernel
set_option maxRecDepth 100000 in
theorem e_99_7 : xlk xFL (xmo 99) 7 = some (7, 1, false, 816) := by decide +kernel
set_option maxRecDepth 100000 in
theorem lm_100 : xml 100 = 6 := by decide +kernel
set_option maxRecDepth 100000 in
theorem jl_100 : 100 < xMs.length := by decide +kernel
set_option maxRecDepth 100000 in
theorem mn_100 : xmn 100 = 4 := by decide +kernel
set_option maxRecDepth 100000 in
theorem h_100_102 : xlk xCL (xmo 100) 102 = some (95, 1, 923, 925, 22) := by decide +kernel
set_option maxRecDepth 100000 in
theorem mo_95 : xmo 95 = 7 := by decide +kernel
set_option maxRecDepth 100000 in
theorem h_100_105 : xlk xCL (xmo 100) 105 = some (98, 0, 927, 928, 0) := by decide +kernel
set_option maxRecDepth 100000 in
theorem h_100_98 : xlk xCL (xmo 100) 98 = some (93, 1, 915, 917, 21) := by decide +kernel
set_option maxRecDepth 100000 in
theorem mr_100 : xmr 100 = some .int := by decide +kernel
set_option maxRecDepth 100000 in
theorem e_100_13 : xlk xFL (xmo 100) 13 = some (7, 2, false, 817) := by decide +kernel
set_option maxRecDepth 100000 in
theorem lm_101 : xml 101 = 2 := by decide +kernel
set_option maxRecDepth 100000 in
theorem jl_101 : 101 < xMs.length := by decide +kernel
set_option maxRecDepth 100000 in
theorem mn_101 : xmn 101 = 2 := by decide +kernel
set_option maxRecDepth 100000 in
theorem h_101_91 : xlk xCL (xmo 101) 91 = some (94, 0, 912, 913, 0) := by decide +kernel
set_option maxRecDepth 100000 in
theorem mr_101 : xmr 101 = some .boolean := by decide +kernel
set_option maxRecDepth 100000 in
theorem lm_102 : xml 102 = 10 := by decide +kernel
set_option maxRecDepth 100000 in
theorem jl_102 : 102 < xMs.length := by decide +kernel
set_option maxRecDepth 100000 in
theorem mn_102 : xmn 102 = 7 := by decide +kernel
set_option maxRecDepth 100000 in
theorem e_102_13 : xlk xFL (xmo 102) 13 = some (7, 2, false, 817) := by decide +kernel
set_option maxRecDepth 100000 in
theorem mr_102 : xmr 102 = some .boolean := by decide +kernel
set_option maxRecDepth 100000 in
theorem lm_103 : xml 103 = 4 := by decide +kernel
set_option maxRecDepth 100000 in
theorem jl_103 : 103 < xMs.length := by decide +kernel
set_option maxRecDepth 100000 in
theorem mn_103 : xmn 103 = 4 := by decide +kernel
set_option maxRecDepth 100000 in
theorem e_103_7 : xlk xFL (xmo 103) 7 = some (7, 1, false, 816) := by decide +kernel
set_option maxRecDepth 100000 in
theorem mr_103 : xmr 103 = some .int := by decide +kernel
set_option maxRecDepth 100000 in
theorem lm_104 : xml 104 = 11 := by decide +kernel
set_option maxRecDepth 100000 in
theorem jl_104 : 104 < xMs.length := by decide +kernel
set_option maxRecDepth 100000 in
theorem mn_104 : xmn 104 = 7 := by decide +kernel
set_option maxRecDepth 100000 in
theorem h_104_102 : xlk xCL (xmo 104) 102 = some (95, 1, 923, 925, 22) := by decide +kernel
set_option maxRecDepth 100000 in
theorem h_104_105 : xlk xCL (xmo 104) 105 = some (98, 0, 927, 928, 0) := by decide +kernel
set_option maxRecDepth 100000 in
theorem h_104_109 : xlk xCL (xmo 104) 109 = some (101, 0, 934, 935, 0) := by decide +kernel
set_option maxRecDepth 100000 in
theorem h_104_112 : xlk xCL (xmo 104) 112 = some (102, 1, 937, 939, 23) := by decide +kernel
set_option maxRecDepth 100000 in
theorem mo_102 : xmo 102 = 7 := by decide +kernel
set_option maxRecDepth 100000 in
theorem e_104_95 : xlk xFL (xmo 104) 95 = some (7, 3, false, 818) := by decide +kernel
set_option maxRecDepth 100000 in
theorem h_104_98 : xlk xCL (xmo 104) 98 = some (93, 1, 915, 917, 21) := by decide +kernel
set_option maxRecDepth 100000 in
theorem mr_104 : xmr 104 = some .int := by decide +kernel
set_option maxRecDepth 100000 in
theorem e_104_13 : xlk xFL (xmo 104) 13 = some (7, 2, false, 817) := by decide +kernel
set_option maxRecDepth 100000 in
theorem e_104_16 : xlk xFL (xmo 104) 16 = some (7, 4, false, 819) := by decide +kernel
set_option maxRecDepth 100000 in
theorem e_104_19 : xlk xFL (xmo 104) 19 = some (7, 5, false, 820) := by decide +kernel
set_option maxRecDepth 100000 in
theorem e_104_22 : xlk xFL (xmo 104) 22 = some (7, 6, false, 821) := by decide +kernel
set_option maxRecDepth 100000 in
theorem h_104_116 : xlk xCL (xmo 104) 116 = some (103, 1, 941, 943, 24) := by decide +kernel
set_option maxRecDepth 100000 in
theorem mo_103 : xmo 103 = 7 := by decide +kernel
set_option maxRecDepth 100000 in
theorem e_104_25 : xlk xFL (xmo 104) 25 = some (7, 7, false, 822) := by decide +kernel
set_option maxRecDepth 100000 in
theorem e_104_28 : xlk xFL (xmo 104) 28 = some (7, 8, false, 823) := by decide +kernel
set_option maxRecDepth 100000 in
theorem e_104_45 : xlk xFL (xmo 104) 45 = some (7, 13, false, 828) := by decide +kernel
set_option maxRecDepth 100000 in
theorem e_104_48 : xlk xFL (xmo 104) 48 = some (7, 14, false, 829) := by decide +kernel
set_option maxRecDepth 100000 in
theorem e_104_51 : xlk xFL (xmo 104) 51 = some (7, 15, false, 830) := by decide +kernel
set_option maxRecDepth 100000 in
theorem lm_105 : xml 105 = 5 := by decide +kernel
set_option maxRecDepth 100000 in
theorem jl_105 : 105 < xMs.length := by decide +kernel
set_option maxRecDepth 100000 in
theorem mn_105 : xmn 105 = 3 := by decide +kernel
set_option maxRecDepth 100000 in
theorem mr_105 : xmr 105 = some .int := by decide +kernel
set_option maxRecDepth 100000 in
theorem lm_106 : xml 106 = 12 := by decide +kernel
set_option maxRecDepth 100000 in
theorem jl_106 : 106 < xMs.length := by decide +kernel
set_option maxRecDepth 100000 in
theorem mn_106 : xmn 106 = 6 := by decide +kernel
set_option maxRecDepth 100000 in
theorem h_106_109 : xlk xCL (xmo 106) 109 = some (101, 0, 934, 935, 0) := by decide +kernel
set_option maxRecDepth 100000 in
theorem h_106_91 : xlk xCL (xmo 106) 91 = some (94, 0, 912, 913, 0) := by decide +kernel
set_option maxRecDepth 100000 in
theorem h_106_102 : xlk xCL (xmo 106) 102 = some (95, 1, 923, 925, 22) := by decide +kernel
set_option maxRecDepth 100000 in
theorem h_106_98 : xlk xCL (xmo 106) 98 = some (93, 1, 915, 917, 21) := by decide +kernel
set_option maxRecDepth 100000 in
theorem mr_106 : xmr 106 = some .int := by decide +kernel
set_option maxRecDepth 100000 in
theorem h_106_112 : xlk xCL (xmo 106) 112 = some (102, 1, 937, 939, 23) := by decide +kernel
set_option maxRecDepth 100000 in
theorem h_106_116 : xlk xCL (xmo 106) 116 = some (103, 1, 941, 943, 24) := by decide +kernel
set_option maxRecDepth 100000 in
theorem h_106_120 : xlk xCL (xmo 106) 120 = some (105, 0, 949, 950, 0) := by decide +kernel
set_option maxRecDepth 100000 in
theorem lm_107 : xml 107 = 4 := by decide +kernel
set_option maxRecDepth 100000 in
theorem jl_107 : 107 < xMs.length := by decide +kernel
set_option maxRecDepth 100000 in
theorem mn_107 : xmn 107 = 3 := by decide +kernel
set_option maxRecDepth 100000 in
theorem h_107_123 : xlk xCL (xmo 107) 123 = some (96, 1, 956, 958, 25) := by decide +kernel
set_option maxRecDepth 100000 in
theorem mo_96 : xmo 96 = 7 := by decide +kernel
set_option maxRecDepth 100000 in
theorem h_107_91 : xlk xCL (xmo 107) 91 = some (94, 0, 912, 913, 0) := by decide +kernel
set_option maxRecDepth 100000 in
theorem e_107_22 : xlk xFL (xmo 107) 22 = some (7, 6, false, 821) := by decide +kernel
set_option maxRecDepth 100000 in
theorem e_107_39 : xlk xFL (xmo 107) 39 = some (7, 11, false, 826) := by decide +kernel
set_option maxRecDepth 100000 in
theorem h_107_98 : xlk xCL (xmo 107) 98 = some (93, 1, 915, 917, 21) := by decide +kernel
set_option maxRecDepth 100000 in
theorem mr_107 : xmr 107 = some .int := by decide +kernel
set_option maxRecDepth 100000 in
theorem lm_108 : xml 108 = 2 := by decide +kernel
set_option maxRecDepth 100000 in
theorem jl_108 : 108 < xMs.length := by decide +kernel
set_option maxRecDepth 100000 in
theorem mn_108 : xmn 108 = 2 := by decide +kernel
set_option maxRecDepth 100000 in
theorem e_108_45 : xlk xFL (xmo 108) 45 = some (7, 13, false, 828) := by decide +kernel
set_option maxRecDepth 100000 in
theorem mr_108 : xmr 108 = some .boolean := by decide +kernel
set_option maxRecDepth 100000 in
theorem lm_109 : xml 109 = 8 := by decide +kernel
set_option maxRecDepth 100000 in
theorem jl_109 : 109 < xMs.length := by decide +kernel
set_option maxRecDepth 100000 in
theorem mn_109 : xmn 109 = 3 := by decide +kernel
set_option maxRecDepth 100000 in
theorem h_109_123 : xlk xCL (xmo 109) 123 = some (96, 1, 956, 958, 25) := by decide +kernel
set_option maxRecDepth 100000 in
theorem e_109_16 : xlk xFL (xmo 109) 16 = some (7, 4, false, 819) := by decide +kernel
set_option maxRecDepth 100000 in
theorem h_109_91 : xlk xCL (xmo 109) 91 = some (94, 0, 912, 913, 0) := by decide +kernel
set_option maxRecDepth 100000 in
theorem e_109_32 : xlk xFL (xmo 109) 32 = some (7, 9, false, 824) := by decide +kernel
set_option maxRecDepth 100000 in
theorem k_109_126 : xlk xJC (xmo 109) 126 = some ((7 : Int64), 964) := by decide +kernel
set_option maxRecDepth 100000 in
theorem e_109_39 : xlk xFL (xmo 109) 39 = some (7, 11, false, 826) := by decide +kernel
set_option maxRecDepth 100000 in
theorem h_109_128 : xlk xCL (xmo 109) 128 = some (108, 1, 965, 967, 26) := by decide +kernel
set_option maxRecDepth 100000 in
theorem mo_108 : xmo 108 = 7 := by decide +kernel
set_option maxRecDepth 100000 in
theorem e_109_42 : xlk xFL (xmo 109) 42 = some (7, 12, false, 827) := by decide +kernel
set_option maxRecDepth 100000 in
theorem h_109_98 : xlk xCL (xmo 109) 98 = some (93, 1, 915, 917, 21) := by decide +kernel
set_option maxRecDepth 100000 in
theorem mr_109 : xmr 109 = some .int := by decide +kernel
set_option maxRecDepth 100000 in
theorem lm_110 : xml 110 = 4 := by decide +kernel
set_option maxRecDepth 100000 in
theorem jl_110 : 110 < xMs.length := by decide +kernel
set_option maxRecDepth 100000 in
theorem mn_110 : xmn 110 = 2 := by decide +kernel
set_option maxRecDepth 100000 in
theorem e_110_16 : xlk xFL (xmo 110) 16 = some (7, 4, false, 819) := by decide +kernel
set_option maxRecDepth 100000 in
theorem e_110_32 : xlk xFL (xmo 110) 32 = some (7, 9, false, 824) := by decide +kernel
set_option maxRecDepth 100000 in
theorem mr_110 : xmr 110 = some .int := by decide +kernel
set_option maxRecDepth 100000 in
theorem lm_111 : xml 111 = 4 := by decide +kernel
set_option maxRecDepth 100000 in
theorem jl_111 : 111 < xMs.length := by decide +kernel
set_option maxRecDepth 100000 in
theorem mn_111 : xmn 111 = 3 := by decide +kernel
set_option maxRecDepth 100000 in
theorem h_111_123 : xlk xCL (xmo 111) 123 = some (96, 1, 956, 958, 25) := by decide +kernel
set_option maxRecDepth 100000 in
theorem h_111_98 : xlk xCL (xmo 111) 98 = some (93, 1, 915, 917, 21) := by decide +kernel
set_option maxRecDepth 100000 in
theorem e_111_28 : xlk xFL (xmo 111) 28 = some (7, 8, false, 823) := by decide +kernel
set_option maxRecDepth 100000 in
theorem e_111_16 : xlk xFL (xmo 111) 16 = some (7, 4, false, 819) := by decide +kernel
set_option maxRecDepth 100000 in
theorem e_111_19 : xlk xFL (xmo 111) 19 = some (7, 5, false, 820) := by decide +kernel
set_option maxRecDepth 100000 in
theorem e_111_22 : xlk xFL (xmo 111) 22 = some (7, 6, false, 821) := by decide +kernel
set_option maxRecDepth 100000 in
theorem e_111_25 : xlk xFL (xmo 111) 25 = some (7, 7, false, 822) := by decide +kernel
set_option maxRecDepth 100000 in
theorem mr_111 : xmr 111 = some .boolean := by decide +kernel
set_option maxRecDepth 100000 in
theorem lm_112 : xml 112 = 3 := by decide +kernel
set_option maxRecDepth 100000 in
theorem jl_112 : 112 < xMs.length := by decide +kernel
set_option maxRecDepth 100000 in
theorem mn_112 : xmn 112 = 2 := by decide +kernel
set_option maxRecDepth 100000 in
theorem e_112_19 : xlk xFL (xmo 112) 19 = some (7, 5, false, 820) := by decide +kernel
set_option maxRecDepth 100000 in
theorem e_112_22 : xlk xFL (xmo 112) 22 = some (7, 6, false, 821) := by decide +kernel
set_option maxRecDepth 100000 in
theorem e_112_32 : xlk xFL (xmo 112) 32 = some (7, 9, false, 824) := by decide +kernel
set_option maxRecDepth 100000 in
theorem e_112_36 : xlk xFL (xmo 112) 36 = some (7, 10, false, 825) := by decide +kernel
set_option maxRecDepth 100000 in
theorem mr_112 : xmr 112 = some .int := by decide +kernel
set_option maxRecDepth 100000 in
theorem lm_113 : xml 113 = 3 := by decide +kernel
set_option maxRecDepth 100000 in
theorem jl_113 : 113 < xMs.length := by decide +kernel
set_option maxRecDepth 100000 in
theorem mn_113 : xmn 113 = 3 := by decide +kernel
set_option maxRecDepth 100000 in
theorem h_113_123 : xlk xCL (xmo 113) 123 = some (96, 1, 956, 958, 25) := by decide +kernel
set_option maxRecDepth 100000 in
theorem h_113_91 : xlk xCL (xmo 113) 91 = some (94, 0, 912, 913, 0) := by decide +kernel
set_option maxRecDepth 100000 in
theorem h_113_98 : xlk xCL (xmo 113) 98 = some (93, 1, 915, 917, 21) := by decide +kernel
set_option maxRecDepth 100000 in
theorem mr_113 : xmr 113 = some .int := by decide +kernel
set_option maxRecDepth 100000 in
theorem e_113_16 : xlk xFL (xmo 113) 16 = some (7, 4, false, 819) := by decide +kernel
set_option maxRecDepth 100000 in
theorem e_113_19 : xlk xFL (xmo 113) 19 = some (7, 5, false, 820) := by decide +kernel
set_option maxRecDepth 100000 in
theorem e_113_22 : xlk xFL (xmo 113) 22 = some (7, 6, false, 821) := by decide +kernel
set_option maxRecDepth 100000 in
theorem e_113_25 : xlk xFL (xmo 113) 25 = some (7, 7, false, 822) := by decide +kernel
set_option maxRecDepth 100000 in
theorem h_113_131 : xlk xCL (xmo 113) 131 = some (110, 1, 977, 979, 27) := by decide +kernel
set_option maxRecDepth 100000 in
theorem mo_110 : xmo 110 = 7 := by decide +kernel
set_option maxRecDepth 100000 in
theorem e_113_36 : xlk xFL (xmo 113) 36 = some (7, 10, false, 825) := by decide +kernel
set_option maxRecDepth 100000 in
theorem h_113_135 : xlk xCL (xmo 113) 135 = some (112, 1, 981, 983, 28) := by decide +kernel
set_option maxRecDepth 100000 in
theorem mo_112 : xmo 112 = 7 := by decide +kernel
set_option maxRecDepth 100000 in
theorem e_113_45 : xlk xFL (xmo 113) 45 = some (7, 13, false, 828) := by decide +kernel
set_option maxRecDepth 100000 in
theorem e_113_48 : xlk xFL (xmo 113) 48 = some (7, 14, false, 829) := by decide +kernel
set_option maxRecDepth 100000 in
theorem e_113_51 : xlk xFL (xmo 113) 51 = some (7, 15, false, 830) := by decide +kernel
set_option maxRecDepth 100000 in
theorem e_113_42 : xlk xFL (xmo 113) 42 = some (7, 12, false, 827) := by decide +kernel
set_option maxRecDepth 100000 in
theorem lm_114 : xml 114 = 6 := by decide +kernel
set_option maxRecDepth 100000 in
theorem jl_114 : 114 < xMs.length := by decide +kernel
set_option maxRecDepth 100000 in
theorem mn_114 : xmn 114 = 3 := by decide +kernel
set_option maxRecDepth 100000 in
theorem e_114_16 : xlk xFL (xmo 114) 16 = some (7, 4, false, 819) := by decide +kernel
set_option maxRecDepth 100000 in
theorem e_114_32 : xlk xFL (xmo 114) 32 = some (7, 9, false, 824) := by decide +kernel
set_option maxRecDepth 100000 in
theorem mr_114 : xmr 114 = some .int := by decide +kernel
set_option maxRecDepth 100000 in
theorem lm_115 : xml 115 = 2 := by decide +kernel
set_option maxRecDepth 100000 in
theorem jl_115 : 115 < xMs.length := by decide +kernel
set_option maxRecDepth 100000 in
theorem mn_115 : xmn 115 = 2 := by decide +kernel
set_option maxRecDepth 100000 in
theorem e_115_45 : xlk xFL (xmo 115) 45 = some (7, 13, false, 828) := by decide +kernel
set_option maxRecDepth 100000 in
theorem e_115_48 : xlk xFL (xmo 115) 48 = some (7, 14, false, 829) := by decide +kernel
set_option maxRecDepth 100000 in
theorem e_115_51 : xlk xFL (xmo 115) 51 = some (7, 15, false, 830) := by decide +kernel
set_option maxRecDepth 100000 in
theorem mr_115 : xmr 115 = none := by decide +kernel
set_option maxRecDepth 100000 in
theorem lm_116 : xml 116 = 7 := by decide +kernel
set_option maxRecDepth 100000 in
theorem jl_116 : 116 < xMs.length := by decide +kernel
set_option maxRecDepth 100000 in
theorem mn_116 : xmn 116 = 5 := by decide +kernel
set_option maxRecDepth 100000 in
theorem h_116_123 : xlk xCL (xmo 116) 123 = some (96, 1, 956, 958, 25) := by decide +kernel
set_option maxRecDepth 100000 in
theorem h_116_138 : xlk xCL (xmo 116) 138 = some (97, 0, 989, 990, 0) := by decide +kernel
set_option maxRecDepth 100000 in
theorem h_116_141 : xlk xCL (xmo 116) 141 = some (114, 1, 992, 994, 29) := by decide +kernel
set_option maxRecDepth 100000 in
theorem mo_114 : xmo 114 = 7 := by decide +kernel
set_option maxRecDepth 100000 in
theorem e_116_28 : xlk xFL (xmo 116) 28 = some (7, 8, false, 823) := by decide +kernel
set_option maxRecDepth 100000 in
theorem h_116_128 : xlk xCL (xmo 116) 128 = some (108, 1, 965, 967, 26) := by decide +kernel
set_option maxRecDepth 100000 in
theorem e_116_42 : xlk xFL (xmo 116) 42 = some (7, 12, false, 827) := by decide +kernel
set_option maxRecDepth 100000 in
theorem h_116_98 : xlk xCL (xmo 116) 98 = some (93, 1, 915, 917, 21) := by decide +kernel
set_option maxRecDepth 100000 in
theorem mr_116 : xmr 116 = some .int := by decide +kernel
set_option maxRecDepth 100000 in
theorem e_116_45 : xlk xFL (xmo 116) 45 = some (7, 13, false, 828) := by decide +kernel
set_option maxRecDepth 100000 in
theorem e_116_48 : xlk xFL (xmo 116) 48 = some (7, 14, false, 829) := by decide +kernel
set_option maxRecDepth 100000 in
theorem e_116_51 : xlk xFL (xmo 116) 51 = some (7, 15, false, 830) := by decide +kernel
set_option maxRecDepth 100000 in
theorem lm_117 : xml 117 = 3 := by decide +kernel
set_option maxRecDepth 100000 in
theorem jl_117 : 117 < xMs.length := by decide +kernel
set_option maxRecDepth 100000 in
theorem mn_117 : xmn 117 = 2 := by decide +kernel
set_option maxRecDepth 100000 in
theorem h_117_123 : xlk xCL (xmo 117) 123 = some (96, 1, 956, 958, 25) := by decide +kernel
set_option maxRecDepth 100000 in
theorem h_117_128 : xlk xCL (xmo 117) 128 = some (108, 1, 965, 967, 26) := by decide +kernel
set_option maxRecDepth 100000 in
theorem h_117_98 : xlk xCL (xmo 117) 98 = some (93, 1, 915, 917, 21) := by decide +kernel
set_option maxRecDepth 100000 in
theorem mr_117 : xmr 117 = some .int := by decide +kernel
set_option maxRecDepth 100000 in
theorem e_117_51 : xlk xFL (xmo 117) 51 = some (7, 15, false, 830) := by decide +kernel
set_option maxRecDepth 100000 in
theorem h_117_145 : xlk xCL (xmo 117) 145 = some (115, 1, 1000, 1002, 30) := by decide +kernel
set_option maxRecDepth 100000 in
theorem mo_115 : xmo 115 = 7 := by decide +kernel
set_option maxRecDepth 100000 in
theorem lm_118 : xml 118 = 4 := by decide +kernel
set_option maxRecDepth 100000 in
theorem jl_118 : 118 < xMs.length := by decide +kernel
set_option maxRecDepth 100000 in
theorem mn_118 : xmn 118 = 4 := by decide +kernel
set_option maxRecDepth 100000 in
theorem e_118_45 : xlk xFL (xmo 118) 45 = some (7, 13, false, 828) := by decide +kernel
set_option maxRecDepth 100000 in
theorem e_118_48 : xlk xFL (xmo 118) 48 = some (7, 14, false, 829) := by decide +kernel
set_option maxRecDepth 100000 in
theorem mr_118 : xmr 118 = some .boolean := by decide +kernel
set_option maxRecDepth 100000 in
theorem lm_119 : xml 119 = 5 := by decide +kernel
set_option maxRecDepth 100000 in
theorem jl_119 : 119 < xMs.length := by decide +kernel
set_option maxRecDepth 100000 in
theorem mn_119 : xmn 119 = 3 := by decide +kernel
set_option maxRecDepth 100000 in
theorem k_119_149 : xlk xIC (xmo 119) 149 = some ((100000000 : Int32), 1012) := by decide +kernel
set_option maxRecDepth 100000 in
theorem e_119_95 : xlk xFL (xmo 119) 95 = some (7, 3, false, 818) := by decide +kernel
set_option maxRecDepth 100000 in
theorem h_119_150 : xlk xCL (xmo 119) 150 = some (118, 1, 1017, 1019, 33) := by decide +kernel
set_option maxRecDepth 100000 in
theorem mo_118 : xmo 118 = 7 := by decide +kernel
set_option maxRecDepth 100000 in
theorem e_119_51 : xlk xFL (xmo 119) 51 = some (7, 15, false, 830) := by decide +kernel
set_option maxRecDepth 100000 in
theorem mr_119 : xmr 119 = some .int := by decide +kernel
set_option maxRecDepth 100000 in
theorem lm_120 : xml 120 = 8 := by decide +kernel
set_option maxRecDepth 100000 in
theorem jl_120 : 120 < xMs.length := by decide +kernel
set_option maxRecDepth 100000 in
theorem mn_120 : xmn 120 = 3 := by decide +kernel
set_option maxRecDepth 100000 in
theorem e_120_54 : xlk xFL (xmo 120) 54 = some (7, 16, false, 831) := by decide +kernel
set_option maxRecDepth 100000 in
theorem k_120_149 : xlk xIC (xmo 120) 149 = some ((100000000 : Int32), 1012) := by decide +kernel
set_option maxRecDepth 100000 in
theorem h_120_153 : xlk xCL (xmo 120) 153 = some (119, 1, 1013, 1015, 32) := by decide +kernel
set_option maxRecDepth 100000 in
theorem mo_119 : xmo 119 = 7 := by decide +kernel
set_option maxRecDepth 100000 in
theorem e_120_156 : xlk xFL (xmo 120) 156 = some (7, 17, false, 832) := by decide +kernel
set_option maxRecDepth 100000 in
theorem e_120_57 : xlk xFL (xmo 120) 57 = some (7, 18, false, 833) := by decide +kernel
set_option maxRecDepth 100000 in
theorem mr_120 : xmr 120 = some .boolean := by decide +kernel
set_option maxRecDepth 100000 in
theorem lm_121 : xml 121 = 4 := by decide +kernel
set_option maxRecDepth 100000 in
theorem jl_121 : 121 < xMs.length := by decide +kernel
set_option maxRecDepth 100000 in
theorem mn_121 : xmn 121 = 2 := by decide +kernel
set_option maxRecDepth 100000 in
theorem e_121_95 : xlk xFL (xmo 121) 95 = some (7, 3, false, 818) := by decide +kernel
set_option maxRecDepth 100000 in
theorem h_121_159 : xlk xCL (xmo 121) 159 = some (122, 1, 1029, 1031, 36) := by decide +kernel
set_option maxRecDepth 100000 in
theorem mn_122 : xmn 122 = 3 := by decide +kernel
set_option maxRecDepth 100000 in
theorem mo_122 : xmo 122 = 7 := by decide +kernel
set_option maxRecDepth 100000 in
theorem mr_121 : xmr 121 = some .int := by decide +kernel
set_option maxRecDepth 100000 in
theorem lm_122 : xml 122 = 3 := by decide +kernel
set_option maxRecDepth 100000 in
theorem jl_122 : 122 < xMs.length := by decide +kernel
set_option maxRecDepth 100000 in
theorem e_122_57 : xlk xFL (xmo 122) 57 = some (7, 18, false, 833) := by decide +kernel
set_option maxRecDepth 100000 in
theorem h_122_150 : xlk xCL (xmo 122) 150 = some (118, 1, 1017, 1019, 33) := by decide +kernel
set_option maxRecDepth 100000 in
theorem e_122_51 : xlk xFL (xmo 122) 51 = some (7, 15, false, 830) := by decide +kernel
set_option maxRecDepth 100000 in
theorem h_122_153 : xlk xCL (xmo 122) 153 = some (119, 1, 1013, 1015, 32) := by decide +kernel
set_option maxRecDepth 100000 in
theorem mr_122 : xmr 122 = some .boolean := by decide +kernel
set_option maxRecDepth 100000 in
theorem lm_123 : xml 123 = 5 := by decide +kernel
set_option maxRecDepth 100000 in
theorem jl_123 : 123 < xMs.length := by decide +kernel
set_option maxRecDepth 100000 in
theorem mn_123 : xmn 123 = 2 := by decide +kernel
set_option maxRecDepth 100000 in
theorem e_123_95 : xlk xFL (xmo 123) 95 = some (7, 3, false, 818) := by decide +kernel
set_option maxRecDepth 100000 in
theorem e_123_60 : xlk xFL (xmo 123) 60 = some (7, 19, false, 834) := by decide +kernel
set_option maxRecDepth 100000 in
theorem e_123_156 : xlk xFL (xmo 123) 156 = some (7, 17, false, 832) := by decide +kernel
set_option maxRecDepth 100000 in
theorem h_123_162 : xlk xCL (xmo 123) 162 = some (121, 1, 1025, 1027, 35) := by decide +kernel
set_option maxRecDepth 100000 in
theorem mo_121 : xmo 121 = 7 := by decide +kernel
set_option maxRecDepth 100000 in
theorem h_123_159 : xlk xCL (xmo 123) 159 = some (122, 1, 1029, 1031, 36) := by decide +kernel
set_option maxRecDepth 100000 in
theorem mr_123 : xmr 123 = none := by decide +kernel
set_option maxRecDepth 100000 in
theorem lm_124 : xml 124 = 6 := by decide +kernel
set_option maxRecDepth 100000 in
theorem jl_124 : 124 < xMs.length := by decide +kernel
set_option maxRecDepth 100000 in
theorem mn_124 : xmn 124 = 5 := by decide +kernel
set_option maxRecDepth 100000 in
theorem h_124_123 : xlk xCL (xmo 124) 123 = some (96, 1, 956, 958, 25) := by decide +kernel
set_option maxRecDepth 100000 in
theorem h_124_138 : xlk xCL (xmo 124) 138 = some (97, 0, 989, 990, 0) := by decide +kernel
set_option maxRecDepth 100000 in
theorem h_124_91 : xlk xCL (xmo 124) 91 = some (94, 0, 912, 913, 0) := by decide +kernel
set_option maxRecDepth 100000 in
theorem h_124_98 : xlk xCL (xmo 124) 98 = some (93, 1, 915, 917, 21) := by decide +kernel
set_option maxRecDepth 100000 in
theorem mr_124 : xmr 124 = some .int := by decide +kernel
set_option maxRecDepth 100000 in
theorem h_124_165 : xlk xCL (xmo 124) 165 = some (120, 1, 1008, 1010, 31) := by decide +kernel
set_option maxRecDepth 100000 in
theorem mo_120 : xmo 120 = 7 := by decide +kernel
set_option maxRecDepth 100000 in
theorem h_124_168 : xlk xCL (xmo 124) 168 = some (123, 1, 1021, 1023, 34) := by decide +kernel
set_option maxRecDepth 100000 in
theorem mo_123 : xmo 123 = 7 := by decide +kernel
set_option maxRecDepth 100000 in
theorem e_124_60 : xlk xFL (xmo 124) 60 = some (7, 19, false, 834) := by decide +kernel
set_option maxRecDepth 100000 in
theorem lm_125 : xml 125 = 5 := by decide +kernel
set_option maxRecDepth 100000 in
theorem jl_125 : 125 < xMs.length := by decide +kernel
set_option maxRecDepth 100000 in
theorem mn_125 : xmn 125 = 4 := by decide +kernel
set_option maxRecDepth 100000 in
theorem h_125_138 : xlk xCL (xmo 125) 138 = some (97, 0, 989, 990, 0) := by decide +kernel
set_option maxRecDepth 100000 in
theorem h_125_98 : xlk xCL (xmo 125) 98 = some (93, 1, 915, 917, 21) := by decide +kernel
set_option maxRecDepth 100000 in
theorem mr_125 : xmr 125 = some .int := by decide +kernel
set_option maxRecDepth 100000 in
theorem h_125_165 : xlk xCL (xmo 125) 165 = some (120, 1, 1008, 1010, 31) := by decide +kernel
set_option maxRecDepth 100000 in
theorem e_125_156 : xlk xFL (xmo 125) 156 = some (7, 17, false, 832) := by decide +kernel
set_option maxRecDepth 100000 in
theorem e_125_57 : xlk xFL (xmo 125) 57 = some (7, 18, false, 833) := by decide +kernel
set_option maxRecDepth 100000 in
theorem lm_126 : xml 126 = 3 := by decide +kernel
set_option maxRecDepth 100000 in
theorem jl_126 : 126 < xMs.length := by decide +kernel
set_option maxRecDepth 100000 in
theorem mn_126 : xmn 126 = 1 := by decide +kernel
set_option maxRecDepth 100000 in
theorem e_126_95 : xlk xFL (xmo 126) 95 = some (7, 3, false, 818) := by decide +kernel
set_option maxRecDepth 100000 in
theorem e_126_60 : xlk xFL (xmo 126) 60 = some (7, 19, false, 834) := by decide +kernel
set_option maxRecDepth 100000 in
theorem h_126_135 : xlk xCL (xmo 126) 135 = some (112, 1, 981, 983, 28) := by decide +kernel
set_option maxRecDepth 100000 in
theorem mr_126 : xmr 126 = some .int := by decide +kernel
set_option maxRecDepth 100000 in
theorem lm_127 : xml 127 = 10 := by decide +kernel
set_option maxRecDepth 100000 in
theorem jl_127 : 127 < xMs.length := by decide +kernel
set_option maxRecDepth 100000 in
theorem mn_127 : xmn 127 = 4 := by decide +kernel
set_option maxRecDepth 100000 in
theorem h_127_138 : xlk xCL (xmo 127) 138 = some (97, 0, 989, 990, 0) := by decide +kernel
set_option maxRecDepth 100000 in
theorem h_127_91 : xlk xCL (xmo 127) 91 = some (94, 0, 912, 913, 0) := by decide +kernel
set_option maxRecDepth 100000 in
theorem h_127_165 : xlk xCL (xmo 127) 165 = some (120, 1, 1008, 1010, 31) := by decide +kernel
set_option maxRecDepth 100000 in
theorem h_127_98 : xlk xCL (xmo 127) 98 = some (93, 1, 915, 917, 21) := by decide +kernel
set_option maxRecDepth 100000 in
theorem mr_127 : xmr 127 = some .int := by decide +kernel
set_option maxRecDepth 100000 in
theorem h_127_168 : xlk xCL (xmo 127) 168 = some (123, 1, 1021, 1023, 34) := by decide +kernel
set_option maxRecDepth 100000 in
theorem h_127_171 : xlk xCL (xmo 127) 171 = some (126, 1, 1041, 1043, 37) := by decide +kernel
set_option maxRecDepth 100000 in
theorem mo_126 : xmo 126 = 7 := by decide +kernel
set_option maxRecDepth 100000 in
theorem e_127_42 : xlk xFL (xmo 127) 42 = some (7, 12, false, 827) := by decide +kernel
set_option maxRecDepth 100000 in
theorem h_127_145 : xlk xCL (xmo 127) 145 = some (115, 1, 1000, 1002, 30) := by decide +kernel
set_option maxRecDepth 100000 in
theorem e_127_95 : xlk xFL (xmo 127) 95 = some (7, 3, false, 818) := by decide +kernel
set_option maxRecDepth 100000 in
theorem e_127_36 : xlk xFL (xmo 127) 36 = some (7, 10, false, 825) := by decide +kernel
set_option maxRecDepth 100000 in
theorem e_127_60 : xlk xFL (xmo 127) 60 = some (7, 19, false, 834) := by decide +kernel
set_option maxRecDepth 100000 in
theorem lm_128 : xml 128 = 9 := by decide +kernel
set_option maxRecDepth 100000 in
theorem jl_128 : 128 < xMs.length := by decide +kernel
set_option maxRecDepth 100000 in
theorem mn_128 : xmn 128 = 3 := by decide +kernel
set_option maxRecDepth 100000 in
theorem h_128_138 : xlk xCL (xmo 128) 138 = some (97, 0, 989, 990, 0) := by decide +kernel
set_option maxRecDepth 100000 in
theorem h_128_98 : xlk xCL (xmo 128) 98 = some (93, 1, 915, 917, 21) := by decide +kernel
set_option maxRecDepth 100000 in
theorem mr_128 : xmr 128 = some .int := by decide +kernel
set_option maxRecDepth 100000 in
theorem h_128_165 : xlk xCL (xmo 128) 165 = some (120, 1, 1008, 1010, 31) := by decide +kernel
set_option maxRecDepth 100000 in
theorem e_128_156 : xlk xFL (xmo 128) 156 = some (7, 17, false, 832) := by decide +kernel
set_option maxRecDepth 100000 in
theorem h_128_162 : xlk xCL (xmo 128) 162 = some (121, 1, 1025, 1027, 35) := by decide +kernel
set_option maxRecDepth 100000 in
theorem e_128_95 : xlk xFL (xmo 128) 95 = some (7, 3, false, 818) := by decide +kernel
set_option maxRecDepth 100000 in
theorem h_128_159 : xlk xCL (xmo 128) 159 = some (122, 1, 1029, 1031, 36) := by decide +kernel
set_option maxRecDepth 100000 in
theorem h_128_135 : xlk xCL (xmo 128) 135 = some (112, 1, 981, 983, 28) := by decide +kernel
set_option maxRecDepth 100000 in
theorem lm_129 : xml 129 = 2 := by decide +kernel
set_option maxRecDepth 100000 in
theorem jl_129 : 129 < xMs.length := by decide +kernel
set_option maxRecDepth 100000 in
theorem mn_129 : xmn 129 = 2 := by decide +kernel
set_option maxRecDepth 100000 in
theorem h_129_123 : xlk xCL (xmo 129) 123 = some (96, 1, 956, 958, 25) := by decide +kernel
set_option maxRecDepth 100000 in
theorem h_129_98 : xlk xCL (xmo 129) 98 = some (93, 1, 915, 917, 21) := by decide +kernel
set_option maxRecDepth 100000 in
theorem mr_129 : xmr 129 = some .int := by decide +kernel
set_option maxRecDepth 100000 in
theorem e_129_36 : xlk xFL (xmo 129) 36 = some (7, 10, false, 825) := by decide +kernel
set_option maxRecDepth 100000 in
theorem lm_130 : xml 130 = 2 := by decide +kernel
set_option maxRecDepth 100000 in
theorem jl_130 : 130 < xMs.length := by decide +kernel
set_option maxRecDepth 100000 in
theorem mn_130 : xmn 130 = 2 := by decide +kernel
set_option maxRecDepth 100000 in
theorem e_130_39 : xlk xFL (xmo 130) 39 = some (7, 11, false, 826) := by decide +kernel
set_option maxRecDepth 100000 in
theorem h_130_128 : xlk xCL (xmo 130) 128 = some (108, 1, 965, 967, 26) := by decide +kernel
set_option maxRecDepth 100000 in
theorem e_130_42 : xlk xFL (xmo 130) 42 = some (7, 12, false, 827) := by decide +kernel
set_option maxRecDepth 100000 in
theorem mr_130 : xmr 130 = some .boolean := by decide +kernel
set_option maxRecDepth 100000 in
theorem lm_131 : xml 131 = 11 := by decide +kernel
set_option maxRecDepth 100000 in
theorem jl_131 : 131 < xMs.length := by decide +kernel
set_option maxRecDepth 100000 in
theorem mn_131 : xmn 131 = 5 := by decide +kernel
set_option maxRecDepth 100000 in
theorem h_131_123 : xlk xCL (xmo 131) 123 = some (96, 1, 956, 958, 25) := by decide +kernel
set_option maxRecDepth 100000 in
theorem h_131_91 : xlk xCL (xmo 131) 91 = some (94, 0, 912, 913, 0) := by decide +kernel
set_option maxRecDepth 100000 in
theorem h_131_175 : xlk xCL (xmo 131) 175 = some (130, 1, 1057, 1059, 38) := by decide +kernel
set_option maxRecDepth 100000 in
theorem mo_130 : xmo 130 = 7 := by decide +kernel
set_option maxRecDepth 100000 in
theorem h_131_98 : xlk xCL (xmo 131) 98 = some (93, 1, 915, 917, 21) := by decide +kernel
set_option maxRecDepth 100000 in
theorem mr_131 : xmr 131 = some .int := by decide +kernel
set_option maxRecDepth 100000 in
theorem e_131_39 : xlk xFL (xmo 131) 39 = some (7, 11, false, 826) := by decide +kernel
set_option maxRecDepth 100000 in
theorem e_131_16 : xlk xFL (xmo 131) 16 = some (7, 4, false, 819) := by decide +kernel
set_option maxRecDepth 100000 in
theorem e_131_22 : xlk xFL (xmo 131) 22 = some (7, 6, false, 821) := by decide +kernel
set_option maxRecDepth 100000 in
theorem lm_132 : xml 132 = 1 := by decide +kernel
set_option maxRecDepth 100000 in
theorem jl_132 : 132 < xMs.length := by decide +kernel
set_option maxRecDepth 100000 in
theorem mn_132 : xmn 132 = 1 := by decide +kernel
set_option maxRecDepth 100000 in
theorem h_132_91 : xlk xCL (xmo 132) 91 = some (94, 0, 912, 913, 0) := by decide +kernel
set_option maxRecDepth 100000 in
theorem mr_132 : xmr 132 = some .boolean := by decide +kernel
set_option maxRecDepth 100000 in
theorem lm_133 : xml 133 = 1 := by decide +kernel
set_option maxRecDepth 100000 in
theorem jl_133 : 133 < xMs.length := by decide +kernel
set_option maxRecDepth 100000 in
theorem mn_133 : xmn 133 = 1 := by decide +kernel
set_option maxRecDepth 100000 in
theorem h_133_91 : xlk xCL (xmo 133) 91 = some (94, 0, 912, 913, 0) := by decide +kernel
set_option maxRecDepth 100000 in
theorem mr_133 : xmr 133 = some .boolean := by decide +kernel
set_option maxRecDepth 100000 in
theorem lm_134 : xml 134 = 1 := by decide +kernel
set_option maxRecDepth 100000 in
theorem jl_134 : 134 < xMs.length := by decide +kernel
set_option maxRecDepth 100000 in
theorem mn_134 : xmn 134 = 1 := by decide +kernel
set_option maxRecDepth 100000 in
theorem h_134_91 : xlk xCL (xmo 134) 91 = some (94, 0, 912, 913, 0) := by decide +kernel
set_option maxRecDepth 100000 in
theorem mr_134 : xmr 134 = some .boolean := by decide +kernel
set_option maxRecDepth 100000 in
theorem lm_135 : xml 135 = 8 := by decide +kernel
set_option maxRecDepth 100000 in
theorem jl_135 : 135 < xMs.length := by decide +kernel
set_option maxRecDepth 100000 in
theorem mn_135 : xmn 135 = 7 := by decide +kernel
set_option maxRecDepth 100000 in
theorem h_135_91 : xlk xCL (xmo 135) 91 = some (94, 0, 912, 913, 0) := by decide +kernel
set_option maxRecDepth 100000 in
theorem h_135_98 : xlk xCL (xmo 135) 98 = some (93, 1, 915, 917, 21) := by decide +kernel
set_option maxRecDepth 100000 in
theorem mr_135 : xmr 135 = some .int := by decide +kernel
set_option maxRecDepth 100000 in
theorem lm_136 : xml 136 = 4 := by decide +kernel
set_option maxRecDepth 100000 in
theorem jl_136 : 136 < xMs.length := by decide +kernel
set_option maxRecDepth 100000 in
theorem mn_136 : xmn 136 = 4 := by decide +kernel
set_option maxRecDepth 100000 in
theorem e_136_63 : xlk xFL (xmo 136) 63 = some (7, 20, false, 835) := by decide +kernel
set_option maxRecDepth 100000 in
theorem h_136_178 : xlk xCL (xmo 136) 178 = some (132, 0, 1065, 1066, 0) := by decide +kernel
set_option maxRecDepth 100000 in
theorem h_136_181 : xlk xCL (xmo 136) 181 = some (134, 0, 1068, 1069, 0) := by decide +kernel
set_option maxRecDepth 100000 in
theorem h_136_184 : xlk xCL (xmo 136) 184 = some (135, 1, 1071, 1073, 39) := by decide +kernel
set_option maxRecDepth 100000 in
theorem mo_135 : xmo 135 = 7 := by decide +kernel
set_option maxRecDepth 100000 in
theorem mr_136 : xmr 136 = some .int := by decide +kernel
set_option maxRecDepth 100000 in
theorem lm_137 : xml 137 = 4 := by decide +kernel
set_option maxRecDepth 100000 in
theorem jl_137 : 137 < xMs.length := by decide +kernel
set_option maxRecDepth 100000 in
theorem mn_137 : xmn 137 = 4 := by decide +kernel
set_option maxRecDepth 100000 in
theorem e_137_66 : xlk xFL (xmo 137) 66 = some (7, 21, false, 836) := by decide +kernel
set_option maxRecDepth 100000 in
theorem h_137_188 : xlk xCL (xmo 137) 188 = some (133, 0, 1079, 1080, 0) := by decide +kernel
set_option maxRecDepth 100000 in
theorem h_137_181 : xlk xCL (xmo 137) 181 = some (134, 0, 1068, 1069, 0) := by decide +kernel
set_option maxRecDepth 100000 in
theorem h_137_184 : xlk xCL (xmo 137) 184 = some (135, 1, 1071, 1073, 39) := by decide +kernel
set_option maxRecDepth 100000 in
theorem mr_137 : xmr 137 = some .int := by decide +kernel
set_option maxRecDepth 100000 in
theorem lm_138 : xml 138 = 4 := by decide +kernel
set_option maxRecDepth 100000 in
theorem jl_138 : 138 < xMs.length := by decide +kernel
set_option maxRecDepth 100000 in
theorem mn_138 : xmn 138 = 4 := by decide +kernel
set_option maxRecDepth 100000 in
theorem e_138_69 : xlk xFL (xmo 138) 69 = some (7, 22, false, 837) := by decide +kernel
set_option maxRecDepth 100000 in
theorem h_138_188 : xlk xCL (xmo 138) 188 = some (133, 0, 1079, 1080, 0) := by decide +kernel
set_option maxRecDepth 100000 in
theorem h_138_181 : xlk xCL (xmo 138) 181 = some (134, 0, 1068, 1069, 0) := by decide +kernel
set_option maxRecDepth 100000 in
theorem h_138_184 : xlk xCL (xmo 138) 184 = some (135, 1, 1071, 1073, 39) := by decide +kernel
set_option maxRecDepth 100000 in
theorem mr_138 : xmr 138 = some .int := by decide +kernel
set_option maxRecDepth 100000 in
theorem lm_139 : xml 139 = 4 := by decide +kernel
set_option maxRecDepth 100000 in
theorem jl_139 : 139 < xMs.length := by decide +kernel
set_option maxRecDepth 100000 in
theorem mn_139 : xmn 139 = 4 := by decide +kernel
set_option maxRecDepth 100000 in
theorem e_139_66 : xlk xFL (xmo 139) 66 = some (7, 21, false, 836) := by decide +kernel
set_option maxRecDepth 100000 in
theorem e_139_69 : xlk xFL (xmo 139) 69 = some (7, 22, false, 837) := by decide +kernel
set_option maxRecDepth 100000 in
theorem e_139_63 : xlk xFL (xmo 139) 63 = some (7, 20, false, 835) := by decide +kernel
set_option maxRecDepth 100000 in
theorem mr_139 : xmr 139 = some .int := by decide +kernel
set_option maxRecDepth 100000 in
theorem lm_140 : xml 140 = 6 := by decide +kernel
set_option maxRecDepth 100000 in
theorem jl_140 : 140 < xMs.length := by decide +kernel
set_option maxRecDepth 100000 in
theorem mn_140 : xmn 140 = 5 := by decide +kernel
set_option maxRecDepth 100000 in
theorem h_140_191 : xlk xCL (xmo 140) 191 = some (139, 1, 1105, 1107, 43) := by decide +kernel
set_option maxRecDepth 100000 in
theorem mo_139 : xmo 139 = 7 := by decide +kernel
set_option maxRecDepth 100000 in
theorem mr_140 : xmr 140 = some .int := by decide +kernel
set_option maxRecDepth 100000 in
theorem lm_141 : xml 141 = 7 := by decide +kernel
set_option maxRecDepth 100000 in
theorem jl_141 : 141 < xMs.length := by decide +kernel
set_option maxRecDepth 100000 in
theorem mn_141 : xmn 141 = 4 := by decide +kernel
set_option maxRecDepth 100000 in
theorem h_141_194 : xlk xCL (xmo 141) 194 = some (140, 1, 1101, 1103, 42) := by decide +kernel
set_option maxRecDepth 100000 in
theorem mo_140 : xmo 140 = 7 := by decide +kernel
set_option maxRecDepth 100000 in
theorem mr_141 : xmr 141 = some .int := by decide +kernel
set_option maxRecDepth 100000 in
theorem lm_142 : xml 142 = 5 := by decide +kernel
set_option maxRecDepth 100000 in
theorem jl_142 : 142 < xMs.length := by decide +kernel
set_option maxRecDepth 100000 in
theorem mn_142 : xmn 142 = 5 := by decide +kernel
set_option maxRecDepth 100000 in
theorem h_142_178 : xlk xCL (xmo 142) 178 = some (132, 0, 1065, 1066, 0) := by decide +kernel
set_option maxRecDepth 100000 in
theorem h_142_188 : xlk xCL (xmo 142) 188 = some (133, 0, 1079, 1080, 0) := by decide +kernel
set_option maxRecDepth 100000 in
theorem h_142_98 : xlk xCL (xmo 142) 98 = some (93, 1, 915, 917, 21) := by decide +kernel
set_option maxRecDepth 100000 in
theorem mr_142 : xmr 142 = some .boolean := by decide +kernel
set_option maxRecDepth 100000 in
theorem lm_143 : xml 143 = 1 := by decide +kernel
set_option maxRecDepth 100000 in
theorem jl_143 : 143 < xMs.length := by decide +kernel
set_option maxRecDepth 100000 in
theorem mn_143 : xmn 143 = 1 := by decide +kernel
set_option maxRecDepth 100000 in
theorem h_143_91 : xlk xCL (xmo 143) 91 = some (94, 0, 912, 913, 0) := by decide +kernel
set_option maxRecDepth 100000 in
theorem mr_143 : xmr 143 = some .boolean := by decide +kernel
set_option maxRecDepth 100000 in
theorem lm_144 : xml 144 = 4 := by decide +kernel
set_option maxRecDepth 100000 in
theorem jl_144 : 144 < xMs.length := by decide +kernel
set_option maxRecDepth 100000 in
theorem mn_144 : xmn 144 = 4 := by decide +kernel
set_option maxRecDepth 100000 in
theorem h_144_198 : xlk xCL (xmo 144) 198 = some (143, 0, 1090, 1091, 0) := by decide +kernel
set_option maxRecDepth 100000 in
theorem h_144_201 : xlk xCL (xmo 144) 201 = some (142, 1, 1093, 1095, 40) := by decide +kernel
set_option maxRecDepth 100000 in
theorem mo_142 : xmo 142 = 7 := by decide +kernel
set_option maxRecDepth 100000 in
theorem h_144_205 : xlk xCL (xmo 144) 205 = some (141, 1, 1097, 1099, 41) := by decide +kernel
set_option maxRecDepth 100000 in
theorem mo_141 : xmo 141 = 7 := by decide +kernel
set_option maxRecDepth 100000 in
theorem mr_144 : xmr 144 = some .int := by decide +kernel
set_option maxRecDepth 100000 in
theorem lm_145 : xml 145 = 4 := by decide +kernel
set_option maxRecDepth 100000 in
theorem jl_145 : 145 < xMs.length := by decide +kernel
set_option maxRecDepth 100000 in
theorem mn_145 : xmn 145 = 4 := by decide +kernel
set_option maxRecDepth 100000 in
theorem h_145_208 : xlk xCL (xmo 145) 208 = some (144, 1, 1113, 1087, 1088) := by decide +kernel
set_option maxRecDepth 100000 in
theorem mo_144 : xmo 144 = 7 := by decide +kernel
set_option maxRecDepth 100000 in
theorem mr_145 : xmr 145 = some .int := by decide +kernel
set_option maxRecDepth 100000 in
theorem lm_146 : xml 146 = 5 := by decide +kernel
set_option maxRecDepth 100000 in
theorem jl_146 : 146 < xMs.length := by decide +kernel
set_option maxRecDepth 100000 in
theorem mn_146 : xmn 146 = 5 := by decide +kernel
set_option maxRecDepth 100000 in
theorem h_146_198 : xlk xCL (xmo 146) 198 = some (143, 0, 1090, 1091, 0) := by decide +kernel
set_option maxRecDepth 100000 in
theorem h_146_181 : xlk xCL (xmo 146) 181 = some (134, 0, 1068, 1069, 0) := by decide +kernel
set_option maxRecDepth 100000 in
theorem h_146_201 : xlk xCL (xmo 146) 201 = some (142, 1, 1093, 1095, 40) := by decide +kernel
set_option maxRecDepth 100000 in
theorem h_146_205 : xlk xCL (xmo 146) 205 = some (141, 1, 1097, 1099, 41) := by decide +kernel
set_option maxRecDepth 100000 in
theorem h_146_194 : xlk xCL (xmo 146) 194 = some (140, 1, 1101, 1103, 42) := by decide +kernel
set_option maxRecDepth 100000 in
theorem mr_146 : xmr 146 = some .int := by decide +kernel
set_option maxRecDepth 100000 in
theorem lm_147 : xml 147 = 9 := by decide +kernel
set_option maxRecDepth 100000 in
theorem jl_147 : 147 < xMs.length := by decide +kernel
set_option maxRecDepth 100000 in
theorem mn_147 : xmn 147 = 4 := by decide +kernel
set_option maxRecDepth 100000 in
theorem h_147_198 : xlk xCL (xmo 147) 198 = some (143, 0, 1090, 1091, 0) := by decide +kernel
set_option maxRecDepth 100000 in
theorem h_147_201 : xlk xCL (xmo 147) 201 = some (142, 1, 1093, 1095, 40) := by decide +kernel
set_option maxRecDepth 100000 in
theorem mr_147 : xmr 147 = some .int := by decide +kernel
set_option maxRecDepth 100000 in
theorem h_147_205 : xlk xCL (xmo 147) 205 = some (141, 1, 1097, 1099, 41) := by decide +kernel
set_option maxRecDepth 100000 in
theorem h_147_194 : xlk xCL (xmo 147) 194 = some (140, 1, 1101, 1103, 42) := by decide +kernel
set_option maxRecDepth 100000 in
theorem lm_148 : xml 148 = 4 := by decide +kernel
set_option maxRecDepth 100000 in
theorem jl_148 : 148 < xMs.length := by decide +kernel
set_option maxRecDepth 100000 in
theorem mn_148 : xmn 148 = 2 := by decide +kernel
set_option maxRecDepth 100000 in
theorem e_148_72 : xlk xFL (xmo 148) 72 = some (7, 23, false, 838) := by decide +kernel
set_option maxRecDepth 100000 in
theorem mr_148 : xmr 148 = some .boolean := by decide +kernel
set_option maxRecDepth 100000 in
theorem lm_149 : xml 149 = 15 := by decide +kernel
set_option maxRecDepth 100000 in
theorem jl_149 : 149 < xMs.length := by decide +kernel
set_option maxRecDepth 100000 in
theorem mn_149 : xmn 149 = 7 := by decide +kernel
set_option maxRecDepth 100000 in
theorem h_149_91 : xlk xCL (xmo 149) 91 = some (94, 0, 912, 913, 0) := by decide +kernel
set_option maxRecDepth 100000 in
theorem h_149_178 : xlk xCL (xmo 149) 178 = some (132, 0, 1065, 1066, 0) := by decide +kernel
set_option maxRecDepth 100000 in
theorem h_149_188 : xlk xCL (xmo 149) 188 = some (133, 0, 1079, 1080, 0) := by decide +kernel
set_option maxRecDepth 100000 in
theorem h_149_211 : xlk xCL (xmo 149) 211 = some (148, 1, 1126, 1128, 44) := by decide +kernel
set_option maxRecDepth 100000 in
theorem mo_148 : xmo 148 = 7 := by decide +kernel
set_option maxRecDepth 100000 in
theorem e_149_214 : xlk xFL (xmo 149) 214 = some (7, 24, false, 839) := by decide +kernel
set_option maxRecDepth 100000 in
theorem h_149_98 : xlk xCL (xmo 149) 98 = some (93, 1, 915, 917, 21) := by decide +kernel
set_option maxRecDepth 100000 in
theorem mr_149 : xmr 149 = some .int := by decide +kernel
set_option maxRecDepth 100000 in
theorem h_149_205 : xlk xCL (xmo 149) 205 = some (141, 1, 1097, 1099, 41) := by decide +kernel
set_option maxRecDepth 100000 in
theorem h_149_194 : xlk xCL (xmo 149) 194 = some (140, 1, 1101, 1103, 42) := by decide +kernel
set_option maxRecDepth 100000 in
theorem e_149_72 : xlk xFL (xmo 149) 72 = some (7, 23, false, 838) := by decide +kernel
set_option maxRecDepth 100000 in
theorem e_149_75 : xlk xFL (xmo 149) 75 = some (7, 25, false, 840) := by decide +kernel
set_option maxRecDepth 100000 in
theorem e_149_78 : xlk xFL (xmo 149) 78 = some (7, 26, false, 841) := by decide +kernel
set_option maxRecDepth 100000 in
theorem e_149_81 : xlk xFL (xmo 149) 81 = some (7, 27, false, 842) := by decide +kernel
set_option maxRecDepth 100000 in
theorem e_149_69 : xlk xFL (xmo 149) 69 = some (7, 22, false, 837) := by decide +kernel
set_option maxRecDepth 100000 in
theorem lm_150 : xml 150 = 4 := by decide +kernel
set_option maxRecDepth 100000 in
theorem jl_150 : 150 < xMs.length := by decide +kernel
set_option maxRecDepth 100000 in
theorem mn_150 : xmn 150 = 2 := by decide +kernel
set_option maxRecDepth 100000 in
theorem h_150_91 : xlk xCL (xmo 150) 91 = some (94, 0, 912, 913, 0) := by decide +kernel
set_option maxRecDepth 100000 in
theorem h_150_98 : xlk xCL (xmo 150) 98 = some (93, 1, 915, 917, 21) := by decide +kernel
set_option maxRecDepth 100000 in
theorem mr_150 : xmr 150 = some .int := by decide +kernel
set_option maxRecDepth 100000 in
theorem e_150_72 : xlk xFL (xmo 150) 72 = some (7, 23, false, 838) := by decide +kernel
set_option maxRecDepth 100000 in
theorem h_150_211 : xlk xCL (xmo 150) 211 = some (148, 1, 1126, 1128, 44) := by decide +kernel
set_option maxRecDepth 100000 in
theorem lm_151 : xml 151 = 4 := by decide +kernel
set_option maxRecDepth 100000 in
theorem jl_151 : 151 < xMs.length := by decide +kernel
set_option maxRecDepth 100000 in
theorem mn_151 : xmn 151 = 4 := by decide +kernel
set_option maxRecDepth 100000 in
theorem h_151_178 : xlk xCL (xmo 151) 178 = some (132, 0, 1065, 1066, 0) := by decide +kernel
set_option maxRecDepth 100000 in
theorem h_151_181 : xlk xCL (xmo 151) 181 = some (134, 0, 1068, 1069, 0) := by decide +kernel
set_option maxRecDepth 100000 in
theorem h_151_91 : xlk xCL (xmo 151) 91 = some (94, 0, 912, 913, 0) := by decide +kernel
set_option maxRecDepth 100000 in
theorem h_151_98 : xlk xCL (xmo 151) 98 = some (93, 1, 915, 917, 21) := by decide +kernel
set_option maxRecDepth 100000 in
theorem mr_151 : xmr 151 = some .int := by decide +kernel
set_option maxRecDepth 100000 in
theorem e_151_72 : xlk xFL (xmo 151) 72 = some (7, 23, false, 838) := by decide +kernel
set_option maxRecDepth 100000 in
theorem e_151_63 : xlk xFL (xmo 151) 63 = some (7, 20, false, 835) := by decide +kernel
set_option maxRecDepth 100000 in
theorem h_151_211 : xlk xCL (xmo 151) 211 = some (148, 1, 1126, 1128, 44) := by decide +kernel
set_option maxRecDepth 100000 in
theorem lm_152 : xml 152 = 5 := by decide +kernel
set_option maxRecDepth 100000 in
theorem jl_152 : 152 < xMs.length := by decide +kernel
set_option maxRecDepth 100000 in
theorem mn_152 : xmn 152 = 4 := by decide +kernel
set_option maxRecDepth 100000 in
theorem h_152_188 : xlk xCL (xmo 152) 188 = some (133, 0, 1079, 1080, 0) := by decide +kernel
set_option maxRecDepth 100000 in
theorem e_152_75 : xlk xFL (xmo 152) 75 = some (7, 25, false, 840) := by decide +kernel
set_option maxRecDepth 100000 in
theorem mr_152 : xmr 152 = some .int := by decide +kernel
set_option maxRecDepth 100000 in
theorem h_152_91 : xlk xCL (xmo 152) 91 = some (94, 0, 912, 913, 0) := by decide +kernel
set_option maxRecDepth 100000 in
theorem e_152_78 : xlk xFL (xmo 152) 78 = some (7, 26, false, 841) := by decide +kernel
set_option maxRecDepth 100000 in
theorem e_152_81 : xlk xFL (xmo 152) 81 = some (7, 27, false, 842) := by decide +kernel
set_option maxRecDepth 100000 in
theorem lm_153 : xml 153 = 4 := by decide +kernel
set_option maxRecDepth 100000 in
theorem jl_153 : 153 < xMs.length := by decide +kernel
set_option maxRecDepth 100000 in
theorem mn_153 : xmn 153 = 4 := by decide +kernel
set_option maxRecDepth 100000 in
theorem h_153_178 : xlk xCL (xmo 153) 178 = some (132, 0, 1065, 1066, 0) := by decide +kernel
set_option maxRecDepth 100000 in
theorem h_153_181 : xlk xCL (xmo 153) 181 = some (134, 0, 1068, 1069, 0) := by decide +kernel
set_option maxRecDepth 100000 in
theorem h_153_91 : xlk xCL (xmo 153) 91 = some (94, 0, 912, 913, 0) := by decide +kernel
set_option maxRecDepth 100000 in
theorem h_153_98 : xlk xCL (xmo 153) 98 = some (93, 1, 915, 917, 21) := by decide +kernel
set_option maxRecDepth 100000 in
theorem mr_153 : xmr 153 = some .boolean := by decide +kernel
set_option maxRecDepth 100000 in
theorem lm_154 : xml 154 = 5 := by decide +kernel
set_option maxRecDepth 100000 in
theorem jl_154 : 154 < xMs.length := by decide +kernel
set_option maxRecDepth 100000 in
theorem mn_154 : xmn 154 = 5 := by decide +kernel
set_option maxRecDepth 100000 in
theorem h_154_217 : xlk xCL (xmo 154) 217 = some (153, 1, 1142, 1144, 45) := by decide +kernel
set_option maxRecDepth 100000 in
theorem mo_153 : xmo 153 = 7 := by decide +kernel
set_option maxRecDepth 100000 in
theorem h_154_220 : xlk xCL (xmo 154) 220 = some (152, 1, 1146, 1148, 46) := by decide +kernel
set_option maxRecDepth 100000 in
theorem mo_152 : xmo 152 = 7 := by decide +kernel
set_option maxRecDepth 100000 in
theorem mr_154 : xmr 154 = some .int := by decide +kernel
set_option maxRecDepth 100000 in
theorem lm_155 : xml 155 = 7 := by decide +kernel
set_option maxRecDepth 100000 in
theorem jl_155 : 155 < xMs.length := by decide +kernel
set_option maxRecDepth 100000 in
theorem mn_155 : xmn 155 = 4 := by decide +kernel
set_option maxRecDepth 100000 in
theorem h_155_217 : xlk xCL (xmo 155) 217 = some (153, 1, 1142, 1144, 45) := by decide +kernel
set_option maxRecDepth 100000 in
theorem mr_155 : xmr 155 = some .int := by decide +kernel
set_option maxRecDepth 100000 in
theorem h_155_220 : xlk xCL (xmo 155) 220 = some (152, 1, 1146, 1148, 46) := by decide +kernel
set_option maxRecDepth 100000 in
theorem lm_156 : xml 156 = 1 := by decide +kernel
set_option maxRecDepth 100000 in
theorem jl_156 : 156 < xMs.length := by decide +kernel
set_option maxRecDepth 100000 in
theorem mn_156 : xmn 156 = 1 := by decide +kernel
set_option maxRecDepth 100000 in
theorem e_156_84 : xlk xFL (xmo 156) 84 = some (7, 28, false, 843) := by decide +kernel
set_option maxRecDepth 100000 in
theorem e_156_214 : xlk xFL (xmo 156) 214 = some (7, 24, false, 839) := by decide +kernel
set_option maxRecDepth 100000 in
theorem mr_156 : xmr 156 = some .int := by decide +kernel
set_option maxRecDepth 100000 in
theorem lm_157 : xml 157 = 3 := by decide +kernel
set_option maxRecDepth 100000 in
theorem jl_157 : 157 < xMs.length := by decide +kernel
set_option maxRecDepth 100000 in
theorem mr_157 : xmr 157 = some .int := by decide +kernel
set_option maxRecDepth 100000 in
theorem lm_158 : xml 158 = 2 := by decide +kernel
set_option maxRecDepth 100000 in
theorem jl_158 : 158 < xMs.length := by decide +kernel
set_option maxRecDepth 100000 in
theorem mr_158 : xmr 158 = some .int := by decide +kernel
set_option maxRecDepth 100000 in
theorem lm_159 : xml 159 = 2 := by decide +kernel
set_option maxRecDepth 100000 in
theorem jl_159 : 159 < xMs.length := by decide +kernel
set_option maxRecDepth 100000 in
theorem mr_159 : xmr 159 = some .int := by decide +kernel
set_option maxRecDepth 100000 in
theorem lm_160 : xml 160 = 4 := by decide +kernel
set_option maxRecDepth 100000 in
theorem jl_160 : 160 < xMs.length := by decide +kernel
set_option maxRecDepth 100000 in
theorem mn_160 : xmn 160 = 3 := by decide +kernel
set_option maxRecDepth 100000 in
theorem h_160_7 : xlk xCL (xmo 160) 7 = some (50, 1, 190, 191, 192) := by decide +kernel
set_option maxRecDepth 100000 in
theorem mo_50 : xmo 50 = 6 := by decide +kernel
set_option maxRecDepth 100000 in
theorem mr_160 : xmr 160 = some .int := by decide +kernel
set_option maxRecDepth 100000 in
theorem lm_161 : xml 161 = 6 := by decide +kernel
set_option maxRecDepth 100000 in
theorem jl_161 : 161 < xMs.length := by decide +kernel
set_option maxRecDepth 100000 in
theorem mn_161 : xmn 161 = 5 := by decide +kernel
set_option maxRecDepth 100000 in
theorem h_161_17 : xlk xCL (xmo 161) 17 = some (51, 1, 297, 298, 299) := by decide +kernel
set_option maxRecDepth 100000 in
theorem mo_51 : xmo 51 = 6 := by decide +kernel
set_option maxRecDepth 100000 in
theorem mr_161 : xmr 161 = some .int := by decide +kernel
set_option maxRecDepth 100000 in
theorem lm_162 : xml 162 = 9 := by decide +kernel
set_option maxRecDepth 100000 in
theorem jl_162 : 162 < xMs.length := by decide +kernel
set_option maxRecDepth 100000 in
theorem mn_162 : xmn 162 = 8 := by decide +kernel
set_option maxRecDepth 100000 in
theorem h_162_23 : xlk xCL (xmo 162) 23 = some (52, 1, 336, 337, 338) := by decide +kernel
set_option maxRecDepth 100000 in
theorem mo_52 : xmo 52 = 6 := by decide +kernel
set_option maxRecDepth 100000 in
theorem mr_162 : xmr 162 = some .int := by decide +kernel
set_option maxRecDepth 100000 in
theorem lm_163 : xml 163 = 8 := by decide +kernel
set_option maxRecDepth 100000 in
theorem jl_163 : 163 < xMs.length := by decide +kernel
set_option maxRecDepth 100000 in
theorem mn_163 : xmn 163 = 7 := by decide +kernel
set_option maxRecDepth 100000 in
theorem h_163_27 : xlk xCL (xmo 163) 27 = some (53, 1, 420, 421, 422) := by decide +kernel
set_option maxRecDepth 100000 in
theorem mo_53 : xmo 53 = 6 := by decide +kernel
set_option maxRecDepth 100000 in
theorem mr_163 : xmr 163 = some .int := by decide +kernel
set_option maxRecDepth 100000 in
theorem lm_164 : xml 164 = 5 := by decide +kernel
set_option maxRecDepth 100000 in
theorem jl_164 : 164 < xMs.length := by decide +kernel
set_option maxRecDepth 100000 in
theorem mn_164 : xmn 164 = 4 := by decide +kernel
set_option maxRecDepth 100000 in
theorem h_164_31 : xlk xCL (xmo 164) 31 = some (54, 1, 440, 441, 442) := by decide +kernel
set_option maxRecDepth 100000 in
theorem mo_54 : xmo 54 = 6 := by decide +kernel
set_option maxRecDepth 100000 in
theorem mr_164 : xmr 164 = some .int := by decide +kernel
set_option maxRecDepth 100000 in
theorem lm_165 : xml 165 = 5 := by decide +kernel
set_option maxRecDepth 100000 in
theorem jl_165 : 165 < xMs.length := by decide +kernel
set_option maxRecDepth 100000 in
theorem mn_165 : xmn 165 = 4 := by decide +kernel
set_option maxRecDepth 100000 in
theorem h_165_35 : xlk xCL (xmo 165) 35 = some (55, 1, 453, 454, 455) := by decide +kernel
set_option maxRecDepth 100000 in
theorem mo_55 : xmo 55 = 6 := by decide +kernel
set_option maxRecDepth 100000 in
theorem mr_165 : xmr 165 = some .int := by decide +kernel
set_option maxRecDepth 100000 in
theorem lm_166 : xml 166 = 5 := by decide +kernel
set_option maxRecDepth 100000 in
theorem jl_166 : 166 < xMs.length := by decide +kernel
set_option maxRecDepth 100000 in
theorem mn_166 : xmn 166 = 4 := by decide +kernel
set_option maxRecDepth 100000 in
theorem h_166_38 : xlk xCL (xmo 166) 38 = some (56, 1, 474, 475, 476) := by decide +kernel
set_option maxRecDepth 100000 in
theorem mo_56 : xmo 56 = 6 := by decide +kernel
set_option maxRecDepth 100000 in
theorem mr_166 : xmr 166 = some .int := by decide +kernel
set_option maxRecDepth 100000 in
theorem lm_167 : xml 167 = 5 := by decide +kernel
set_option maxRecDepth 100000 in
theorem jl_167 : 167 < xMs.length := by decide +kernel
set_option maxRecDepth 100000 in
theorem mn_167 : xmn 167 = 4 := by decide +kernel
set_option maxRecDepth 100000 in
theorem h_167_42 : xlk xCL (xmo 167) 42 = some (57, 1, 481, 482, 483) := by decide +kernel
set_option maxRecDepth 100000 in
theorem mo_57 : xmo 57 = 6 := by decide +kernel
set_option maxRecDepth 100000 in
theorem mr_167 : xmr 167 = some .int := by decide +kernel
set_option maxRecDepth 100000 in
theorem lm_168 : xml 168 = 7 := by decide +kernel
set_option maxRecDepth 100000 in
theorem jl_168 : 168 < xMs.length := by decide +kernel
set_option maxRecDepth 100000 in
theorem mn_168 : xmn 168 = 6 := by decide +kernel
set_option maxRecDepth 100000 in
theorem h_168_45 : xlk xCL (xmo 168) 45 = some (58, 1, 495, 496, 497) := by decide +kernel
set_option maxRecDepth 100000 in
theorem mo_58 : xmo 58 = 6 := by decide +kernel
set_option maxRecDepth 100000 in
theorem mr_168 : xmr 168 = some .int := by decide +kernel
set_option maxRecDepth 100000 in
theorem lm_169 : xml 169 = 4 := by decide +kernel
set_option maxRecDepth 100000 in
theorem jl_169 : 169 < xMs.length := by decide +kernel
set_option maxRecDepth 100000 in
theorem mn_169 : xmn 169 = 3 := by decide +kernel
set_option maxRecDepth 100000 in
theorem h_169_49 : xlk xCL (xmo 169) 49 = some (59, 1, 515, 516, 517) := by decide +kernel
set_option maxRecDepth 100000 in
theorem mo_59 : xmo 59 = 6 := by decide +kernel
set_option maxRecDepth 100000 in
theorem mr_169 : xmr 169 = some .int := by decide +kernel
set_option maxRecDepth 100000 in
theorem lm_170 : xml 170 = 7 := by decide +kernel
set_option maxRecDepth 100000 in
theorem jl_170 : 170 < xMs.length := by decide +kernel
set_option maxRecDepth 100000 in
theorem mn_170 : xmn 170 = 6 := by decide +kernel
set_option maxRecDepth 100000 in
theorem h_170_52 : xlk xCL (xmo 170) 52 = some (60, 1, 527, 528, 529) := by decide +kernel
set_option maxRecDepth 100000 in
theorem mo_60 : xmo 60 = 6 := by decide +kernel
set_option maxRecDepth 100000 in
theorem mr_170 : xmr 170 = some .int := by decide +kernel
set_option maxRecDepth 100000 in
theorem lm_171 : xml 171 = 6 := by decide +kernel
set_option maxRecDepth 100000 in
theorem jl_171 : 171 < xMs.length := by decide +kernel
set_option maxRecDepth 100000 in
theorem mn_171 : xmn 171 = 5 := by decide +kernel
set_option maxRecDepth 100000 in
theorem h_171_55 : xlk xCL (xmo 171) 55 = some (61, 1, 583, 584, 585) := by decide +kernel
set_option maxRecDepth 100000 in
theorem mo_61 : xmo 61 = 6 := by decide +kernel
set_option maxRecDepth 100000 in
theorem mr_171 : xmr 171 = some .int := by decide +kernel
set_option maxRecDepth 100000 in
theorem lm_172 : xml 172 = 6 := by decide +kernel
set_option maxRecDepth 100000 in
theorem jl_172 : 172 < xMs.length := by decide +kernel
set_option maxRecDepth 100000 in
theorem mn_172 : xmn 172 = 5 := by decide +kernel
set_option maxRecDepth 100000 in
theorem h_172_58 : xlk xCL (xmo 172) 58 = some (62, 1, 595, 596, 597) := by decide +kernel
set_option maxRecDepth 100000 in
theorem mo_62 : xmo 62 = 6 := by decide +kernel
set_option maxRecDepth 100000 in
theorem mr_172 : xmr 172 = some .int := by decide +kernel
set_option maxRecDepth 100000 in
theorem lm_173 : xml 173 = 5 := by decide +kernel
set_option maxRecDepth 100000 in
theorem jl_173 : 173 < xMs.length := by decide +kernel
set_option maxRecDepth 100000 in
theorem mn_173 : xmn 173 = 4 := by decide +kernel
set_option maxRecDepth 100000 in
theorem h_173_61 : xlk xCL (xmo 173) 61 = some (63, 1, 624, 625, 626) := by decide +kernel
set_option maxRecDepth 100000 in
theorem mo_63 : xmo 63 = 6 := by decide +kernel
set_option maxRecDepth 100000 in
theorem mr_173 : xmr 173 = some .int := by decide +kernel
set_option maxRecDepth 100000 in
theorem lm_174 : xml 174 = 4 := by decide +kernel
set_option maxRecDepth 100000 in
theorem jl_174 : 174 < xMs.length := by decide +kernel
set_option maxRecDepth 100000 in
theorem mn_174 : xmn 174 = 3 := by decide +kernel
set_option maxRecDepth 100000 in
theorem h_174_64 : xlk xCL (xmo 174) 64 = some (64, 1, 637, 638, 639) := by decide +kernel
set_option maxRecDepth 100000 in
theorem mo_64 : xmo 64 = 6 := by decide +kernel
set_option maxRecDepth 100000 in
theorem mr_174 : xmr 174 = some .int := by decide +kernel
set_option maxRecDepth 100000 in
theorem lm_175 : xml 175 = 7 := by decide +kernel
set_option maxRecDepth 100000 in
theorem jl_175 : 175 < xMs.length := by decide +kernel
set_option maxRecDepth 100000 in
theorem mn_175 : xmn 175 = 6 := by decide +kernel
set_option maxRecDepth 100000 in
theorem h_175_67 : xlk xCL (xmo 175) 67 = some (65, 1, 644, 645, 646) := by decide +kernel
set_option maxRecDepth 100000 in
theorem mo_65 : xmo 65 = 6 := by decide +kernel
set_option maxRecDepth 100000 in
theorem mr_175 : xmr 175 = some .int := by decide +kernel
set_option maxRecDepth 100000 in
theorem lm_176 : xml 176 = 6 := by decide +kernel
set_option maxRecDepth 100000 in
theorem jl_176 : 176 < xMs.length := by decide +kernel
set_option maxRecDepth 100000 in
theorem mn_176 : xmn 176 = 5 := by decide +kernel
set_option maxRecDepth 100000 in
theorem h_176_70 : xlk xCL (xmo 176) 70 = some (66, 1, 657, 658, 659) := by decide +kernel
set_option maxRecDepth 100000 in
theorem mo_66 : xmo 66 = 6 := by decide +kernel
set_option maxRecDepth 100000 in
theorem mr_176 : xmr 176 = some .int := by decide +kernel
set_option maxRecDepth 100000 in
theorem lm_177 : xml 177 = 6 := by decide +kernel
set_option maxRecDepth 100000 in
theorem jl_177 : 177 < xMs.length := by decide +kernel
set_option maxRecDepth 100000 in
theorem mn_177 : xmn 177 = 5 := by decide +kernel
set_option maxRecDepth 100000 in
theorem h_177_73 : xlk xCL (xmo 177) 73 = some (67, 1, 669, 670, 671) := by decide +kernel
set_option maxRecDepth 100000 in
theorem mo_67 : xmo 67 = 6 := by decide +kernel
set_option maxRecDepth 100000 in
theorem mr_177 : xmr 177 = some .int := by decide +kernel
set_option maxRecDepth 100000 in
theorem lm_178 : xml 178 = 6 := by decide +kernel
set_option maxRecDepth 100000 in
theorem jl_178 : 178 < xMs.length := by decide +kernel
set_option maxRecDepth 100000 in
theorem mn_178 : xmn 178 = 5 := by decide +kernel
set_option maxRecDepth 100000 in
theorem h_178_76 : xlk xCL (xmo 178) 76 = some (68, 1, 681, 682, 683) := by decide +kernel
set_option maxRecDepth 100000 in
theorem mo_68 : xmo 68 = 6 := by decide +kernel
set_option maxRecDepth 100000 in
theorem mr_178 : xmr 178 = some .int := by decide +kernel
set_option maxRecDepth 100000 in
theorem lm_179 : xml 179 = 6 := by decide +kernel
set_option maxRecDepth 100000 in
theorem jl_179 : 179 < xMs.length := by decide +kernel
set_option maxRecDepth 100000 in
theorem mn_179 : xmn 179 = 5 := by decide +kernel
set_option maxRecDepth 100000 in
theorem h_179_79 : xlk xCL (xmo 179) 79 = some (69, 1, 688, 689, 690) := by decide +kernel
set_option maxRecDepth 100000 in
theorem mo_69 : xmo 69 = 6 := by decide +kernel
set_option maxRecDepth 100000 in
theorem mr_179 : xmr 179 = some .int := by decide +kernel
set_option maxRecDepth 100000 in
theorem lm_180 : xml 180 = 6 := by decide +kernel
set_option maxRecDepth 100000 in
theorem jl_180 : 180 < xMs.length := by decide +kernel
set_option maxRecDepth 100000 in
theorem mn_180 : xmn 180 = 5 := by decide +kernel
set_option maxRecDepth 100000 in
theorem h_180_82 : xlk xCL (xmo 180) 82 = some (70, 1, 717, 718, 719) := by decide +kernel
set_option maxRecDepth 100000 in
theorem mo_70 : xmo 70 = 6 := by decide +kernel
set_option maxRecDepth 100000 in
theorem mr_180 : xmr 180 = some .int := by decide +kernel
set_option maxRecDepth 100000 in
theorem lm_181 : xml 181 = 7 := by decide +kernel
set_option maxRecDepth 100000 in
theorem jl_181 : 181 < xMs.length := by decide +kernel
set_option maxRecDepth 100000 in
theorem mn_181 : xmn 181 = 6 := by decide +kernel
set_option maxRecDepth 100000 in
theorem h_181_85 : xlk xCL (xmo 181) 85 = some (71, 1, 735, 736, 737) := by decide +kernel
set_option maxRecDepth 100000 in
theorem mo_71 : xmo 71 = 6 := by decide +kernel
set_option maxRecDepth 100000 in
theorem mr_181 : xmr 181 = some .int := by decide +kernel
set_option maxRecDepth 100000 in
theorem lm_182 : xml 182 = 6 := by decide +kernel
set_option maxRecDepth 100000 in
theorem jl_182 : 182 < xMs.length := by decide +kernel
set_option maxRecDepth 100000 in
theorem mn_182 : xmn 182 = 5 := by decide +kernel
set_option maxRecDepth 100000 in
theorem h_182_88 : xlk xCL (xmo 182) 88 = some (72, 1, 743, 744, 745) := by decide +kernel
set_option maxRecDepth 100000 in
theorem mo_72 : xmo 72 = 6 := by decide +kernel
set_option maxRecDepth 100000 in
theorem mr_182 : xmr 182 = some .int := by decide +kernel
set_option maxRecDepth 100000 in
theorem lm_183 : xml 183 = 9 := by decide +kernel
set_option maxRecDepth 100000 in
theorem jl_183 : 183 < xMs.length := by decide +kernel
set_option maxRecDepth 100000 in
theorem mn_183 : xmn 183 = 8 := by decide +kernel
set_option maxRecDepth 100000 in
theorem h_183_91 : xlk xCL (xmo 183) 91 = some (73, 1, 758, 759, 760) := by decide +kernel
set_option maxRecDepth 100000 in
theorem mo_73 : xmo 73 = 6 := by decide +kernel
set_option maxRecDepth 100000 in
theorem mr_183 : xmr 183 = some .int := by decide +kernel
set_option maxRecDepth 100000 in
theorem lm_184 : xml 184 = 4 := by decide +kernel
set_option maxRecDepth 100000 in
theorem jl_184 : 184 < xMs.length := by decide +kernel
set_option maxRecDepth 100000 in
theorem mn_184 : xmn 184 = 3 := by decide +kernel
set_option maxRecDepth 100000 in
theorem h_184_95 : xlk xCL (xmo 184) 95 = some (74, 1, 775, 776, 777) := by decide +kernel
set_option maxRecDepth 100000 in
theorem mo_74 : xmo 74 = 6 := by decide +kernel
set_option maxRecDepth 100000 in
theorem mr_184 : xmr 184 = some .int := by decide +kernel
set_option maxRecDepth 100000 in
theorem lm_185 : xml 185 = 6 := by decide +kernel
set_option maxRecDepth 100000 in
theorem jl_185 : 185 < xMs.length := by decide +kernel
set_option maxRecDepth 100000 in
theorem mn_185 : xmn 185 = 5 := by decide +kernel
set_option maxRecDepth 100000 in
theorem h_185_98 : xlk xCL (xmo 185) 98 = some (75, 1, 787, 788, 789) := by decide +kernel
set_option maxRecDepth 100000 in
theorem mo_75 : xmo 75 = 6 := by decide +kernel
set_option maxRecDepth 100000 in
theorem mr_185 : xmr 185 = some .int := by decide +kernel
set_option maxRecDepth 100000 in
theorem lm_186 : xml 186 = 7 := by decide +kernel
set_option maxRecDepth 100000 in
theorem jl_186 : 186 < xMs.length := by decide +kernel
set_option maxRecDepth 100000 in
theorem mn_186 : xmn 186 = 6 := by decide +kernel
set_option maxRecDepth 100000 in
theorem h_186_101 : xlk xCL (xmo 186) 101 = some (76, 1, 794, 795, 796) := by decide +kernel
set_option maxRecDepth 100000 in
theorem mo_76 : xmo 76 = 6 := by decide +kernel
set_option maxRecDepth 100000 in
theorem mr_186 : xmr 186 = some .int := by decide +kernel
set_option maxRecDepth 100000 in
theorem lm_187 : xml 187 = 6 := by decide +kernel
set_option maxRecDepth 100000 in
theorem jl_187 : 187 < xMs.length := by decide +kernel
set_option maxRecDepth 100000 in
theorem mn_187 : xmn 187 = 5 := by decide +kernel
set_option maxRecDepth 100000 in
theorem h_187_104 : xlk xCL (xmo 187) 104 = some (77, 1, 805, 806, 807) := by decide +kernel
set_option maxRecDepth 100000 in
theorem mo_77 : xmo 77 = 6 := by decide +kernel
set_option maxRecDepth 100000 in
theorem mr_187 : xmr 187 = some .int := by decide +kernel
set_option maxRecDepth 100000 in
theorem lm_188 : xml 188 = 7 := by decide +kernel
set_option maxRecDepth 100000 in
theorem jl_188 : 188 < xMs.length := by decide +kernel
set_option maxRecDepth 100000 in
theorem mn_188 : xmn 188 = 1 := by decide +kernel
set_option maxRecDepth 100000 in
theorem q_188_8 : xlk xKL (xmo 188) 8 = some (6, 63) := by decide +kernel
set_option maxRecDepth 100000 in
theorem h_188_107 : xlk xCL (xmo 188) 107 = some (49, 2, 65, 66, 0) := by decide +kernel
set_option maxRecDepth 100000 in
theorem mo_49 : xmo 49 = 6 := by decide +kernel
set_option maxRecDepth 100000 in
theorem q_188_108 : xlk xKL (xmo 188) 108 = some (7, 809) := by decide +kernel
set_option maxRecDepth 100000 in
theorem h_188_110 : xlk xCL (xmo 188) 110 = some (91, 2, 811, 812, 0) := by decide +kernel
set_option maxRecDepth 100000 in
theorem mo_91 : xmo 91 = 7 := by decide +kernel
set_option maxRecDepth 100000 in
theorem h_188_111 : xlk xCL (xmo 188) 111 = some (160, 0, 185, 186, 0) := by decide +kernel
set_option maxRecDepth 100000 in
theorem h_188_116 : xlk xCL (xmo 188) 116 = some (99, 1, 908, 909, 910) := by decide +kernel
set_option maxRecDepth 100000 in
theorem mo_99 : xmo 99 = 7 := by decide +kernel
set_option maxRecDepth 100000 in
theorem h_188_117 : xlk xCL (xmo 188) 117 = some (92, 1, 904, 905, 906) := by decide +kernel
set_option maxRecDepth 100000 in
theorem mo_92 : xmo 92 = 7 := by decide +kernel
set_option maxRecDepth 100000 in
theorem mr_188 : xmr 188 = some .boolean := by decide +kernel
set_option maxRecDepth 100000 in
theorem h_188_121 : xlk xCL (xmo 188) 121 = some (161, 0, 293, 294, 0) := by decide +kernel
set_option maxRecDepth 100000 in
theorem h_188_124 : xlk xCL (xmo 188) 124 = some (100, 1, 919, 920, 921) := by decide +kernel
set_option maxRecDepth 100000 in
theorem mo_100 : xmo 100 = 7 := by decide +kernel
set_option maxRecDepth 100000 in
theorem h_188_125 : xlk xCL (xmo 188) 125 = some (162, 0, 333, 334, 0) := by decide +kernel
set_option maxRecDepth 100000 in
theorem h_188_128 : xlk xCL (xmo 188) 128 = some (104, 1, 930, 931, 932) := by decide +kernel
set_option maxRecDepth 100000 in
theorem mo_104 : xmo 104 = 7 := by decide +kernel
set_option maxRecDepth 100000 in
theorem h_188_129 : xlk xCL (xmo 188) 129 = some (163, 0, 417, 418, 0) := by decide +kernel
set_option maxRecDepth 100000 in
theorem h_188_132 : xlk xCL (xmo 188) 132 = some (106, 1, 945, 946, 947) := by decide +kernel
set_option maxRecDepth 100000 in
theorem mo_106 : xmo 106 = 7 := by decide +kernel
set_option maxRecDepth 100000 in
theorem h_188_133 : xlk xCL (xmo 188) 133 = some (164, 0, 437, 438, 0) := by decide +kernel
set_option maxRecDepth 100000 in
theorem h_188_136 : xlk xCL (xmo 188) 136 = some (107, 1, 952, 953, 954) := by decide +kernel
set_option maxRecDepth 100000 in
theorem mo_107 : xmo 107 = 7 := by decide +kernel
set_option maxRecDepth 100000 in
theorem h_188_137 : xlk xCL (xmo 188) 137 = some (165, 0, 450, 451, 0) := by decide +kernel
set_option maxRecDepth 100000 in
theorem h_188_139 : xlk xCL (xmo 188) 139 = some (109, 1, 960, 961, 962) := by decide +kernel
set_option maxRecDepth 100000 in
theorem mo_109 : xmo 109 = 7 := by decide +kernel
set_option maxRecDepth 100000 in
theorem h_188_140 : xlk xCL (xmo 188) 140 = some (166, 0, 471, 472, 0) := by decide +kernel
set_option maxRecDepth 100000 in
theorem h_188_142 : xlk xCL (xmo 188) 142 = some (111, 1, 969, 970, 971) := by decide +kernel
set_option maxRecDepth 100000 in
theorem mo_111 : xmo 111 = 7 := by decide +kernel
set_option maxRecDepth 100000 in
theorem h_188_143 : xlk xCL (xmo 188) 143 = some (167, 0, 478, 479, 0) := by decide +kernel
set_option maxRecDepth 100000 in
theorem h_188_145 : xlk xCL (xmo 188) 145 = some (113, 1, 973, 974, 975) := by decide +kernel
set_option maxRecDepth 100000 in
theorem mo_113 : xmo 113 = 7 := by decide +kernel
set_option maxRecDepth 100000 in
theorem h_188_146 : xlk xCL (xmo 188) 146 = some (168, 0, 492, 493, 0) := by decide +kernel
set_option maxRecDepth 100000 in
theorem h_188_149 : xlk xCL (xmo 188) 149 = some (116, 1, 985, 986, 987) := by decide +kernel
set_option maxRecDepth 100000 in
theorem mo_116 : xmo 116 = 7 := by decide +kernel
set_option maxRecDepth 100000 in
theorem h_188_150 : xlk xCL (xmo 188) 150 = some (169, 0, 512, 513, 0) := by decide +kernel
set_option maxRecDepth 100000 in
theorem h_188_152 : xlk xCL (xmo 188) 152 = some (117, 1, 996, 997, 998) := by decide +kernel
set_option maxRecDepth 100000 in
theorem mo_117 : xmo 117 = 7 := by decide +kernel
set_option maxRecDepth 100000 in
theorem h_188_153 : xlk xCL (xmo 188) 153 = some (170, 0, 524, 525, 0) := by decide +kernel
set_option maxRecDepth 100000 in
theorem h_188_155 : xlk xCL (xmo 188) 155 = some (124, 1, 1004, 1005, 1006) := by decide +kernel
set_option maxRecDepth 100000 in
theorem mo_124 : xmo 124 = 7 := by decide +kernel
set_option maxRecDepth 100000 in
theorem h_188_156 : xlk xCL (xmo 188) 156 = some (171, 0, 580, 581, 0) := by decide +kernel
set_option maxRecDepth 100000 in
theorem h_188_158 : xlk xCL (xmo 188) 158 = some (125, 1, 1033, 1034, 1035) := by decide +kernel
set_option maxRecDepth 100000 in
theorem mo_125 : xmo 125 = 7 := by decide +kernel
set_option maxRecDepth 100000 in
theorem h_188_159 : xlk xCL (xmo 188) 159 = some (172, 0, 592, 593, 0) := by decide +kernel
set_option maxRecDepth 100000 in
theorem h_188_161 : xlk xCL (xmo 188) 161 = some (127, 1, 1037, 1038, 1039) := by decide +kernel
set_option maxRecDepth 100000 in
theorem mo_127 : xmo 127 = 7 := by decide +kernel
set_option maxRecDepth 100000 in
theorem h_188_162 : xlk xCL (xmo 188) 162 = some (173, 0, 621, 622, 0) := by decide +kernel
set_option maxRecDepth 100000 in
theorem h_188_164 : xlk xCL (xmo 188) 164 = some (128, 1, 1045, 1046, 1047) := by decide +kernel
set_option maxRecDepth 100000 in
theorem mo_128 : xmo 128 = 7 := by decide +kernel
set_option maxRecDepth 100000 in
theorem h_188_165 : xlk xCL (xmo 188) 165 = some (174, 0, 634, 635, 0) := by decide +kernel
set_option maxRecDepth 100000 in
theorem h_188_167 : xlk xCL (xmo 188) 167 = some (129, 1, 1049, 1050, 1051) := by decide +kernel
set_option maxRecDepth 100000 in
theorem mo_129 : xmo 129 = 7 := by decide +kernel
set_option maxRecDepth 100000 in
theorem h_188_168 : xlk xCL (xmo 188) 168 = some (175, 0, 641, 642, 0) := by decide +kernel
set_option maxRecDepth 100000 in
theorem h_188_170 : xlk xCL (xmo 188) 170 = some (131, 1, 1053, 1054, 1055) := by decide +kernel
set_option maxRecDepth 100000 in
theorem mo_131 : xmo 131 = 7 := by decide +kernel
set_option maxRecDepth 100000 in
theorem h_188_171 : xlk xCL (xmo 188) 171 = some (176, 0, 654, 655, 0) := by decide +kernel
set_option maxRecDepth 100000 in
theorem h_188_173 : xlk xCL (xmo 188) 173 = some (136, 1, 1061, 1062, 1063) := by decide +kernel
set_option maxRecDepth 100000 in
theorem mo_136 : xmo 136 = 7 := by decide +kernel
set_option maxRecDepth 100000 in
theorem h_188_174 : xlk xCL (xmo 188) 174 = some (177, 0, 666, 667, 0) := by decide +kernel
set_option maxRecDepth 100000 in
theorem h_188_176 : xlk xCL (xmo 188) 176 = some (137, 1, 1075, 1076, 1077) := by decide +kernel
set_option maxRecDepth 100000 in
theorem mo_137 : xmo 137 = 7 := by decide +kernel
set_option maxRecDepth 100000 in
theorem h_188_177 : xlk xCL (xmo 188) 177 = some (178, 0, 678, 679, 0) := by decide +kernel
set_option maxRecDepth 100000 in
theorem h_188_179 : xlk xCL (xmo 188) 179 = some (138, 1, 1082, 1083, 1084) := by decide +kernel
set_option maxRecDepth 100000 in
theorem mo_138 : xmo 138 = 7 := by decide +kernel
set_option maxRecDepth 100000 in
theorem h_188_180 : xlk xCL (xmo 188) 180 = some (179, 0, 685, 686, 0) := by decide +kernel
set_option maxRecDepth 100000 in
theorem h_188_182 : xlk xCL (xmo 188) 182 = some (144, 1, 1086, 1087, 1088) := by decide +kernel
set_option maxRecDepth 100000 in
theorem h_188_183 : xlk xCL (xmo 188) 183 = some (180, 0, 714, 715, 0) := by decide +kernel
set_option maxRecDepth 100000 in
theorem h_188_185 : xlk xCL (xmo 188) 185 = some (145, 1, 1109, 1110, 1111) := by decide +kernel
set_option maxRecDepth 100000 in
theorem mo_145 : xmo 145 = 7 := by decide +kernel
set_option maxRecDepth 100000 in
theorem h_188_186 : xlk xCL (xmo 188) 186 = some (181, 0, 732, 733, 0) := by decide +kernel
set_option maxRecDepth 100000 in
theorem h_188_188 : xlk xCL (xmo 188) 188 = some (146, 1, 1114, 1115, 1116) := by decide +kernel
set_option maxRecDepth 100000 in
theorem mo_146 : xmo 146 = 7 := by decide +kernel
set_option maxRecDepth 100000 in
theorem h_188_189 : xlk xCL (xmo 188) 189 = some (182, 0, 740, 741, 0) := by decide +kernel
set_option maxRecDepth 100000 in
theorem h_188_191 : xlk xCL (xmo 188) 191 = some (147, 1, 1118, 1119, 1120) := by decide +kernel
set_option maxRecDepth 100000 in
theorem mo_147 : xmo 147 = 7 := by decide +kernel
set_option maxRecDepth 100000 in
theorem h_188_192 : xlk xCL (xmo 188) 192 = some (183, 0, 755, 756, 0) := by decide +kernel
set_option maxRecDepth 100000 in
theorem h_188_195 : xlk xCL (xmo 188) 195 = some (149, 1, 1122, 1123, 1124) := by decide +kernel
set_option maxRecDepth 100000 in
theorem mo_149 : xmo 149 = 7 := by decide +kernel
set_option maxRecDepth 100000 in
theorem h_188_196 : xlk xCL (xmo 188) 196 = some (184, 0, 772, 773, 0) := by decide +kernel
set_option maxRecDepth 100000 in
theorem h_188_198 : xlk xCL (xmo 188) 198 = some (150, 1, 1130, 1131, 1132) := by decide +kernel
set_option maxRecDepth 100000 in
theorem mo_150 : xmo 150 = 7 := by decide +kernel
set_option maxRecDepth 100000 in
theorem h_188_199 : xlk xCL (xmo 188) 199 = some (185, 0, 784, 785, 0) := by decide +kernel
set_option maxRecDepth 100000 in
theorem h_188_201 : xlk xCL (xmo 188) 201 = some (151, 1, 1134, 1135, 1136) := by decide +kernel
set_option maxRecDepth 100000 in
theorem mo_151 : xmo 151 = 7 := by decide +kernel
set_option maxRecDepth 100000 in
theorem h_188_202 : xlk xCL (xmo 188) 202 = some (186, 0, 791, 792, 0) := by decide +kernel
set_option maxRecDepth 100000 in
theorem h_188_204 : xlk xCL (xmo 188) 204 = some (154, 1, 1138, 1139, 1140) := by decide +kernel
set_option maxRecDepth 100000 in
theorem mo_154 : xmo 154 = 7 := by decide +kernel
set_option maxRecDepth 100000 in
theorem h_188_205 : xlk xCL (xmo 188) 205 = some (187, 0, 802, 803, 0) := by decide +kernel
set_option maxRecDepth 100000 in
theorem h_188_207 : xlk xCL (xmo 188) 207 = some (155, 1, 1150, 1151, 1152) := by decide +kernel
set_option maxRecDepth 100000 in
theorem mo_155 : xmo 155 = 7 := by decide +kernel
set_option maxRecDepth 100000 in
theorem h_188_208 : xlk xCL (xmo 188) 208 = some (78, 1, 181, 182, 183) := by decide +kernel
set_option maxRecDepth 100000 in
theorem mo_78 : xmo 78 = 6 := by decide +kernel
set_option maxRecDepth 100000 in
theorem h_188_211 : xlk xCL (xmo 188) 211 = some (156, 1, 1154, 1155, 1156) := by decide +kernel
set_option maxRecDepth 100000 in
theorem mo_156 : xmo 156 = 7 := by decide +kernel
end
section
/-! instructions, by program (gen2.py) -/
set_option maxRecDepth 100000 in
theorem f_0_0 : xft 0 0 = some (.aload_n 0) := by decide +kernel
set_option maxRecDepth 100000 in
theorem f_0_1 : xft 0 1 = some (.invokespecial 3) := by decide +kernel
set_option maxRecDepth 100000 in
theorem f_0_4 : xft 0 4 = some (.aload_n 0) := by decide +kernel
set_option maxRecDepth 100000 in
theorem f_0_5 : xft 0 5 = some (.iload_n 1) := by decide +kernel
set_option maxRecDepth 100000 in
theorem f_0_6 : xft 0 6 = some (.putfield 9) := by decide +kernel
set_option maxRecDepth 100000 in
theorem f_0_9 : xft 0 9 = some (.aload_n 0) := by decide +kernel
set_option maxRecDepth 100000 in
theorem f_0_10 : xft 0 10 = some (.bipush 96) := by decide +kernel
set_option maxRecDepth 100000 in
theorem f_0_12 : xft 0 12 = some (.newarray .boolean) := by decide +kernel
set_option maxRecDepth 100000 in
theorem f_0_14 : xft 0 14 = some (.putfield 15) := by decide +kernel
set_option maxRecDepth 100000 in
theorem f_0_17 : xft 0 17 = some (.return_) := by decide +kernel
set_option maxRecDepth 100000 in
theorem f_1_0 : xft 1 0 = some (.iload_n 2) := by decide +kernel
set_option maxRecDepth 100000 in
theorem f_1_1 : xft 1 1 = some (.istore 5) := by decide +kernel
set_option maxRecDepth 100000 in
theorem f_1_3 : xft 1 3 = some (.iload 5) := by decide +kernel
set_option maxRecDepth 100000 in
theorem f_1_5 : xft 1 5 = some (.iload_n 2) := by decide +kernel
set_option maxRecDepth 100000 in
theorem f_1_6 : xft 1 6 = some (.iload 4) := by decide +kernel
set_option maxRecDepth 100000 in
theorem f_1_8 : xft 1 8 = some (.iadd) := by decide +kernel
set_option maxRecDepth 100000 in
theorem f_1_9 : xft 1 9 = some (.if_icmp .ge 40) := by decide +kernel
set_option maxRecDepth 100000 in
theorem f_1_12 : xft 1 12 = some (.iload_n 1) := by decide +kernel
set_option maxRecDepth 100000 in
theorem f_1_13 : xft 1 13 = some (.istore 6) := by decide +kernel
set_option maxRecDepth 100000 in
theorem f_1_15 : xft 1 15 = some (.iload 6) := by decide +kernel
set_option maxRecDepth 100000 in
theorem f_1_17 : xft 1 17 = some (.iload_n 1) := by decide +kernel
set_option maxRecDepth 100000 in
theorem f_1_18 : xft 1 18 = some (.iload_n 3) := by decide +kernel
set_option maxRecDepth 100000 in
theorem f_1_19 : xft 1 19 = some (.iadd) := by decide +kernel
set_option maxRecDepth 100000 in
theorem f_1_20 : xft 1 20 = some (.if_icmp .ge 23) := by decide +kernel
set_option maxRecDepth 100000 in
theorem f_1_23 : xft 1 23 = some (.aload_n 0) := by decide +kernel
set_option maxRecDepth 100000 in
theorem f_1_24 : xft 1 24 = some (.getfield 15) := by decide +kernel
set_option maxRecDepth 100000 in
theorem f_1_27 : xft 1 27 = some (.iload 5) := by decide +kernel
set_option maxRecDepth 100000 in
theorem f_1_29 : xft 1 29 = some (.bipush 12) := by decide +kernel
set_option maxRecDepth 100000 in
theorem f_1_31 : xft 1 31 = some (.imul) := by decide +kernel
set_option maxRecDepth 100000 in
theorem f_1_32 : xft 1 32 = some (.iload 6) := by decide +kernel
set_option maxRecDepth 100000 in
theorem f_1_34 : xft 1 34 = some (.iadd) := by decide +kernel
set_option maxRecDepth 100000 in
theorem f_1_35 : xft 1 35 = some (.iconst 1) := by decide +kernel
set_option maxRecDepth 100000 in
theorem f_1_36 : xft 1 36 = some (.bastore) := by decide +kernel
set_option maxRecDepth 100000 in
theorem f_1_37 : xft 1 37 = some (.iinc 6 1) := by decide +kernel
set_option maxRecDepth 100000 in
theorem f_1_40 : xft 1 40 = some (.goto (-25)) := by decide +kernel
set_option maxRecDepth 100000 in
theorem f_1_43 : xft 1 43 = some (.iinc 5 1) := by decide +kernel
set_option maxRecDepth 100000 in
theorem f_1_46 : xft 1 46 = some (.goto (-43)) := by decide +kernel
set_option maxRecDepth 100000 in
theorem f_1_49 : xft 1 49 = some (.return_) := by decide +kernel
set_option maxRecDepth 100000 in
theorem f_2_0 : xft 2 0 = some (.iconst 0) := by decide +kernel
set_option maxRecDepth 100000 in
theorem f_2_1 : xft 2 1 = some (.istore_n 1) := by decide +kernel
set_option maxRecDepth 100000 in
theorem f_2_2 : xft 2 2 = some (.aload_n 0) := by decide +kernel
set_option maxRecDepth 100000 in
theorem f_2_3 : xft 2 3 = some (.getfield 15) := by decide +kernel
set_option maxRecDepth 100000 in
theorem f_2_6 : xft 2 6 = some (.astore_n 2) := by decide +kernel
set_option maxRecDepth 100000 in
theorem f_2_7 : xft 2 7 = some (.aload_n 2) := by decide +kernel
set_option maxRecDepth 100000 in
theorem f_2_8 : xft 2 8 = some (.arraylength) := by decide +kernel
set_option maxRecDepth 100000 in
theorem f_2_9 : xft 2 9 = some (.istore_n 3) := by decide +kernel
set_option maxRecDepth 100000 in
theorem f_2_10 : xft 2 10 = some (.iconst 0) := by decide +kernel
set_option maxRecDepth 100000 in
theorem f_2_11 : xft 2 11 = some (.istore 4) := by decide +kernel
set_option maxRecDepth 100000 in
theorem f_2_13 : xft 2 13 = some (.iload 4) := by decide +kernel
set_option maxRecDepth 100000 in
theorem f_2_15 : xft 2 15 = some (.iload_n 3) := by decide +kernel
set_option maxRecDepth 100000 in
theorem f_2_16 : xft 2 16 = some (.if_icmp .ge 28) := by decide +kernel
set_option maxRecDepth 100000 in
theorem f_2_19 : xft 2 19 = some (.aload_n 2) := by decide +kernel
set_option maxRecDepth 100000 in
theorem f_2_20 : xft 2 20 = some (.iload 4) := by decide +kernel
set_option maxRecDepth 100000 in
theorem f_2_22 : xft 2 22 = some (.baload) := by decide +kernel
set_option maxRecDepth 100000 in
theorem f_2_23 : xft 2 23 = some (.istore 5) := by decide +kernel
set_option maxRecDepth 100000 in
theorem f_2_25 : xft 2 25 = some (.iload_n 1) := by decide +kernel
set_option maxRecDepth 100000 in
theorem f_2_26 : xft 2 26 = some (.iload 5) := by decide +kernel
set_option maxRecDepth 100000 in
theorem f_2_28 : xft 2 28 = some (.ifCond .eq 7) := by decide +kernel
set_option maxRecDepth 100000 in
theorem f_2_31 : xft 2 31 = some (.iconst 0) := by decide +kernel
set_option maxRecDepth 100000 in
theorem f_2_32 : xft 2 32 = some (.goto 4) := by decide +kernel
set_option maxRecDepth 100000 in
theorem f_2_35 : xft 2 35 = some (.iconst 1) := by decide +kernel
set_option maxRecDepth 100000 in
theorem f_2_36 : xft 2 36 = some (.iadd) := by decide +kernel
set_option maxRecDepth 100000 in
theorem f_2_37 : xft 2 37 = some (.istore_n 1) := by decide +kernel
set_option maxRecDepth 100000 in
theorem f_2_38 : xft 2 38 = some (.iinc 4 1) := by decide +kernel
set_option maxRecDepth 100000 in
theorem f_2_41 : xft 2 41 = some (.goto (-28)) := by decide +kernel
set_option maxRecDepth 100000 in
theorem f_2_44 : xft 2 44 = some (.iload_n 1) := by decide +kernel
set_option maxRecDepth 100000 in
theorem f_2_45 : xft 2 45 = some (.ireturn) := by decide +kernel
set_option maxRecDepth 100000 in
theorem f_3_0 : xft 3 0 = some (.iload_n 1) := by decide +kernel
set_option maxRecDepth 100000 in
theorem f_3_1 : xft 3 1 = some (.iload_n 2) := by decide +kernel
set_option maxRecDepth 100000 in
theorem f_3_2 : xft 3 2 = some (.invokestatic 19) := by decide +kernel
set_option maxRecDepth 100000 in
theorem f_3_5 : xft 3 5 = some (.ifCond .eq 12) := by decide +kernel
set_option maxRecDepth 100000 in
theorem f_3_8 : xft 3 8 = some (.aload_n 0) := by decide +kernel
set_option maxRecDepth 100000 in
theorem f_3_9 : xft 3 9 = some (.getfield 9) := by decide +kernel
set_option maxRecDepth 100000 in
theorem f_3_12 : xft 3 12 = some (.iconst 1) := by decide +kernel
set_option maxRecDepth 100000 in
theorem f_3_13 : xft 3 13 = some (.isub) := by decide +kernel
set_option maxRecDepth 100000 in
theorem f_3_14 : xft 3 14 = some (.goto 7) := by decide +kernel
set_option maxRecDepth 100000 in
theorem f_3_17 : xft 3 17 = some (.aload_n 0) := by decide +kernel
set_option maxRecDepth 100000 in
theorem f_3_18 : xft 3 18 = some (.getfield 9) := by decide +kernel
set_option maxRecDepth 100000 in
theorem f_3_21 : xft 3 21 = some (.ireturn) := by decide +kernel
set_option maxRecDepth 100000 in
theorem f_4_0 : xft 4 0 = some (.iload 5) := by decide +kernel
set_option maxRecDepth 100000 in
theorem f_4_2 : xft 4 2 = some (.ifCond .eq 12) := by decide +kernel
set_option maxRecDepth 100000 in
theorem f_4_5 : xft 4 5 = some (.iload_n 2) := by decide +kernel
set_option maxRecDepth 100000 in
theorem f_4_6 : xft 4 6 = some (.iload 4) := by decide +kernel
set_option maxRecDepth 100000 in
theorem f_4_8 : xft 4 8 = some (.invokestatic 19) := by decide +kernel
set_option maxRecDepth 100000 in
theorem f_4_11 : xft 4 11 = some (.ifCond .ne 19) := by decide +kernel
set_option maxRecDepth 100000 in
theorem f_4_14 : xft 4 14 = some (.aload_n 0) := by decide +kernel
set_option maxRecDepth 100000 in
theorem f_4_15 : xft 4 15 = some (.iload_n 1) := by decide +kernel
set_option maxRecDepth 100000 in
theorem f_4_16 : xft 4 16 = some (.iload_n 2) := by decide +kernel
set_option maxRecDepth 100000 in
theorem f_4_17 : xft 4 17 = some (.iload_n 3) := by decide +kernel
set_option maxRecDepth 100000 in
theorem f_4_18 : xft 4 18 = some (.iload 4) := by decide +kernel
set_option maxRecDepth 100000 in
theorem f_4_20 : xft 4 20 = some (.invokevirtual 23) := by decide +kernel
set_option maxRecDepth 100000 in
theorem f_4_23 : xft 4 23 = some (.ifCond .eq 7) := by decide +kernel
set_option maxRecDepth 100000 in
theorem f_4_26 : xft 4 26 = some (.iconst 1) := by decide +kernel
set_option maxRecDepth 100000 in
theorem f_4_27 : xft 4 27 = some (.goto 4) := by decide +kernel
set_option maxRecDepth 100000 in
theorem f_4_30 : xft 4 30 = some (.iconst 0) := by decide +kernel
set_option maxRecDepth 100000 in
theorem f_4_31 : xft 4 31 = some (.ireturn) := by decide +kernel
set_option maxRecDepth 100000 in
theorem f_5_0 : xft 5 0 = some (.iconst (-1)) := by decide +kernel
set_option maxRecDepth 100000 in
theorem f_5_1 : xft 5 1 = some (.istore 5) := by decide +kernel
set_option maxRecDepth 100000 in
theorem f_5_3 : xft 5 3 = some (.iconst 0) := by decide +kernel
set_option maxRecDepth 100000 in
theorem f_5_4 : xft 5 4 = some (.istore 6) := by decide +kernel
set_option maxRecDepth 100000 in
theorem f_5_6 : xft 5 6 = some (.iconst 0) := by decide +kernel
set_option maxRecDepth 100000 in
theorem f_5_7 : xft 5 7 = some (.istore 7) := by decide +kernel
set_option maxRecDepth 100000 in
theorem f_5_9 : xft 5 9 = some (.iload 7) := by decide +kernel
set_option maxRecDepth 100000 in
theorem f_5_11 : xft 5 11 = some (.iload_n 2) := by decide +kernel
set_option maxRecDepth 100000 in
theorem f_5_12 : xft 5 12 = some (.iadd) := by decide +kernel
set_option maxRecDepth 100000 in
theorem f_5_13 : xft 5 13 = some (.bipush 8) := by decide +kernel
set_option maxRecDepth 100000 in
theorem f_5_15 : xft 5 15 = some (.if_icmp .gt 90) := by decide +kernel
set_option maxRecDepth 100000 in
theorem f_5_18 : xft 5 18 = some (.iload 7) := by decide +kernel
set_option maxRecDepth 100000 in
theorem f_5_20 : xft 5 20 = some (.iload_n 1) := by decide +kernel
set_option maxRecDepth 100000 in
theorem f_5_21 : xft 5 21 = some (.iload_n 2) := by decide +kernel
set_option maxRecDepth 100000 in
theorem f_5_22 : xft 5 22 = some (.invokestatic 27) := by decide +kernel
set_option maxRecDepth 100000 in
theorem f_5_25 : xft 5 25 = some (.istore 8) := by decide +kernel
set_option maxRecDepth 100000 in
theorem f_5_27 : xft 5 27 = some (.iload 5) := by decide +kernel
set_option maxRecDepth 100000 in
theorem f_5_29 : xft 5 29 = some (.iconst (-1)) := by decide +kernel
set_option maxRecDepth 100000 in
theorem f_5_30 : xft 5 30 = some (.if_icmp .eq 10) := by decide +kernel
set_option maxRecDepth 100000 in
theorem f_5_33 : xft 5 33 = some (.iload 8) := by decide +kernel
set_option maxRecDepth 100000 in
theorem f_5_35 : xft 5 35 = some (.iload 6) := by decide +kernel
set_option maxRecDepth 100000 in
theorem f_5_37 : xft 5 37 = some (.if_icmp .ge 7) := by decide +kernel
set_option maxRecDepth 100000 in
theorem f_5_40 : xft 5 40 = some (.iconst 1) := by decide +kernel
set_option maxRecDepth 100000 in
theorem f_5_41 : xft 5 41 = some (.goto 4) := by decide +kernel
set_option maxRecDepth 100000 in
theorem f_5_44 : xft 5 44 = some (.iconst 0) := by decide +kernel
set_option maxRecDepth 100000 in
theorem f_5_45 : xft 5 45 = some (.istore 9) := by decide +kernel
set_option maxRecDepth 100000 in
theorem f_5_47 : xft 5 47 = some (.iload 9) := by decide +kernel
set_option maxRecDepth 100000 in
theorem f_5_49 : xft 5 49 = some (.ifCond .eq 27) := by decide +kernel
set_option maxRecDepth 100000 in
theorem f_5_52 : xft 5 52 = some (.aload_n 0) := by decide +kernel
set_option maxRecDepth 100000 in
theorem f_5_53 : xft 5 53 = some (.iload 7) := by decide +kernel
set_option maxRecDepth 100000 in
theorem f_5_55 : xft 5 55 = some (.iload_n 2) := by decide +kernel
set_option maxRecDepth 100000 in
theorem f_5_56 : xft 5 56 = some (.invokevirtual 31) := by decide +kernel
set_option maxRecDepth 100000 in
theorem f_5_59 : xft 5 59 = some (.iload 4) := by decide +kernel
set_option maxRecDepth 100000 in
theorem f_5_61 : xft 5 61 = some (.if_icmp .lt 15) := by decide +kernel
set_option maxRecDepth 100000 in
theorem f_5_64 : xft 5 64 = some (.aload_n 0) := by decide +kernel
set_option maxRecDepth 100000 in
theorem f_5_65 : xft 5 65 = some (.iload 7) := by decide +kernel
set_option maxRecDepth 100000 in
theorem f_5_67 : xft 5 67 = some (.iload_n 1) := by decide +kernel
set_option maxRecDepth 100000 in
theorem f_5_68 : xft 5 68 = some (.iload_n 2) := by decide +kernel
set_option maxRecDepth 100000 in
theorem f_5_69 : xft 5 69 = some (.iload_n 3) := by decide +kernel
set_option maxRecDepth 100000 in
theorem f_5_70 : xft 5 70 = some (.invokevirtual 35) := by decide +kernel
set_option maxRecDepth 100000 in
theorem f_5_73 : xft 5 73 = some (.goto 4) := by decide +kernel
set_option maxRecDepth 100000 in
theorem f_5_76 : xft 5 76 = some (.iconst (-1)) := by decide +kernel
set_option maxRecDepth 100000 in
theorem f_5_77 : xft 5 77 = some (.istore 10) := by decide +kernel
set_option maxRecDepth 100000 in
theorem f_5_79 : xft 5 79 = some (.iload 10) := by decide +kernel
set_option maxRecDepth 100000 in
theorem f_5_81 : xft 5 81 = some (.iconst (-1)) := by decide +kernel
set_option maxRecDepth 100000 in
theorem f_5_82 : xft 5 82 = some (.if_icmp .eq 17) := by decide +kernel
set_option maxRecDepth 100000 in
theorem f_5_85 : xft 5 85 = some (.bipush 12) := by decide +kernel
set_option maxRecDepth 100000 in
theorem f_5_87 : xft 5 87 = some (.iload 7) := by decide +kernel
set_option maxRecDepth 100000 in
theorem f_5_89 : xft 5 89 = some (.imul) := by decide +kernel
set_option maxRecDepth 100000 in
theorem f_5_90 : xft 5 90 = some (.iload 10) := by decide +kernel
set_option maxRecDepth 100000 in
theorem f_5_92 : xft 5 92 = some (.iadd) := by decide +kernel
set_option maxRecDepth 100000 in
theorem f_5_93 : xft 5 93 = some (.istore 5) := by decide +kernel
set_option maxRecDepth 100000 in
theorem f_5_95 : xft 5 95 = some (.iload 8) := by decide +kernel
set_option maxRecDepth 100000 in
theorem f_5_97 : xft 5 97 = some (.istore 6) := by decide +kernel
set_option maxRecDepth 100000 in
theorem f_5_99 : xft 5 99 = some (.iinc 7 1) := by decide +kernel
set_option maxRecDepth 100000 in
theorem f_5_102 : xft 5 102 = some (.goto (-93)) := by decide +kernel
set_option maxRecDepth 100000 in
theorem f_5_105 : xft 5 105 = some (.iload 5) := by decide +kernel
set_option maxRecDepth 100000 in
theorem f_5_107 : xft 5 107 = some (.ireturn) := by decide +kernel
set_option maxRecDepth 100000 in
theorem f_6_0 : xft 6 0 = some (.iconst 0) := by decide +kernel
set_option maxRecDepth 100000 in
theorem f_6_1 : xft 6 1 = some (.istore 5) := by decide +kernel
set_option maxRecDepth 100000 in
theorem f_6_3 : xft 6 3 = some (.iload 5) := by decide +kernel
set_option maxRecDepth 100000 in
theorem f_6_5 : xft 6 5 = some (.iload_n 2) := by decide +kernel
set_option maxRecDepth 100000 in
theorem f_6_6 : xft 6 6 = some (.iadd) := by decide +kernel
set_option maxRecDepth 100000 in
theorem f_6_7 : xft 6 7 = some (.bipush 12) := by decide +kernel
set_option maxRecDepth 100000 in
theorem f_6_9 : xft 6 9 = some (.if_icmp .gt 26) := by decide +kernel
set_option maxRecDepth 100000 in
theorem f_6_12 : xft 6 12 = some (.aload_n 0) := by decide +kernel
set_option maxRecDepth 100000 in
theorem f_6_13 : xft 6 13 = some (.iload 5) := by decide +kernel
set_option maxRecDepth 100000 in
theorem f_6_15 : xft 6 15 = some (.iload_n 1) := by decide +kernel
set_option maxRecDepth 100000 in
theorem f_6_16 : xft 6 16 = some (.iload_n 2) := by decide +kernel
set_option maxRecDepth 100000 in
theorem f_6_17 : xft 6 17 = some (.iload_n 3) := by decide +kernel
set_option maxRecDepth 100000 in
theorem f_6_18 : xft 6 18 = some (.iload 4) := by decide +kernel
set_option maxRecDepth 100000 in
theorem f_6_20 : xft 6 20 = some (.invokevirtual 39) := by decide +kernel
set_option maxRecDepth 100000 in
theorem f_6_23 : xft 6 23 = some (.ifCond .eq 6) := by decide +kernel
set_option maxRecDepth 100000 in
theorem f_6_26 : xft 6 26 = some (.iload 5) := by decide +kernel
set_option maxRecDepth 100000 in
theorem f_6_28 : xft 6 28 = some (.ireturn) := by decide +kernel
set_option maxRecDepth 100000 in
theorem f_6_29 : xft 6 29 = some (.iinc 5 1) := by decide +kernel
set_option maxRecDepth 100000 in
theorem f_6_32 : xft 6 32 = some (.goto (-29)) := by decide +kernel
set_option maxRecDepth 100000 in
theorem f_6_35 : xft 6 35 = some (.iconst (-1)) := by decide +kernel
set_option maxRecDepth 100000 in
theorem f_6_36 : xft 6 36 = some (.ireturn) := by decide +kernel
set_option maxRecDepth 100000 in
theorem f_7_0 : xft 7 0 = some (.iload_n 2) := by decide +kernel
set_option maxRecDepth 100000 in
theorem f_7_1 : xft 7 1 = some (.istore 5) := by decide +kernel
set_option maxRecDepth 100000 in
theorem f_7_3 : xft 7 3 = some (.iload 5) := by decide +kernel
set_option maxRecDepth 100000 in
theorem f_7_5 : xft 7 5 = some (.iload_n 2) := by decide +kernel
set_option maxRecDepth 100000 in
theorem f_7_6 : xft 7 6 = some (.iload 4) := by decide +kernel
set_option maxRecDepth 100000 in
theorem f_7_8 : xft 7 8 = some (.iadd) := by decide +kernel
set_option maxRecDepth 100000 in
theorem f_7_9 : xft 7 9 = some (.if_icmp .ge 44) := by decide +kernel
set_option maxRecDepth 100000 in
theorem f_7_12 : xft 7 12 = some (.iload_n 1) := by decide +kernel
set_option maxRecDepth 100000 in
theorem f_7_13 : xft 7 13 = some (.istore 6) := by decide +kernel
set_option maxRecDepth 100000 in
theorem f_7_15 : xft 7 15 = some (.iload 6) := by decide +kernel
set_option maxRecDepth 100000 in
theorem f_7_17 : xft 7 17 = some (.iload_n 1) := by decide +kernel
set_option maxRecDepth 100000 in
theorem f_7_18 : xft 7 18 = some (.iload_n 3) := by decide +kernel
set_option maxRecDepth 100000 in
theorem f_7_19 : xft 7 19 = some (.iadd) := by decide +kernel
set_option maxRecDepth 100000 in
theorem f_7_20 : xft 7 20 = some (.if_icmp .ge 27) := by decide +kernel
set_option maxRecDepth 100000 in
theorem f_7_23 : xft 7 23 = some (.aload_n 0) := by decide +kernel
set_option maxRecDepth 100000 in
theorem f_7_24 : xft 7 24 = some (.getfield 15) := by decide +kernel
set_option maxRecDepth 100000 in
theorem f_7_27 : xft 7 27 = some (.iload 5) := by decide +kernel
set_option maxRecDepth 100000 in
theorem f_7_29 : xft 7 29 = some (.bipush 12) := by decide +kernel
set_option maxRecDepth 100000 in
theorem f_7_31 : xft 7 31 = some (.imul) := by decide +kernel
set_option maxRecDepth 100000 in
theorem f_7_32 : xft 7 32 = some (.iload 6) := by decide +kernel
set_option maxRecDepth 100000 in
theorem f_7_34 : xft 7 34 = some (.iadd) := by decide +kernel
set_option maxRecDepth 100000 in
theorem f_7_35 : xft 7 35 = some (.baload) := by decide +kernel
set_option maxRecDepth 100000 in
theorem f_7_36 : xft 7 36 = some (.ifCond .eq 5) := by decide +kernel
set_option maxRecDepth 100000 in
theorem f_7_39 : xft 7 39 = some (.iconst 0) := by decide +kernel
set_option maxRecDepth 100000 in
theorem f_7_40 : xft 7 40 = some (.ireturn) := by decide +kernel
set_option maxRecDepth 100000 in
theorem f_7_41 : xft 7 41 = some (.iinc 6 1) := by decide +kernel
set_option maxRecDepth 100000 in
theorem f_7_44 : xft 7 44 = some (.goto (-29)) := by decide +kernel
set_option maxRecDepth 100000 in
theorem f_7_47 : xft 7 47 = some (.iinc 5 1) := by decide +kernel
set_option maxRecDepth 100000 in
theorem f_7_50 : xft 7 50 = some (.goto (-47)) := by decide +kernel
set_option maxRecDepth 100000 in
theorem f_7_53 : xft 7 53 = some (.iconst 1) := by decide +kernel
set_option maxRecDepth 100000 in
theorem f_7_54 : xft 7 54 = some (.ireturn) := by decide +kernel
set_option maxRecDepth 100000 in
theorem f_8_0 : xft 8 0 = some (.iload_n 0) := by decide +kernel
set_option maxRecDepth 100000 in
theorem f_8_1 : xft 8 1 = some (.iload_n 1) := by decide +kernel
set_option maxRecDepth 100000 in
theorem f_8_2 : xft 8 2 = some (.iadd) := by decide +kernel
set_option maxRecDepth 100000 in
theorem f_8_3 : xft 8 3 = some (.iconst 5) := by decide +kernel
set_option maxRecDepth 100000 in
theorem f_8_4 : xft 8 4 = some (.if_icmp .le 7) := by decide +kernel
set_option maxRecDepth 100000 in
theorem f_8_7 : xft 8 7 = some (.iconst 1) := by decide +kernel
set_option maxRecDepth 100000 in
theorem f_8_8 : xft 8 8 = some (.goto 4) := by decide +kernel
set_option maxRecDepth 100000 in
theorem f_8_11 : xft 8 11 = some (.iconst 0) := by decide +kernel
set_option maxRecDepth 100000 in
theorem f_8_12 : xft 8 12 = some (.ireturn) := by decide +kernel
set_option maxRecDepth 100000 in
theorem f_9_0 : xft 9 0 = some (.iconst 0) := by decide +kernel
set_option maxRecDepth 100000 in
theorem f_9_1 : xft 9 1 = some (.istore_n 3) := by decide +kernel
set_option maxRecDepth 100000 in
theorem f_9_2 : xft 9 2 = some (.iload_n 0) := by decide +kernel
set_option maxRecDepth 100000 in
theorem f_9_3 : xft 9 3 = some (.istore 4) := by decide +kernel
set_option maxRecDepth 100000 in
theorem f_9_5 : xft 9 5 = some (.iload 4) := by decide +kernel
set_option maxRecDepth 100000 in
theorem f_9_7 : xft 9 7 = some (.iload_n 0) := by decide +kernel
set_option maxRecDepth 100000 in
theorem f_9_8 : xft 9 8 = some (.iload_n 2) := by decide +kernel
set_option maxRecDepth 100000 in
theorem f_9_9 : xft 9 9 = some (.iadd) := by decide +kernel
set_option maxRecDepth 100000 in
theorem f_9_10 : xft 9 10 = some (.if_icmp .ge 39) := by decide +kernel
set_option maxRecDepth 100000 in
theorem f_9_13 : xft 9 13 = some (.iload 4) := by decide +kernel
set_option maxRecDepth 100000 in
theorem f_9_15 : xft 9 15 = some (.iconst 2) := by decide +kernel
set_option maxRecDepth 100000 in
theorem f_9_16 : xft 9 16 = some (.if_icmp .ge 7) := by decide +kernel
set_option maxRecDepth 100000 in
theorem f_9_19 : xft 9 19 = some (.iconst 3) := by decide +kernel
set_option maxRecDepth 100000 in
theorem f_9_20 : xft 9 20 = some (.goto 14) := by decide +kernel
set_option maxRecDepth 100000 in
theorem f_9_23 : xft 9 23 = some (.iload 4) := by decide +kernel
set_option maxRecDepth 100000 in
theorem f_9_25 : xft 9 25 = some (.iconst 5) := by decide +kernel
set_option maxRecDepth 100000 in
theorem f_9_26 : xft 9 26 = some (.if_icmp .ge 7) := by decide +kernel
set_option maxRecDepth 100000 in
theorem f_9_29 : xft 9 29 = some (.iconst 2) := by decide +kernel
set_option maxRecDepth 100000 in
theorem f_9_30 : xft 9 30 = some (.goto 4) := by decide +kernel
set_option maxRecDepth 100000 in
theorem f_9_33 : xft 9 33 = some (.iconst 1) := by decide +kernel
set_option maxRecDepth 100000 in
theorem f_9_34 : xft 9 34 = some (.istore 5) := by decide +kernel
set_option maxRecDepth 100000 in
theorem f_9_36 : xft 9 36 = some (.iload_n 3) := by decide +kernel
set_option maxRecDepth 100000 in
theorem f_9_37 : xft 9 37 = some (.iload_n 1) := by decide +kernel
set_option maxRecDepth 100000 in
theorem f_9_38 : xft 9 38 = some (.iload 5) := by decide +kernel
set_option maxRecDepth 100000 in
theorem f_9_40 : xft 9 40 = some (.imul) := by decide +kernel
set_option maxRecDepth 100000 in
theorem f_9_41 : xft 9 41 = some (.iadd) := by decide +kernel
set_option maxRecDepth 100000 in
theorem f_9_42 : xft 9 42 = some (.istore_n 3) := by decide +kernel
set_option maxRecDepth 100000 in
theorem f_9_43 : xft 9 43 = some (.iinc 4 1) := by decide +kernel
set_option maxRecDepth 100000 in
theorem f_9_46 : xft 9 46 = some (.goto (-41)) := by decide +kernel
set_option maxRecDepth 100000 in
theorem f_9_49 : xft 9 49 = some (.iload_n 3) := by decide +kernel
set_option maxRecDepth 100000 in
theorem f_9_50 : xft 9 50 = some (.ireturn) := by decide +kernel
/-! blocks, by program (gen2.py) -/
section BLK
variable {sc : xS} {d : Nat} {T : Nat → Nat × Nat} {z : Nat × Nat} {V : Nat → Nat → Int} {J : Nat → Nat → Int64} {R : Nat → Nat → Option Nat}
theorem eX0_init {x1 : Int} {a0 : Nat} : X sc (d + 1) 0 [.ref a0, xw x1] (T, z, xv V, J, R) = XR sc d 0 0 [some (.ref a0), some (xw x1)] [] (T, z, xv V, J, R) :=
  (X_eq ⟨jl_0, by rw [mn_0]; rfl, rfl, by rw [lm_0]; exact Nat.le_of_ble_eq_true rfl⟩).trans (by unfold xent; rw [lm_0]; rfl)
theorem bX0_init_0 {x1 : Int} {a0 : Nat} (g1 : 1 ≤ d) (g2 : T a0 = (1, 0)) (g3 : (va_up T z.1 (33, 96)) a0 = (1, 0)) : XR sc d 0 0 [some (.ref a0), some (xw x1)] [] (T, z, xv V, J, R) = some (.inl none, ((va_up T z.1 (33, 96)), (z.1 + 1, z.2 + 96), xv (va_up (xup2 V a0 0 x1) z.1 (fun _ => 0)), (va_up J z.1 (fun _ => 0)), (xup2 (va_up R z.1 (fun _ => none)) a0 1 (some z.1)))) :=
  (st_aload_n f_0_0 rfl).trans ((st_objinit f_0_1 r_0_3 t_0_3 ⟨g1, Nat.le_of_ble_eq_true rfl⟩).trans ((st_aload_n f_0_4 rfl).trans ((sw_iload_n f_0_5 rfl).trans ((sw_putI f_0_6 e_0_9 (Or.inl rfl) (Or.inr n_0) g2).trans ((st_aload_n f_0_9 rfl).trans ((sw_bipush f_0_10 c8_96).trans ((sw_newZ 96 f_0_12 ⟨rfl, by decide⟩).trans ((st_putR f_0_14 e_0_15 rfl (Or.inr n_0) g3).trans (st_return f_0_17 mr_0)))))))))
theorem eX0_spoil {x1 x2 x3 x4 : Int} {a0 : Nat} : X sc (d + 1) 1 [.ref a0, xw x1, xw x2, xw x3, xw x4] (T, z, xv V, J, R) = XR sc d 1 0 [some (.ref a0), some (xw x1), some (xw x2), some (xw x3), some (xw x4), none, none] [] (T, z, xv V, J, R) :=
  (X_eq ⟨jl_1, by rw [mn_1]; rfl, rfl, by rw [lm_1]; exact Nat.le_of_ble_eq_true rfl⟩).trans (by unfold xent; rw [lm_1]; rfl)
theorem bX0_spoil_0 {o0 o1 o3 o4 o5 o6 : Option Value} {x2 : Int} : XR sc d 1 0 [o0, o1, some (xw x2), o3, o4, o5, o6] [] (T, z, xv V, J, R) = XR sc d 1 3 [o0, o1, some (xw x2), o3, o4, some (xw x2), o6] [] (T, z, xv V, J, R) :=
  (sw_iload_n f_1_0 rfl).trans (sw_istore (L' := [o0, o1, some (xw x2), o3, o4, some (xw x2), o6]) f_1_1 (Nat.le_of_ble_eq_true rfl) rfl)
theorem bX0_spoil_3 {o0 o1 o3 o6 : Option Value} {x5 x2 x4 : Int} (g1 : -2147483648 ≤ x5 ∧ x5 ≤ 2147483647) (g2 : -2147483648 ≤ (x2 + x4) ∧ (x2 + x4) ≤ 2147483647) : XR sc d 1 3 [o0, o1, some (xw x2), o3, some (xw x4), some (xw x5), o6] [] (T, z, xv V, J, R) = if (x2 + x4) ≤ x5 then XR sc d 1 49 [o0, o1, some (xw x2), o3, some (xw x4), some (xw x5), o6] [] (T, z, xv V, J, R) else XR sc d 1 12 [o0, o1, some (xw x2), o3, some (xw x4), some (xw x5), o6] [] (T, z, xv V, J, R) :=
  (sw_iload f_1_3 rfl).trans ((sw_iload_n f_1_5 rfl).trans ((sw_iload f_1_6 rfl).trans ((sw_iadd f_1_8).trans (sw_icmp_ge (t := 49) f_1_9 ⟨by decide, rfl⟩ g1 g2))))
theorem bX0_spoil_12 {o0 o2 o3 o4 o5 o6 : Option Value} {x1 : Int} : XR sc d 1 12 [o0, some (xw x1), o2, o3, o4, o5, o6] [] (T, z, xv V, J, R) = XR sc d 1 15 [o0, some (xw x1), o2, o3, o4, o5, some (xw x1)] [] (T, z, xv V, J, R) :=
  (sw_iload_n f_1_12 rfl).trans (sw_istore (L' := [o0, some (xw x1), o2, o3, o4, o5, some (xw x1)]) f_1_13 (Nat.le_of_ble_eq_true rfl) rfl)
theorem bX0_spoil_15 {o0 o2 o4 o5 : Option Value} {x6 x1 x3 : Int} (g1 : -2147483648 ≤ x6 ∧ x6 ≤ 2147483647) (g2 : -2147483648 ≤ (x1 + x3) ∧ (x1 + x3) ≤ 2147483647) : XR sc d 1 15 [o0, some (xw x1), o2, some (xw x3), o4, o5, some (xw x6)] [] (T, z, xv V, J, R) = if (x1 + x3) ≤ x6 then XR sc d 1 43 [o0, some (xw x1), o2, some (xw x3), o4, o5, some (xw x6)] [] (T, z, xv V, J, R) else XR sc d 1 23 [o0, some (xw x1), o2, some (xw x3), o4, o5, some (xw x6)] [] (T, z, xv V, J, R) :=
  (sw_iload f_1_15 rfl).trans ((sw_iload_n f_1_17 rfl).trans ((sw_iload_n f_1_18 rfl).trans ((sw_iadd f_1_19).trans (sw_icmp_ge (t := 43) f_1_20 ⟨by decide, rfl⟩ g1 g2))))
theorem bX0_spoil_23 {o1 o2 o3 o4 : Option Value} {x5 x6 : Int} {a0 : Nat} (g1 : T a0 = (1, 0)) (g2 : R a0 1 = some ((R a0 1).getD 0)) (g3 : T ((R a0 1).getD 0) = (33, (T ((R a0 1).getD 0)).2)) (g4 : (0 : Int) ≤ ((x5 * 12) + x6) ∧ ((x5 * 12) + x6) < ((T ((R a0 1).getD 0)).2 : Int) ∧ (T ((R a0 1).getD 0)).2 ≤ 3584) : XR sc d 1 23 [some (.ref a0), o1, o2, o3, o4, some (xw x5), some (xw x6)] [] (T, z, xv V, J, R) = XR sc d 1 15 [some (.ref a0), o1, o2, o3, o4, some (xw x5), some (xw (x6 + 1))] [] (T, z, xv (xup2 V ((R a0 1).getD 0) ((x5 * 12) + x6).toNat 1), J, R) :=
  (st_aload_n f_1_23 rfl).trans ((st_getR f_1_24 e_1_15 (by decide) g1 g2).trans ((sw_iload f_1_27 rfl).trans ((sw_bipush f_1_29 c8_12).trans ((sw_imul f_1_31).trans ((sw_iload f_1_32 rfl).trans ((sw_iadd f_1_34).trans ((sw_iconst f_1_35).trans ((sw_bastore f_1_36 g3 g4 (by decide)).trans ((sw_iinc (L' := [some (.ref a0), o1, o2, o3, o4, some (xw x5), some (xw (x6 + 1))]) f_1_37 rfl (Nat.le_of_ble_eq_true rfl) rfl).trans (st_goto (t := 15) f_1_40 ⟨by decide, rfl⟩))))))))))
theorem bX0_spoil_43 {o0 o1 o2 o3 o4 o6 : Option Value} {x5 : Int} : XR sc d 1 43 [o0, o1, o2, o3, o4, some (xw x5), o6] [] (T, z, xv V, J, R) = XR sc d 1 3 [o0, o1, o2, o3, o4, some (xw (x5 + 1)), o6] [] (T, z, xv V, J, R) :=
  (sw_iinc (L' := [o0, o1, o2, o3, o4, some (xw (x5 + 1)), o6]) f_1_43 rfl (Nat.le_of_ble_eq_true rfl) rfl).trans (st_goto (t := 3) f_1_46 ⟨by decide, rfl⟩)
theorem bX0_spoil_49 {o0 o1 o2 o3 o4 o5 o6 : Option Value} : XR sc d 1 49 [o0, o1, o2, o3, o4, o5, o6] [] (T, z, xv V, J, R) = some (.inl none, (T, z, xv V, J, R)) :=
  st_return f_1_49 mr_1
theorem eX0_squaresLeft {a0 : Nat} : X sc (d + 1) 2 [.ref a0] (T, z, xv V, J, R) = XR sc d 2 0 [some (.ref a0), none, none, none, none, none] [] (T, z, xv V, J, R) :=
  (X_eq ⟨jl_2, by rw [mn_2]; rfl, rfl, by rw [lm_2]; exact Nat.le_of_ble_eq_true rfl⟩).trans (by unfold xent; rw [lm_2]; rfl)
theorem bX0_squaresLeft_0 {o1 o2 o3 o4 o5 : Option Value} {a0 : Nat} (g1 : T a0 = (1, 0)) (g2 : R a0 1 = some ((R a0 1).getD 0)) (g3 : T ((R a0 1).getD 0) = ((T ((R a0 1).getD 0)).1, (T ((R a0 1).getD 0)).2)) (g4 : (32 ≤ (T ((R a0 1).getD 0)).1 ∧ (T ((R a0 1).getD 0)).1 < 35) ∨ (40 ≤ (T ((R a0 1).getD 0)).1 ∧ (T ((R a0 1).getD 0)).1 < 44)) : XR sc d 2 0 [some (.ref a0), o1, o2, o3, o4, o5] [] (T, z, xv V, J, R) = XR sc d 2 13 [some (.ref a0), some (xw 0), some (.ref ((R a0 1).getD 0)), some (xw ((T ((R a0 1).getD 0)).2 : Int)), some (xw 0), o5] [] (T, z, xv V, J, R) :=
  (sw_iconst f_2_0).trans ((sw_istore_n (L' := [some (.ref a0), some (xw 0), o2, o3, o4, o5]) f_2_1 (Nat.le_of_ble_eq_true rfl) rfl).trans ((st_aload_n f_2_2 rfl).trans ((st_getR f_2_3 e_2_15 (by decide) g1 g2).trans ((st_astore_n (L' := [some (.ref a0), some (xw 0), some (.ref ((R a0 1).getD 0)), o3, o4, o5]) f_2_6 (Nat.le_of_ble_eq_true rfl) rfl).trans ((st_aload_n f_2_7 rfl).trans ((sw_alenI f_2_8 g3 g4).trans ((sw_istore_n (L' := [some (.ref a0), some (xw 0), some (.ref ((R a0 1).getD 0)), some (xw ((T ((R a0 1).getD 0)).2 : Int)), o4, o5]) f_2_9 (Nat.le_of_ble_eq_true rfl) rfl).trans ((sw_iconst f_2_10).trans (sw_istore (L' := [some (.ref a0), some (xw 0), some (.ref ((R a0 1).getD 0)), some (xw ((T ((R a0 1).getD 0)).2 : Int)), some (xw 0), o5]) f_2_11 (Nat.le_of_ble_eq_true rfl) rfl)))))))))
theorem bX0_squaresLeft_13 {o0 o1 o2 o5 : Option Value} {x4 x3 : Int} (g1 : -2147483648 ≤ x4 ∧ x4 ≤ 2147483647) (g2 : -2147483648 ≤ x3 ∧ x3 ≤ 2147483647) : XR sc d 2 13 [o0, o1, o2, some (xw x3), some (xw x4), o5] [] (T, z, xv V, J, R) = if x3 ≤ x4 then XR sc d 2 44 [o0, o1, o2, some (xw x3), some (xw x4), o5] [] (T, z, xv V, J, R) else XR sc d 2 19 [o0, o1, o2, some (xw x3), some (xw x4), o5] [] (T, z, xv V, J, R) :=
  (sw_iload f_2_13 rfl).trans ((sw_iload_n f_2_15 rfl).trans (sw_icmp_ge (t := 44) f_2_16 ⟨by decide, rfl⟩ g1 g2))
theorem bX0_squaresLeft_19 {o0 o3 o5 : Option Value} {x4 x1 : Int} {a2 : Nat} (g1 : T a2 = (33, (T a2).2)) (g2 : (0 : Int) ≤ x4 ∧ x4 < ((T a2).2 : Int) ∧ (T a2).2 ≤ 3584) (g3 : -2147483648 ≤ (V a2 x4.toNat) ∧ (V a2 x4.toNat) ≤ 2147483647) : XR sc d 2 19 [o0, some (xw x1), some (.ref a2), o3, some (xw x4), o5] [] (T, z, xv V, J, R) = if (V a2 x4.toNat) = 0 then XR sc d 2 35 [o0, some (xw x1), some (.ref a2), o3, some (xw x4), some (xw (V a2 x4.toNat))] [xw x1] (T, z, xv V, J, R) else XR sc d 2 31 [o0, some (xw x1), some (.ref a2), o3, some (xw x4), some (xw (V a2 x4.toNat))] [xw x1] (T, z, xv V, J, R) :=
  (st_aload_n f_2_19 rfl).trans ((sw_iload f_2_20 rfl).trans ((sw_baload f_2_22 g1 g2).trans ((sw_istore (L' := [o0, some (xw x1), some (.ref a2), o3, some (xw x4), some (xw (V a2 x4.toNat))]) f_2_23 (Nat.le_of_ble_eq_true rfl) rfl).trans ((sw_iload_n f_2_25 rfl).trans ((sw_iload f_2_26 rfl).trans (sw_if_eq (t := 35) f_2_28 ⟨by decide, rfl⟩ g3))))))
theorem bX0_squaresLeft_31 {o0 o1 o2 o3 o4 o5 : Option Value} {s0 : Value} : XR sc d 2 31 [o0, o1, o2, o3, o4, o5] [s0] (T, z, xv V, J, R) = XR sc d 2 36 [o0, o1, o2, o3, o4, o5] [xw 0, s0] (T, z, xv V, J, R) :=
  (sw_iconst f_2_31).trans (st_goto (t := 36) f_2_32 ⟨by decide, rfl⟩)
theorem bX0_squaresLeft_35 {o0 o1 o2 o3 o4 o5 : Option Value} {s0 : Value} : XR sc d 2 35 [o0, o1, o2, o3, o4, o5] [s0] (T, z, xv V, J, R) = XR sc d 2 36 [o0, o1, o2, o3, o4, o5] [xw 1, s0] (T, z, xv V, J, R) :=
  sw_iconst f_2_35
theorem bX0_squaresLeft_36 {o0 o1 o2 o3 o5 : Option Value} {y0 y1 x4 : Int} : XR sc d 2 36 [o0, o1, o2, o3, some (xw x4), o5] [xw y0, xw y1] (T, z, xv V, J, R) = XR sc d 2 13 [o0, some (xw (y1 + y0)), o2, o3, some (xw (x4 + 1)), o5] [] (T, z, xv V, J, R) :=
  (sw_iadd f_2_36).trans ((sw_istore_n (L' := [o0, some (xw (y1 + y0)), o2, o3, some (xw x4), o5]) f_2_37 (Nat.le_of_ble_eq_true rfl) rfl).trans ((sw_iinc (L' := [o0, some (xw (y1 + y0)), o2, o3, some (xw (x4 + 1)), o5]) f_2_38 rfl (Nat.le_of_ble_eq_true rfl) rfl).trans (st_goto (t := 13) f_2_41 ⟨by decide, rfl⟩)))
theorem bX0_squaresLeft_44 {o0 o2 o3 o4 o5 : Option Value} {x1 : Int} : XR sc d 2 44 [o0, some (xw x1), o2, o3, o4, o5] [] (T, z, xv V, J, R) = some (.inl (some (xw x1)), (T, z, xv V, J, R)) :=
  (sw_iload_n f_2_44 rfl).trans (sw_ireturn f_2_45 mr_2)
theorem eX0_thinnest {x1 x2 : Int} {a0 : Nat} : X sc (d + 1) 3 [.ref a0, xw x1, xw x2] (T, z, xv V, J, R) = XR sc d 3 0 [some (.ref a0), some (xw x1), some (xw x2)] [] (T, z, xv V, J, R) :=
  (X_eq ⟨jl_3, by rw [mn_3]; rfl, rfl, by rw [lm_3]; exact Nat.le_of_ble_eq_true rfl⟩).trans (by unfold xent; rw [lm_3]; rfl)
theorem bX0_thinnest_0 {o0 : Option Value} {x1 x2 : Int} : XR sc d 3 0 [o0, some (xw x1), some (xw x2)] [] (T, z, xv V, J, R) = xret 3 (XR sc d 3) 2 5 [o0, some (xw x1), some (xw x2)] [] (X sc d 8 [xw x1, xw x2] (T, z, xv V, J, R)) :=
  (sw_iload_n f_3_0 rfl).trans ((sw_iload_n f_3_1 rfl).trans (st_callS' f_3_2 h_3_19 mn_8 rfl rfl rfl rfl))
theorem bX0_thinnest_5 {o0 o1 o2 : Option Value} {y0 : Int} (g1 : -2147483648 ≤ y0 ∧ y0 ≤ 2147483647) : XR sc d 3 5 [o0, o1, o2] [xw y0] (T, z, xv V, J, R) = if y0 = 0 then XR sc d 3 17 [o0, o1, o2] [] (T, z, xv V, J, R) else XR sc d 3 8 [o0, o1, o2] [] (T, z, xv V, J, R) :=
  sw_if_eq (t := 17) f_3_5 ⟨by decide, rfl⟩ g1
theorem bX0_thinnest_8 {o1 o2 : Option Value} {a0 : Nat} (g1 : T a0 = (1, 0)) : XR sc d 3 8 [some (.ref a0), o1, o2] [] (T, z, xv V, J, R) = XR sc d 3 21 [some (.ref a0), o1, o2] [xw ((V a0 0) - 1)] (T, z, xv V, J, R) :=
  (st_aload_n f_3_8 rfl).trans ((sw_getI f_3_9 e_3_9 (by decide) g1).trans ((sw_iconst f_3_12).trans ((sw_isub f_3_13).trans (st_goto (t := 21) f_3_14 ⟨by decide, rfl⟩))))
theorem bX0_thinnest_17 {o1 o2 : Option Value} {a0 : Nat} (g1 : T a0 = (1, 0)) : XR sc d 3 17 [some (.ref a0), o1, o2] [] (T, z, xv V, J, R) = XR sc d 3 21 [some (.ref a0), o1, o2] [xw (V a0 0)] (T, z, xv V, J, R) :=
  (st_aload_n f_3_17 rfl).trans (sw_getI f_3_18 e_3_9 (by decide) g1)
theorem bX0_thinnest_21 {o0 o1 o2 : Option Value} {y0 : Int} : XR sc d 3 21 [o0, o1, o2] [xw y0] (T, z, xv V, J, R) = some (.inl (some (xw y0)), (T, z, xv V, J, R)) :=
  sw_ireturn f_3_21 mr_3
theorem eX0_canGive {x1 x2 x3 x4 x5 : Int} {a0 : Nat} : X sc (d + 1) 4 [.ref a0, xw x1, xw x2, xw x3, xw x4, xw x5] (T, z, xv V, J, R) = XR sc d 4 0 [some (.ref a0), some (xw x1), some (xw x2), some (xw x3), some (xw x4), some (xw x5)] [] (T, z, xv V, J, R) :=
  (X_eq ⟨jl_4, by rw [mn_4]; rfl, rfl, by rw [lm_4]; exact Nat.le_of_ble_eq_true rfl⟩).trans (by unfold xent; rw [lm_4]; rfl)
theorem bX0_canGive_0 {o0 o1 o2 o3 o4 : Option Value} {x5 : Int} (g1 : -2147483648 ≤ x5 ∧ x5 ≤ 2147483647) : XR sc d 4 0 [o0, o1, o2, o3, o4, some (xw x5)] [] (T, z, xv V, J, R) = if x5 = 0 then XR sc d 4 14 [o0, o1, o2, o3, o4, some (xw x5)] [] (T, z, xv V, J, R) else XR sc d 4 5 [o0, o1, o2, o3, o4, some (xw x5)] [] (T, z, xv V, J, R) :=
  (sw_iload f_4_0 rfl).trans (sw_if_eq (t := 14) f_4_2 ⟨by decide, rfl⟩ g1)
theorem bX0_canGive_5 {o0 o1 o3 o5 : Option Value} {x2 x4 : Int} : XR sc d 4 5 [o0, o1, some (xw x2), o3, some (xw x4), o5] [] (T, z, xv V, J, R) = xret 4 (XR sc d 4) 8 11 [o0, o1, some (xw x2), o3, some (xw x4), o5] [] (X sc d 8 [xw x2, xw x4] (T, z, xv V, J, R)) :=
  (sw_iload_n f_4_5 rfl).trans ((sw_iload f_4_6 rfl).trans (st_callS' f_4_8 h_4_19 mn_8 rfl rfl rfl rfl))
theorem bX0_canGive_11 {o0 o1 o2 o3 o4 o5 : Option Value} {y0 : Int} (g1 : -2147483648 ≤ y0 ∧ y0 ≤ 2147483647) : XR sc d 4 11 [o0, o1, o2, o3, o4, o5] [xw y0] (T, z, xv V, J, R) = if y0 = 0 then XR sc d 4 14 [o0, o1, o2, o3, o4, o5] [] (T, z, xv V, J, R) else XR sc d 4 30 [o0, o1, o2, o3, o4, o5] [] (T, z, xv V, J, R) :=
  sw_if_ne (t := 30) f_4_11 ⟨by decide, rfl⟩ g1
theorem bX0_canGive_14 {o5 : Option Value} {x1 x2 x3 x4 : Int} {a0 : Nat} (g1 : T a0 = (1, 0)) : XR sc d 4 14 [some (.ref a0), some (xw x1), some (xw x2), some (xw x3), some (xw x4), o5] [] (T, z, xv V, J, R) = xret 4 (XR sc d 4) 20 23 [some (.ref a0), some (xw x1), some (xw x2), some (xw x3), some (xw x4), o5] [] (X sc d 7 [.ref a0, xw x1, xw x2, xw x3, xw x4] (T, z, xv V, J, R)) :=
  (st_aload_n f_4_14 rfl).trans ((sw_iload_n f_4_15 rfl).trans ((sw_iload_n f_4_16 rfl).trans ((sw_iload_n f_4_17 rfl).trans ((sw_iload f_4_18 rfl).trans (st_callV' f_4_20 h_4_23 mn_7 rfl rfl rfl rfl mo_7 g1 rfl)))))
theorem bX0_canGive_23 {o0 o1 o2 o3 o4 o5 : Option Value} {y0 : Int} (g1 : -2147483648 ≤ y0 ∧ y0 ≤ 2147483647) : XR sc d 4 23 [o0, o1, o2, o3, o4, o5] [xw y0] (T, z, xv V, J, R) = if y0 = 0 then XR sc d 4 30 [o0, o1, o2, o3, o4, o5] [] (T, z, xv V, J, R) else XR sc d 4 26 [o0, o1, o2, o3, o4, o5] [] (T, z, xv V, J, R) :=
  sw_if_eq (t := 30) f_4_23 ⟨by decide, rfl⟩ g1
theorem bX0_canGive_26 {o0 o1 o2 o3 o4 o5 : Option Value} : XR sc d 4 26 [o0, o1, o2, o3, o4, o5] [] (T, z, xv V, J, R) = XR sc d 4 31 [o0, o1, o2, o3, o4, o5] [xw 1] (T, z, xv V, J, R) :=
  (sw_iconst f_4_26).trans (st_goto (t := 31) f_4_27 ⟨by decide, rfl⟩)
theorem bX0_canGive_30 {o0 o1 o2 o3 o4 o5 : Option Value} : XR sc d 4 30 [o0, o1, o2, o3, o4, o5] [] (T, z, xv V, J, R) = XR sc d 4 31 [o0, o1, o2, o3, o4, o5] [xw 0] (T, z, xv V, J, R) :=
  sw_iconst f_4_30
theorem bX0_canGive_31 {o0 o1 o2 o3 o4 o5 : Option Value} {y0 : Int} (g1 : y0 = 0 ∨ y0 = 1) : XR sc d 4 31 [o0, o1, o2, o3, o4, o5] [xw y0] (T, z, xv V, J, R) = some (.inl (some (xw y0)), (T, z, xv V, J, R)) :=
  sw_zreturn f_4_31 mr_4 g1
theorem eX0_leastWorth {x1 x2 x3 x4 : Int} {a0 : Nat} : X sc (d + 1) 5 [.ref a0, xw x1, xw x2, xw x3, xw x4] (T, z, xv V, J, R) = XR sc d 5 0 [some (.ref a0), some (xw x1), some (xw x2), some (xw x3), some (xw x4), none, none, none, none, none, none] [] (T, z, xv V, J, R) :=
  (X_eq ⟨jl_5, by rw [mn_5]; rfl, rfl, by rw [lm_5]; exact Nat.le_of_ble_eq_true rfl⟩).trans (by unfold xent; rw [lm_5]; rfl)
theorem bX0_leastWorth_0 {o0 o1 o2 o3 o4 o5 o6 o7 o8 o9 o10 : Option Value} : XR sc d 5 0 [o0, o1, o2, o3, o4, o5, o6, o7, o8, o9, o10] [] (T, z, xv V, J, R) = XR sc d 5 9 [o0, o1, o2, o3, o4, some (xw (-1)), some (xw 0), some (xw 0), o8, o9, o10] [] (T, z, xv V, J, R) :=
  (sw_iconst f_5_0).trans ((sw_istore (L' := [o0, o1, o2, o3, o4, some (xw (-1)), o6, o7, o8, o9, o10]) f_5_1 (Nat.le_of_ble_eq_true rfl) rfl).trans ((sw_iconst f_5_3).trans ((sw_istore (L' := [o0, o1, o2, o3, o4, some (xw (-1)), some (xw 0), o7, o8, o9, o10]) f_5_4 (Nat.le_of_ble_eq_true rfl) rfl).trans ((sw_iconst f_5_6).trans (sw_istore (L' := [o0, o1, o2, o3, o4, some (xw (-1)), some (xw 0), some (xw 0), o8, o9, o10]) f_5_7 (Nat.le_of_ble_eq_true rfl) rfl)))))
theorem bX0_leastWorth_9 {o0 o1 o3 o4 o5 o6 o8 o9 o10 : Option Value} {x7 x2 : Int} (g1 : -2147483648 ≤ (x7 + x2) ∧ (x7 + x2) ≤ 2147483647) : XR sc d 5 9 [o0, o1, some (xw x2), o3, o4, o5, o6, some (xw x7), o8, o9, o10] [] (T, z, xv V, J, R) = if 8 < (x7 + x2) then XR sc d 5 105 [o0, o1, some (xw x2), o3, o4, o5, o6, some (xw x7), o8, o9, o10] [] (T, z, xv V, J, R) else XR sc d 5 18 [o0, o1, some (xw x2), o3, o4, o5, o6, some (xw x7), o8, o9, o10] [] (T, z, xv V, J, R) :=
  (sw_iload f_5_9 rfl).trans ((sw_iload_n f_5_11 rfl).trans ((sw_iadd f_5_12).trans ((sw_bipush f_5_13 c8_8).trans (sw_icmp_gt (t := 105) f_5_15 ⟨by decide, rfl⟩ g1 ⟨by decide, by decide⟩))))
theorem bX0_leastWorth_18 {o0 o3 o4 o5 o6 o8 o9 o10 : Option Value} {x7 x1 x2 : Int} : XR sc d 5 18 [o0, some (xw x1), some (xw x2), o3, o4, o5, o6, some (xw x7), o8, o9, o10] [] (T, z, xv V, J, R) = xret 5 (XR sc d 5) 22 25 [o0, some (xw x1), some (xw x2), o3, o4, o5, o6, some (xw x7), o8, o9, o10] [] (X sc d 9 [xw x7, xw x1, xw x2] (T, z, xv V, J, R)) :=
  (sw_iload f_5_18 rfl).trans ((sw_iload_n f_5_20 rfl).trans ((sw_iload_n f_5_21 rfl).trans (st_callS' f_5_22 h_5_27 mn_9 rfl rfl rfl rfl)))
theorem bX0_leastWorth_25 {o0 o1 o2 o3 o4 o6 o7 o8 o9 o10 : Option Value} {y0 x5 : Int} (g1 : -2147483648 ≤ x5 ∧ x5 ≤ 2147483647) : XR sc d 5 25 [o0, o1, o2, o3, o4, some (xw x5), o6, o7, o8, o9, o10] [xw y0] (T, z, xv V, J, R) = if x5 = (-1) then XR sc d 5 40 [o0, o1, o2, o3, o4, some (xw x5), o6, o7, some (xw y0), o9, o10] [] (T, z, xv V, J, R) else XR sc d 5 33 [o0, o1, o2, o3, o4, some (xw x5), o6, o7, some (xw y0), o9, o10] [] (T, z, xv V, J, R) :=
  (sw_istore (L' := [o0, o1, o2, o3, o4, some (xw x5), o6, o7, some (xw y0), o9, o10]) f_5_25 (Nat.le_of_ble_eq_true rfl) rfl).trans ((sw_iload f_5_27 rfl).trans ((sw_iconst f_5_29).trans (sw_icmp_eq (t := 40) f_5_30 ⟨by decide, rfl⟩ g1 ⟨by decide, by decide⟩)))
theorem bX0_leastWorth_33 {o0 o1 o2 o3 o4 o5 o7 o9 o10 : Option Value} {x8 x6 : Int} (g1 : -2147483648 ≤ x8 ∧ x8 ≤ 2147483647) (g2 : -2147483648 ≤ x6 ∧ x6 ≤ 2147483647) : XR sc d 5 33 [o0, o1, o2, o3, o4, o5, some (xw x6), o7, some (xw x8), o9, o10] [] (T, z, xv V, J, R) = if x6 ≤ x8 then XR sc d 5 44 [o0, o1, o2, o3, o4, o5, some (xw x6), o7, some (xw x8), o9, o10] [] (T, z, xv V, J, R) else XR sc d 5 40 [o0, o1, o2, o3, o4, o5, some (xw x6), o7, some (xw x8), o9, o10] [] (T, z, xv V, J, R) :=
  (sw_iload f_5_33 rfl).trans ((sw_iload f_5_35 rfl).trans (sw_icmp_ge (t := 44) f_5_37 ⟨by decide, rfl⟩ g1 g2))
theorem bX0_leastWorth_40 {o0 o1 o2 o3 o4 o5 o6 o7 o8 o9 o10 : Option Value} : XR sc d 5 40 [o0, o1, o2, o3, o4, o5, o6, o7, o8, o9, o10] [] (T, z, xv V, J, R) = XR sc d 5 45 [o0, o1, o2, o3, o4, o5, o6, o7, o8, o9, o10] [xw 1] (T, z, xv V, J, R) :=
  (sw_iconst f_5_40).trans (st_goto (t := 45) f_5_41 ⟨by decide, rfl⟩)
theorem bX0_leastWorth_44 {o0 o1 o2 o3 o4 o5 o6 o7 o8 o9 o10 : Option Value} : XR sc d 5 44 [o0, o1, o2, o3, o4, o5, o6, o7, o8, o9, o10] [] (T, z, xv V, J, R) = XR sc d 5 45 [o0, o1, o2, o3, o4, o5, o6, o7, o8, o9, o10] [xw 0] (T, z, xv V, J, R) :=
  sw_iconst f_5_44
theorem bX0_leastWorth_45 {o0 o1 o2 o3 o4 o5 o6 o7 o8 o9 o10 : Option Value} {y0 : Int} (g1 : -2147483648 ≤ y0 ∧ y0 ≤ 2147483647) : XR sc d 5 45 [o0, o1, o2, o3, o4, o5, o6, o7, o8, o9, o10] [xw y0] (T, z, xv V, J, R) = if y0 = 0 then XR sc d 5 76 [o0, o1, o2, o3, o4, o5, o6, o7, o8, some (xw y0), o10] [] (T, z, xv V, J, R) else XR sc d 5 52 [o0, o1, o2, o3, o4, o5, o6, o7, o8, some (xw y0), o10] [] (T, z, xv V, J, R) :=
  (sw_istore (L' := [o0, o1, o2, o3, o4, o5, o6, o7, o8, some (xw y0), o10]) f_5_45 (Nat.le_of_ble_eq_true rfl) rfl).trans ((sw_iload f_5_47 rfl).trans (sw_if_eq (t := 76) f_5_49 ⟨by decide, rfl⟩ g1))
theorem bX0_leastWorth_52 {o1 o3 o4 o5 o6 o8 o9 o10 : Option Value} {x7 x2 : Int} {a0 : Nat} (g1 : T a0 = (1, 0)) : XR sc d 5 52 [some (.ref a0), o1, some (xw x2), o3, o4, o5, o6, some (xw x7), o8, o9, o10] [] (T, z, xv V, J, R) = xret 5 (XR sc d 5) 56 59 [some (.ref a0), o1, some (xw x2), o3, o4, o5, o6, some (xw x7), o8, o9, o10] [] (X sc d 3 [.ref a0, xw x7, xw x2] (T, z, xv V, J, R)) :=
  (st_aload_n f_5_52 rfl).trans ((sw_iload f_5_53 rfl).trans ((sw_iload_n f_5_55 rfl).trans (st_callV' f_5_56 h_5_31 mn_3 rfl rfl rfl rfl mo_3 g1 rfl)))
theorem bX0_leastWorth_59 {o0 o1 o2 o3 o5 o6 o7 o8 o9 o10 : Option Value} {x4 y0 : Int} (g1 : -2147483648 ≤ y0 ∧ y0 ≤ 2147483647) (g2 : -2147483648 ≤ x4 ∧ x4 ≤ 2147483647) : XR sc d 5 59 [o0, o1, o2, o3, some (xw x4), o5, o6, o7, o8, o9, o10] [xw y0] (T, z, xv V, J, R) = if y0 < x4 then XR sc d 5 76 [o0, o1, o2, o3, some (xw x4), o5, o6, o7, o8, o9, o10] [] (T, z, xv V, J, R) else XR sc d 5 64 [o0, o1, o2, o3, some (xw x4), o5, o6, o7, o8, o9, o10] [] (T, z, xv V, J, R) :=
  (sw_iload f_5_59 rfl).trans (sw_icmp_lt (t := 76) f_5_61 ⟨by decide, rfl⟩ g1 g2)
theorem bX0_leastWorth_64 {o4 o5 o6 o8 o9 o10 : Option Value} {x7 x1 x2 x3 : Int} {a0 : Nat} (g1 : T a0 = (1, 0)) : XR sc d 5 64 [some (.ref a0), some (xw x1), some (xw x2), some (xw x3), o4, o5, o6, some (xw x7), o8, o9, o10] [] (T, z, xv V, J, R) = xret 5 (XR sc d 5) 70 73 [some (.ref a0), some (xw x1), some (xw x2), some (xw x3), o4, o5, o6, some (xw x7), o8, o9, o10] [] (X sc d 6 [.ref a0, xw x7, xw x1, xw x2, xw x3] (T, z, xv V, J, R)) :=
  (st_aload_n f_5_64 rfl).trans ((sw_iload f_5_65 rfl).trans ((sw_iload_n f_5_67 rfl).trans ((sw_iload_n f_5_68 rfl).trans ((sw_iload_n f_5_69 rfl).trans (st_callV' f_5_70 h_5_35 mn_6 rfl rfl rfl rfl mo_6 g1 rfl)))))
theorem bX0_leastWorth_73 {o0 o1 o2 o3 o4 o5 o6 o7 o8 o9 o10 : Option Value} {s0 : Value} : XR sc d 5 73 [o0, o1, o2, o3, o4, o5, o6, o7, o8, o9, o10] [s0] (T, z, xv V, J, R) = XR sc d 5 77 [o0, o1, o2, o3, o4, o5, o6, o7, o8, o9, o10] [s0] (T, z, xv V, J, R) :=
  st_goto (t := 77) f_5_73 ⟨by decide, rfl⟩
theorem bX0_leastWorth_76 {o0 o1 o2 o3 o4 o5 o6 o7 o8 o9 o10 : Option Value} : XR sc d 5 76 [o0, o1, o2, o3, o4, o5, o6, o7, o8, o9, o10] [] (T, z, xv V, J, R) = XR sc d 5 77 [o0, o1, o2, o3, o4, o5, o6, o7, o8, o9, o10] [xw (-1)] (T, z, xv V, J, R) :=
  sw_iconst f_5_76
theorem bX0_leastWorth_77 {o0 o1 o2 o3 o4 o5 o6 o7 o8 o9 o10 : Option Value} {y0 : Int} (g1 : -2147483648 ≤ y0 ∧ y0 ≤ 2147483647) : XR sc d 5 77 [o0, o1, o2, o3, o4, o5, o6, o7, o8, o9, o10] [xw y0] (T, z, xv V, J, R) = if y0 = (-1) then XR sc d 5 99 [o0, o1, o2, o3, o4, o5, o6, o7, o8, o9, some (xw y0)] [] (T, z, xv V, J, R) else XR sc d 5 85 [o0, o1, o2, o3, o4, o5, o6, o7, o8, o9, some (xw y0)] [] (T, z, xv V, J, R) :=
  (sw_istore (L' := [o0, o1, o2, o3, o4, o5, o6, o7, o8, o9, some (xw y0)]) f_5_77 (Nat.le_of_ble_eq_true rfl) rfl).trans ((sw_iload f_5_79 rfl).trans ((sw_iconst f_5_81).trans (sw_icmp_eq (t := 99) f_5_82 ⟨by decide, rfl⟩ g1 ⟨by decide, by decide⟩)))
theorem bX0_leastWorth_85 {o0 o1 o2 o3 o4 o5 o6 o9 : Option Value} {x7 x10 x8 : Int} : XR sc d 5 85 [o0, o1, o2, o3, o4, o5, o6, some (xw x7), some (xw x8), o9, some (xw x10)] [] (T, z, xv V, J, R) = XR sc d 5 99 [o0, o1, o2, o3, o4, some (xw ((12 * x7) + x10)), some (xw x8), some (xw x7), some (xw x8), o9, some (xw x10)] [] (T, z, xv V, J, R) :=
  (sw_bipush f_5_85 c8_12).trans ((sw_iload f_5_87 rfl).trans ((sw_imul f_5_89).trans ((sw_iload f_5_90 rfl).trans ((sw_iadd f_5_92).trans ((sw_istore (L' := [o0, o1, o2, o3, o4, some (xw ((12 * x7) + x10)), o6, some (xw x7), some (xw x8), o9, some (xw x10)]) f_5_93 (Nat.le_of_ble_eq_true rfl) rfl).trans ((sw_iload f_5_95 rfl).trans (sw_istore (L' := [o0, o1, o2, o3, o4, some (xw ((12 * x7) + x10)), some (xw x8), some (xw x7), some (xw x8), o9, some (xw x10)]) f_5_97 (Nat.le_of_ble_eq_true rfl) rfl)))))))
theorem bX0_leastWorth_99 {o0 o1 o2 o3 o4 o5 o6 o8 o9 o10 : Option Value} {x7 : Int} : XR sc d 5 99 [o0, o1, o2, o3, o4, o5, o6, some (xw x7), o8, o9, o10] [] (T, z, xv V, J, R) = XR sc d 5 9 [o0, o1, o2, o3, o4, o5, o6, some (xw (x7 + 1)), o8, o9, o10] [] (T, z, xv V, J, R) :=
  (sw_iinc (L' := [o0, o1, o2, o3, o4, o5, o6, some (xw (x7 + 1)), o8, o9, o10]) f_5_99 rfl (Nat.le_of_ble_eq_true rfl) rfl).trans (st_goto (t := 9) f_5_102 ⟨by decide, rfl⟩)
theorem bX0_leastWorth_105 {o0 o1 o2 o3 o4 o6 o7 o8 o9 o10 : Option Value} {x5 : Int} : XR sc d 5 105 [o0, o1, o2, o3, o4, some (xw x5), o6, o7, o8, o9, o10] [] (T, z, xv V, J, R) = some (.inl (some (xw x5)), (T, z, xv V, J, R)) :=
  (sw_iload f_5_105 rfl).trans (sw_ireturn f_5_107 mr_5)
theorem eX0_firstColumn {x1 x2 x3 x4 : Int} {a0 : Nat} : X sc (d + 1) 6 [.ref a0, xw x1, xw x2, xw x3, xw x4] (T, z, xv V, J, R) = XR sc d 6 0 [some (.ref a0), some (xw x1), some (xw x2), some (xw x3), some (xw x4), none] [] (T, z, xv V, J, R) :=
  (X_eq ⟨jl_6, by rw [mn_6]; rfl, rfl, by rw [lm_6]; exact Nat.le_of_ble_eq_true rfl⟩).trans (by unfold xent; rw [lm_6]; rfl)
theorem bX0_firstColumn_0 {o0 o1 o2 o3 o4 o5 : Option Value} : XR sc d 6 0 [o0, o1, o2, o3, o4, o5] [] (T, z, xv V, J, R) = XR sc d 6 3 [o0, o1, o2, o3, o4, some (xw 0)] [] (T, z, xv V, J, R) :=
  (sw_iconst f_6_0).trans (sw_istore (L' := [o0, o1, o2, o3, o4, some (xw 0)]) f_6_1 (Nat.le_of_ble_eq_true rfl) rfl)
theorem bX0_firstColumn_3 {o0 o1 o3 o4 : Option Value} {x5 x2 : Int} (g1 : -2147483648 ≤ (x5 + x2) ∧ (x5 + x2) ≤ 2147483647) : XR sc d 6 3 [o0, o1, some (xw x2), o3, o4, some (xw x5)] [] (T, z, xv V, J, R) = if 12 < (x5 + x2) then XR sc d 6 35 [o0, o1, some (xw x2), o3, o4, some (xw x5)] [] (T, z, xv V, J, R) else XR sc d 6 12 [o0, o1, some (xw x2), o3, o4, some (xw x5)] [] (T, z, xv V, J, R) :=
  (sw_iload f_6_3 rfl).trans ((sw_iload_n f_6_5 rfl).trans ((sw_iadd f_6_6).trans ((sw_bipush f_6_7 c8_12).trans (sw_icmp_gt (t := 35) f_6_9 ⟨by decide, rfl⟩ g1 ⟨by decide, by decide⟩))))
theorem bX0_firstColumn_12 {x5 x1 x2 x3 x4 : Int} {a0 : Nat} (g1 : T a0 = (1, 0)) : XR sc d 6 12 [some (.ref a0), some (xw x1), some (xw x2), some (xw x3), some (xw x4), some (xw x5)] [] (T, z, xv V, J, R) = xret 6 (XR sc d 6) 20 23 [some (.ref a0), some (xw x1), some (xw x2), some (xw x3), some (xw x4), some (xw x5)] [] (X sc d 4 [.ref a0, xw x5, xw x1, xw x2, xw x3, xw x4] (T, z, xv V, J, R)) :=
  (st_aload_n f_6_12 rfl).trans ((sw_iload f_6_13 rfl).trans ((sw_iload_n f_6_15 rfl).trans ((sw_iload_n f_6_16 rfl).trans ((sw_iload_n f_6_17 rfl).trans ((sw_iload f_6_18 rfl).trans (st_callV' f_6_20 h_6_39 mn_4 rfl rfl rfl rfl mo_4 g1 rfl))))))
theorem bX0_firstColumn_23 {o0 o1 o2 o3 o4 o5 : Option Value} {y0 : Int} (g1 : -2147483648 ≤ y0 ∧ y0 ≤ 2147483647) : XR sc d 6 23 [o0, o1, o2, o3, o4, o5] [xw y0] (T, z, xv V, J, R) = if y0 = 0 then XR sc d 6 29 [o0, o1, o2, o3, o4, o5] [] (T, z, xv V, J, R) else XR sc d 6 26 [o0, o1, o2, o3, o4, o5] [] (T, z, xv V, J, R) :=
  sw_if_eq (t := 29) f_6_23 ⟨by decide, rfl⟩ g1
theorem bX0_firstColumn_26 {o0 o1 o2 o3 o4 : Option Value} {x5 : Int} : XR sc d 6 26 [o0, o1, o2, o3, o4, some (xw x5)] [] (T, z, xv V, J, R) = some (.inl (some (xw x5)), (T, z, xv V, J, R)) :=
  (sw_iload f_6_26 rfl).trans (sw_ireturn f_6_28 mr_6)
theorem bX0_firstColumn_29 {o0 o1 o2 o3 o4 : Option Value} {x5 : Int} : XR sc d 6 29 [o0, o1, o2, o3, o4, some (xw x5)] [] (T, z, xv V, J, R) = XR sc d 6 3 [o0, o1, o2, o3, o4, some (xw (x5 + 1))] [] (T, z, xv V, J, R) :=
  (sw_iinc (L' := [o0, o1, o2, o3, o4, some (xw (x5 + 1))]) f_6_29 rfl (Nat.le_of_ble_eq_true rfl) rfl).trans (st_goto (t := 3) f_6_32 ⟨by decide, rfl⟩)
theorem bX0_firstColumn_35 {o0 o1 o2 o3 o4 o5 : Option Value} : XR sc d 6 35 [o0, o1, o2, o3, o4, o5] [] (T, z, xv V, J, R) = some (.inl (some (xw (-1))), (T, z, xv V, J, R)) :=
  (sw_iconst f_6_35).trans (sw_ireturn f_6_36 mr_6)
theorem eX0_isWhole {x1 x2 x3 x4 : Int} {a0 : Nat} : X sc (d + 1) 7 [.ref a0, xw x1, xw x2, xw x3, xw x4] (T, z, xv V, J, R) = XR sc d 7 0 [some (.ref a0), some (xw x1), some (xw x2), some (xw x3), some (xw x4), none, none] [] (T, z, xv V, J, R) :=
  (X_eq ⟨jl_7, by rw [mn_7]; rfl, rfl, by rw [lm_7]; exact Nat.le_of_ble_eq_true rfl⟩).trans (by unfold xent; rw [lm_7]; rfl)
theorem bX0_isWhole_0 {o0 o1 o3 o4 o5 o6 : Option Value} {x2 : Int} : XR sc d 7 0 [o0, o1, some (xw x2), o3, o4, o5, o6] [] (T, z, xv V, J, R) = XR sc d 7 3 [o0, o1, some (xw x2), o3, o4, some (xw x2), o6] [] (T, z, xv V, J, R) :=
  (sw_iload_n f_7_0 rfl).trans (sw_istore (L' := [o0, o1, some (xw x2), o3, o4, some (xw x2), o6]) f_7_1 (Nat.le_of_ble_eq_true rfl) rfl)
theorem bX0_isWhole_3 {o0 o1 o3 o6 : Option Value} {x5 x2 x4 : Int} (g1 : -2147483648 ≤ x5 ∧ x5 ≤ 2147483647) (g2 : -2147483648 ≤ (x2 + x4) ∧ (x2 + x4) ≤ 2147483647) : XR sc d 7 3 [o0, o1, some (xw x2), o3, some (xw x4), some (xw x5), o6] [] (T, z, xv V, J, R) = if (x2 + x4) ≤ x5 then XR sc d 7 53 [o0, o1, some (xw x2), o3, some (xw x4), some (xw x5), o6] [] (T, z, xv V, J, R) else XR sc d 7 12 [o0, o1, some (xw x2), o3, some (xw x4), some (xw x5), o6] [] (T, z, xv V, J, R) :=
  (sw_iload f_7_3 rfl).trans ((sw_iload_n f_7_5 rfl).trans ((sw_iload f_7_6 rfl).trans ((sw_iadd f_7_8).trans (sw_icmp_ge (t := 53) f_7_9 ⟨by decide, rfl⟩ g1 g2))))
theorem bX0_isWhole_12 {o0 o2 o3 o4 o5 o6 : Option Value} {x1 : Int} : XR sc d 7 12 [o0, some (xw x1), o2, o3, o4, o5, o6] [] (T, z, xv V, J, R) = XR sc d 7 15 [o0, some (xw x1), o2, o3, o4, o5, some (xw x1)] [] (T, z, xv V, J, R) :=
  (sw_iload_n f_7_12 rfl).trans (sw_istore (L' := [o0, some (xw x1), o2, o3, o4, o5, some (xw x1)]) f_7_13 (Nat.le_of_ble_eq_true rfl) rfl)
theorem bX0_isWhole_15 {o0 o2 o4 o5 : Option Value} {x6 x1 x3 : Int} (g1 : -2147483648 ≤ x6 ∧ x6 ≤ 2147483647) (g2 : -2147483648 ≤ (x1 + x3) ∧ (x1 + x3) ≤ 2147483647) : XR sc d 7 15 [o0, some (xw x1), o2, some (xw x3), o4, o5, some (xw x6)] [] (T, z, xv V, J, R) = if (x1 + x3) ≤ x6 then XR sc d 7 47 [o0, some (xw x1), o2, some (xw x3), o4, o5, some (xw x6)] [] (T, z, xv V, J, R) else XR sc d 7 23 [o0, some (xw x1), o2, some (xw x3), o4, o5, some (xw x6)] [] (T, z, xv V, J, R) :=
  (sw_iload f_7_15 rfl).trans ((sw_iload_n f_7_17 rfl).trans ((sw_iload_n f_7_18 rfl).trans ((sw_iadd f_7_19).trans (sw_icmp_ge (t := 47) f_7_20 ⟨by decide, rfl⟩ g1 g2))))
theorem bX0_isWhole_23 {o1 o2 o3 o4 : Option Value} {x5 x6 : Int} {a0 : Nat} (g1 : T a0 = (1, 0)) (g2 : R a0 1 = some ((R a0 1).getD 0)) (g3 : T ((R a0 1).getD 0) = (33, (T ((R a0 1).getD 0)).2)) (g4 : (0 : Int) ≤ ((x5 * 12) + x6) ∧ ((x5 * 12) + x6) < ((T ((R a0 1).getD 0)).2 : Int) ∧ (T ((R a0 1).getD 0)).2 ≤ 3584) (g5 : -2147483648 ≤ (V ((R a0 1).getD 0) ((x5 * 12) + x6).toNat) ∧ (V ((R a0 1).getD 0) ((x5 * 12) + x6).toNat) ≤ 2147483647) : XR sc d 7 23 [some (.ref a0), o1, o2, o3, o4, some (xw x5), some (xw x6)] [] (T, z, xv V, J, R) = if (V ((R a0 1).getD 0) ((x5 * 12) + x6).toNat) = 0 then XR sc d 7 41 [some (.ref a0), o1, o2, o3, o4, some (xw x5), some (xw x6)] [] (T, z, xv V, J, R) else XR sc d 7 39 [some (.ref a0), o1, o2, o3, o4, some (xw x5), some (xw x6)] [] (T, z, xv V, J, R) :=
  (st_aload_n f_7_23 rfl).trans ((st_getR f_7_24 e_7_15 (by decide) g1 g2).trans ((sw_iload f_7_27 rfl).trans ((sw_bipush f_7_29 c8_12).trans ((sw_imul f_7_31).trans ((sw_iload f_7_32 rfl).trans ((sw_iadd f_7_34).trans ((sw_baload f_7_35 g3 g4).trans (sw_if_eq (t := 41) f_7_36 ⟨by decide, rfl⟩ g5))))))))
theorem bX0_isWhole_39 {o0 o1 o2 o3 o4 o5 o6 : Option Value} : XR sc d 7 39 [o0, o1, o2, o3, o4, o5, o6] [] (T, z, xv V, J, R) = some (.inl (some (xw 0)), (T, z, xv V, J, R)) :=
  (sw_iconst f_7_39).trans (sw_zreturn f_7_40 mr_7 (by decide))
theorem bX0_isWhole_41 {o0 o1 o2 o3 o4 o5 : Option Value} {x6 : Int} : XR sc d 7 41 [o0, o1, o2, o3, o4, o5, some (xw x6)] [] (T, z, xv V, J, R) = XR sc d 7 15 [o0, o1, o2, o3, o4, o5, some (xw (x6 + 1))] [] (T, z, xv V, J, R) :=
  (sw_iinc (L' := [o0, o1, o2, o3, o4, o5, some (xw (x6 + 1))]) f_7_41 rfl (Nat.le_of_ble_eq_true rfl) rfl).trans (st_goto (t := 15) f_7_44 ⟨by decide, rfl⟩)
theorem bX0_isWhole_47 {o0 o1 o2 o3 o4 o6 : Option Value} {x5 : Int} : XR sc d 7 47 [o0, o1, o2, o3, o4, some (xw x5), o6] [] (T, z, xv V, J, R) = XR sc d 7 3 [o0, o1, o2, o3, o4, some (xw (x5 + 1)), o6] [] (T, z, xv V, J, R) :=
  (sw_iinc (L' := [o0, o1, o2, o3, o4, some (xw (x5 + 1)), o6]) f_7_47 rfl (Nat.le_of_ble_eq_true rfl) rfl).trans (st_goto (t := 3) f_7_50 ⟨by decide, rfl⟩)
theorem bX0_isWhole_53 {o0 o1 o2 o3 o4 o5 o6 : Option Value} : XR sc d 7 53 [o0, o1, o2, o3, o4, o5, o6] [] (T, z, xv V, J, R) = some (.inl (some (xw 1)), (T, z, xv V, J, R)) :=
  (sw_iconst f_7_53).trans (sw_zreturn f_7_54 mr_7 (by decide))
theorem eX0_reachesBelly {x0 x1 : Int} : X sc (d + 1) 8 [xw x0, xw x1] (T, z, xv V, J, R) = XR sc d 8 0 [some (xw x0), some (xw x1)] [] (T, z, xv V, J, R) :=
  (X_eq ⟨jl_8, by rw [mn_8]; rfl, rfl, by rw [lm_8]; exact Nat.le_of_ble_eq_true rfl⟩).trans (by unfold xent; rw [lm_8]; rfl)
theorem bX0_reachesBelly_0 {x0 x1 : Int} (g1 : -2147483648 ≤ (x0 + x1) ∧ (x0 + x1) ≤ 2147483647) : XR sc d 8 0 [some (xw x0), some (xw x1)] [] (T, z, xv V, J, R) = if (x0 + x1) ≤ 5 then XR sc d 8 11 [some (xw x0), some (xw x1)] [] (T, z, xv V, J, R) else XR sc d 8 7 [some (xw x0), some (xw x1)] [] (T, z, xv V, J, R) :=
  (sw_iload_n f_8_0 rfl).trans ((sw_iload_n f_8_1 rfl).trans ((sw_iadd f_8_2).trans ((sw_iconst f_8_3).trans (sw_icmp_le (t := 11) f_8_4 ⟨by decide, rfl⟩ g1 ⟨by decide, by decide⟩))))
theorem bX0_reachesBelly_7 {o0 o1 : Option Value} : XR sc d 8 7 [o0, o1] [] (T, z, xv V, J, R) = XR sc d 8 12 [o0, o1] [xw 1] (T, z, xv V, J, R) :=
  (sw_iconst f_8_7).trans (st_goto (t := 12) f_8_8 ⟨by decide, rfl⟩)
theorem bX0_reachesBelly_11 {o0 o1 : Option Value} : XR sc d 8 11 [o0, o1] [] (T, z, xv V, J, R) = XR sc d 8 12 [o0, o1] [xw 0] (T, z, xv V, J, R) :=
  sw_iconst f_8_11
theorem bX0_reachesBelly_12 {o0 o1 : Option Value} {y0 : Int} (g1 : y0 = 0 ∨ y0 = 1) : XR sc d 8 12 [o0, o1] [xw y0] (T, z, xv V, J, R) = some (.inl (some (xw y0)), (T, z, xv V, J, R)) :=
  sw_zreturn f_8_12 mr_8 g1
theorem eX0_worth {x0 x1 x2 : Int} : X sc (d + 1) 9 [xw x0, xw x1, xw x2] (T, z, xv V, J, R) = XR sc d 9 0 [some (xw x0), some (xw x1), some (xw x2), none, none, none] [] (T, z, xv V, J, R) :=
  (X_eq ⟨jl_9, by rw [mn_9]; rfl, rfl, by rw [lm_9]; exact Nat.le_of_ble_eq_true rfl⟩).trans (by unfold xent; rw [lm_9]; rfl)
theorem bX0_worth_0 {o1 o2 o3 o4 o5 : Option Value} {x0 : Int} : XR sc d 9 0 [some (xw x0), o1, o2, o3, o4, o5] [] (T, z, xv V, J, R) = XR sc d 9 5 [some (xw x0), o1, o2, some (xw 0), some (xw x0), o5] [] (T, z, xv V, J, R) :=
  (sw_iconst f_9_0).trans ((sw_istore_n (L' := [some (xw x0), o1, o2, some (xw 0), o4, o5]) f_9_1 (Nat.le_of_ble_eq_true rfl) rfl).trans ((sw_iload_n f_9_2 rfl).trans (sw_istore (L' := [some (xw x0), o1, o2, some (xw 0), some (xw x0), o5]) f_9_3 (Nat.le_of_ble_eq_true rfl) rfl)))
theorem bX0_worth_5 {o1 o3 o5 : Option Value} {x4 x0 x2 : Int} (g1 : -2147483648 ≤ x4 ∧ x4 ≤ 2147483647) (g2 : -2147483648 ≤ (x0 + x2) ∧ (x0 + x2) ≤ 2147483647) : XR sc d 9 5 [some (xw x0), o1, some (xw x2), o3, some (xw x4), o5] [] (T, z, xv V, J, R) = if (x0 + x2) ≤ x4 then XR sc d 9 49 [some (xw x0), o1, some (xw x2), o3, some (xw x4), o5] [] (T, z, xv V, J, R) else XR sc d 9 13 [some (xw x0), o1, some (xw x2), o3, some (xw x4), o5] [] (T, z, xv V, J, R) :=
  (sw_iload f_9_5 rfl).trans ((sw_iload_n f_9_7 rfl).trans ((sw_iload_n f_9_8 rfl).trans ((sw_iadd f_9_9).trans (sw_icmp_ge (t := 49) f_9_10 ⟨by decide, rfl⟩ g1 g2))))
theorem bX0_worth_13 {o0 o1 o2 o3 o5 : Option Value} {x4 : Int} (g1 : -2147483648 ≤ x4 ∧ x4 ≤ 2147483647) : XR sc d 9 13 [o0, o1, o2, o3, some (xw x4), o5] [] (T, z, xv V, J, R) = if 2 ≤ x4 then XR sc d 9 23 [o0, o1, o2, o3, some (xw x4), o5] [] (T, z, xv V, J, R) else XR sc d 9 19 [o0, o1, o2, o3, some (xw x4), o5] [] (T, z, xv V, J, R) :=
  (sw_iload f_9_13 rfl).trans ((sw_iconst f_9_15).trans (sw_icmp_ge (t := 23) f_9_16 ⟨by decide, rfl⟩ g1 ⟨by decide, by decide⟩))
theorem bX0_worth_19 {o0 o1 o2 o3 o4 o5 : Option Value} : XR sc d 9 19 [o0, o1, o2, o3, o4, o5] [] (T, z, xv V, J, R) = XR sc d 9 34 [o0, o1, o2, o3, o4, o5] [xw 3] (T, z, xv V, J, R) :=
  (sw_iconst f_9_19).trans (st_goto (t := 34) f_9_20 ⟨by decide, rfl⟩)
theorem bX0_worth_23 {o0 o1 o2 o3 o5 : Option Value} {x4 : Int} (g1 : -2147483648 ≤ x4 ∧ x4 ≤ 2147483647) : XR sc d 9 23 [o0, o1, o2, o3, some (xw x4), o5] [] (T, z, xv V, J, R) = if 5 ≤ x4 then XR sc d 9 33 [o0, o1, o2, o3, some (xw x4), o5] [] (T, z, xv V, J, R) else XR sc d 9 29 [o0, o1, o2, o3, some (xw x4), o5] [] (T, z, xv V, J, R) :=
  (sw_iload f_9_23 rfl).trans ((sw_iconst f_9_25).trans (sw_icmp_ge (t := 33) f_9_26 ⟨by decide, rfl⟩ g1 ⟨by decide, by decide⟩))
theorem bX0_worth_29 {o0 o1 o2 o3 o4 o5 : Option Value} : XR sc d 9 29 [o0, o1, o2, o3, o4, o5] [] (T, z, xv V, J, R) = XR sc d 9 34 [o0, o1, o2, o3, o4, o5] [xw 2] (T, z, xv V, J, R) :=
  (sw_iconst f_9_29).trans (st_goto (t := 34) f_9_30 ⟨by decide, rfl⟩)
theorem bX0_worth_33 {o0 o1 o2 o3 o4 o5 : Option Value} : XR sc d 9 33 [o0, o1, o2, o3, o4, o5] [] (T, z, xv V, J, R) = XR sc d 9 34 [o0, o1, o2, o3, o4, o5] [xw 1] (T, z, xv V, J, R) :=
  sw_iconst f_9_33
theorem bX0_worth_34 {o0 o2 o5 : Option Value} {y0 x3 x1 x4 : Int} : XR sc d 9 34 [o0, some (xw x1), o2, some (xw x3), some (xw x4), o5] [xw y0] (T, z, xv V, J, R) = XR sc d 9 5 [o0, some (xw x1), o2, some (xw (x3 + (x1 * y0))), some (xw (x4 + 1)), some (xw y0)] [] (T, z, xv V, J, R) :=
  (sw_istore (L' := [o0, some (xw x1), o2, some (xw x3), some (xw x4), some (xw y0)]) f_9_34 (Nat.le_of_ble_eq_true rfl) rfl).trans ((sw_iload_n f_9_36 rfl).trans ((sw_iload_n f_9_37 rfl).trans ((sw_iload f_9_38 rfl).trans ((sw_imul f_9_40).trans ((sw_iadd f_9_41).trans ((sw_istore_n (L' := [o0, some (xw x1), o2, some (xw (x3 + (x1 * y0))), some (xw x4), some (xw y0)]) f_9_42 (Nat.le_of_ble_eq_true rfl) rfl).trans ((sw_iinc (L' := [o0, some (xw x1), o2, some (xw (x3 + (x1 * y0))), some (xw (x4 + 1)), some (xw y0)]) f_9_43 rfl (Nat.le_of_ble_eq_true rfl) rfl).trans (st_goto (t := 5) f_9_46 ⟨by decide, rfl⟩))))))))
theorem bX0_worth_49 {o0 o1 o2 o4 o5 : Option Value} {x3 : Int} : XR sc d 9 49 [o0, o1, o2, some (xw x3), o4, o5] [] (T, z, xv V, J, R) = some (.inl (some (xw x3)), (T, z, xv V, J, R)) :=
  (sw_iload_n f_9_49 rfl).trans (sw_ireturn f_9_50 mr_9)
end BLK
end
section
/-! what the methods of Hide do -/
section SX0
variable {sc : xS} {d : Nat} {T : Nat → Nat × Nat} {z : Nat × Nat} {V : Nat → Nat → Int} {J : Nat → Nat → Int64} {R : Nat → Nat → Option Nat}
/-- the squares of a rectangle are gone -/
def xSp (V : Nat → Nat → Int) (g : Nat) (col row along wide : Int) : Nat → Nat → Int := fun b j => if b = g ∧ (row ≤ (j : Int) / 12 ∧ (j : Int) / 12 < row + wide ∧ col ≤ (j : Int) % 12 ∧ (j : Int) % 12 < col + along) then 1 else V b j
/-- a hide stands at a, its squares at g -/
def xHi (T : Nat → Nat × Nat) (R : Nat → Nat → Option Nat) (a g : Nat) : Prop := T a = (1, 0) ∧ R a 1 = some g ∧ T g = (33, 96)
theorem spoil_in {a g : Nat} {col row along wide r : Int} {o2 o4 : Option Value} (hH : xHi T R a g) (hc : 0 ≤ col ∧ 0 ≤ along ∧ col + along ≤ 12) (hr : 0 ≤ r ∧ r < 8) :
    ∀ (m : Nat) (c : Int) (V : Nat → Nat → Int), 0 ≤ c → c + m = col + along →
    XR sc d 1 15 [some (.ref a), some (xw col), o2, some (xw along), o4, some (xw r), some (xw c)] [] (T, z, xv V, J, R) = XR sc d 1 43 [some (.ref a), some (xw col), o2, some (xw along), o4, some (xw r), some (xw (col + along))] [] (T, z, xv (xSp V g c r m 1), J, R) := by
  obtain ⟨h1, h2, h3⟩ := hH
  intro m
  induction m with
  | zero =>
    intro c V hc0 he
    obtain rfl : c = col + along := by omega
    rw [bX0_spoil_15 (by omega) (by omega), if_pos (by omega)]
    have : xSp V g (col + along) r (0 : Nat) 1 = V := by
      funext b j
      simp only [xSp]
      split
      · omega
      · rfl
    rw [this]
  | succ m ih =>
    intro c V hc0 he
    rw [bX0_spoil_15 (by omega) (by omega), if_neg (by omega), bX0_spoil_23 h1 (by rw [h2]; rfl) (by rw [h2]; simp only [Option.getD_some, h3]) (by rw [h2]; simp only [Option.getD_some, h3]; omega), ih (c + 1) _ (by omega) (by omega)]
    have : xSp (xup2 V ((R a 1).getD 0) (r * 12 + c).toNat 1) g (c + 1) r m 1 = xSp V g c r (m + 1 : Nat) 1 := by
      rw [h2]
      funext b j
      simp only [xSp, xup2, Option.getD_some]
      by_cases hb : b = g
      · subst hb
        simp only [true_and]
        split <;> split <;> first | rfl | (split <;> first | rfl | omega) | omega
      · simp only [hb, false_and, if_false]
    rw [this]
theorem spoil_out {a g : Nat} {col row along wide : Int} (hH : xHi T R a g) (hc : 0 ≤ col ∧ 0 ≤ along ∧ col + along ≤ 12) (hr : 0 ≤ row ∧ 0 ≤ wide ∧ row + wide ≤ 8) :
    ∀ (m : Nat) (r : Int) (V : Nat → Nat → Int) (o6 : Option Value), 0 ≤ r → r + m = row + wide →
    XR sc d 1 3 [some (.ref a), some (xw col), some (xw row), some (xw along), some (xw wide), some (xw r), o6] [] (T, z, xv V, J, R) = some (.inl none, (T, z, xv (xSp V g col r along m), J, R)) := by
  intro m
  induction m with
  | zero =>
    intro r V o6 hr0 he
    rw [bX0_spoil_3 (by omega) (by omega), if_pos (by omega), bX0_spoil_49]
    have : xSp V g col r along (0 : Nat) = V := by
      funext b j
      simp only [xSp]
      split
      · omega
      · rfl
    rw [this]
  | succ m ih =>
    intro r V o6 hr0 he
    obtain ⟨n, hn⟩ : ∃ n : Nat, (n : Int) = along := ⟨along.toNat, by omega⟩
    rw [bX0_spoil_3 (by omega) (by omega), if_neg (by omega), bX0_spoil_12, spoil_in (row := row) (wide := wide) hH hc (by omega) n col V (by omega) (by omega), bX0_spoil_43, ih (r + 1) _ _ (by omega) (by omega), hn]
    have : xSp (xSp V g col r along 1) g col (r + 1) along m = xSp V g col r along (m + 1 : Nat) := by
      funext b j
      simp only [xSp]
      by_cases hb : b = g
      · simp only [hb, true_and]
        split <;> split <;> first | rfl | (split <;> first | rfl | omega) | omega
      · simp only [hb, false_and, if_false]
    rw [this]
theorem s_spoil {a g : Nat} {col row along wide : Int} (hH : xHi T R a g) (hc : 0 ≤ col ∧ 0 ≤ along ∧ col + along ≤ 12) (hr : 0 ≤ row ∧ 0 ≤ wide ∧ row + wide ≤ 8) :
    X sc (d + 1) 1 [.ref a, xw col, xw row, xw along, xw wide] (T, z, xv V, J, R) = some (.inl none, (T, z, xv (xSp V g col row along wide), J, R)) := by
  obtain ⟨n, hn⟩ : ∃ n : Nat, (n : Int) = wide := ⟨wide.toNat, by omega⟩
  rw [eX0_spoil, bX0_spoil_0, spoil_out hH hc hr n row V _ (by omega) (by omega), hn]
/-- how many of the squares from k on are left -/
def xLeft (V : Nat → Nat → Int) (g : Nat) : Nat → Nat → Int
  | 0, _ => 0
  | m + 1, k => (if V g k = 0 then 1 else 0) + xLeft V g m (k + 1)
theorem left_loop {a g : Nat} (h3 : T g = (33, 96)) (hV : ∀ k, k < 96 → V g k = 0 ∨ V g k = 1) {o0 : Option Value} :
    ∀ (m k : Nat) (n : Int) (o5 : Option Value), k + m = 96 → 0 ≤ n → n ≤ k →
    XR sc d 2 13 [o0, some (xw n), some (.ref g), some (xw 96), some (xw k), o5] [] (T, z, xv V, J, R) = some (.inl (some (xw (n + xLeft V g m k))), (T, z, xv V, J, R)) := by
  intro m
  induction m with
  | zero =>
    intro k n o5 hk h0 hn
    rw [bX0_squaresLeft_13 (by omega) (by decide), if_pos (by omega), bX0_squaresLeft_44]
    simp [xLeft]
  | succ m ih =>
    intro k n o5 hk h0 hn
    have hv := hV k (by omega)
    rw [bX0_squaresLeft_13 (by omega) (by decide), if_neg (by omega), bX0_squaresLeft_19 (by rw [h3]) (by rw [h3]; omega) (by simp only [Int.toNat_natCast]; omega)]
    simp only [Int.toNat_natCast]
    have e : (k : Int) + 1 = ((k + 1 : Nat) : Int) := by omega
    by_cases h : V g k = 0
    · rw [if_pos h, bX0_squaresLeft_35, bX0_squaresLeft_36, e, ih (k + 1) _ _ (by omega) (by omega) (by omega)]
      simp only [xLeft, if_pos h, Int.add_assoc]
    · rw [if_neg h, bX0_squaresLeft_31, bX0_squaresLeft_36, e, ih (k + 1) _ _ (by omega) (by omega) (by omega)]
      simp only [xLeft, if_neg h, Int.add_assoc]
theorem s_squaresLeft {a g : Nat} (hH : xHi T R a g) (hV : ∀ k, k < 96 → V g k = 0 ∨ V g k = 1) :
    X sc (d + 1) 2 [.ref a] (T, z, xv V, J, R) = some (.inl (some (xw (xLeft V g 96 0))), (T, z, xv V, J, R)) := by
  obtain ⟨h1, h2, h3⟩ := hH
  rw [eX0_squaresLeft, bX0_squaresLeft_0 h1 (by rw [h2]; rfl) rfl (by rw [h2]; simp only [Option.getD_some, h3]; decide), h2]
  simp only [Option.getD_some, h3]
  have := left_loop (sc := sc) (d := d) (z := z) (J := J) (R := R) (a := a) (o0 := some (.ref a)) h3 hV 96 0 0 none rfl (by omega) (by omega)
  rw [Int.zero_add] at this
  exact this
theorem s_reachesBelly {row wide : Int} (h : 0 ≤ row ∧ row ≤ 1000 ∧ 0 ≤ wide ∧ wide ≤ 1000) :
    X sc (d + 1) 8 [xw row, xw wide] (T, z, xv V, J, R) = some (.inl (some (xw (if row + wide ≤ 5 then 0 else 1))), (T, z, xv V, J, R)) := by
  rw [eX0_reachesBelly, bX0_reachesBelly_0 (by omega)]
  by_cases h5 : row + wide ≤ 5
  · rw [if_pos h5, if_pos h5, bX0_reachesBelly_11, bX0_reachesBelly_12 (by decide)]
  · rw [if_neg h5, if_neg h5, bX0_reachesBelly_7, bX0_reachesBelly_12 (by decide)]
theorem s_thinnest {a : Nat} {row wide : Int} (hT : T a = (1, 0)) (h : 0 ≤ row ∧ row ≤ 1000 ∧ 0 ≤ wide ∧ wide ≤ 1000) :
    X sc (d + 2) 3 [.ref a, xw row, xw wide] (T, z, xv V, J, R) = some (.inl (some (xw (if row + wide ≤ 5 then V a 0 else V a 0 - 1))), (T, z, xv V, J, R)) := by
  rw [eX0_thinnest, bX0_thinnest_0, s_reachesBelly h, xret_v]
  by_cases h5 : row + wide ≤ 5
  · rw [if_pos h5, if_pos h5, bX0_thinnest_5 (by decide), if_pos rfl, bX0_thinnest_17 hT, bX0_thinnest_21]
  · rw [if_neg h5, if_neg h5, bX0_thinnest_5 (by decide), if_neg (by decide), bX0_thinnest_8 hT, bX0_thinnest_21]
/-- whether no square of the rectangle is gone: of a row, of all rows -/
def xR0 (V : Nat → Nat → Int) (g : Nat) (r : Int) : Nat → Int → Bool
  | 0, _ => true
  | m + 1, c => decide (V g (r * 12 + c).toNat = 0) && xR0 V g r m (c + 1)
def xR1 (V : Nat → Nat → Int) (g : Nat) (col : Int) (n : Nat) : Nat → Int → Bool
  | 0, _ => true
  | m + 1, r => xR0 V g r n col && xR1 V g col n m (r + 1)
def xWh (V : Nat → Nat → Int) (g : Nat) (col row along wide : Int) : Bool := xR1 V g col along.toNat wide.toNat row
def xB (b : Bool) : Int := if b = true then 1 else 0
theorem xB_01 (b : Bool) : xB b = 0 ∨ xB b = 1 := by cases b <;> decide
theorem xB_in (b : Bool) : -2147483648 ≤ xB b ∧ xB b ≤ 2147483647 := by cases b <;> decide
theorem xB_0 {b : Bool} : xB b = 0 ↔ b = false := by cases b <;> decide
theorem whole_in {a g : Nat} {col row along wide r : Int} {o2 o4 : Option Value} (hH : xHi T R a g) (hV : ∀ k, k < 96 → V g k = 0 ∨ V g k = 1) (hc : 0 ≤ col ∧ 0 ≤ along ∧ col + along ≤ 12) (hr : 0 ≤ r ∧ r < 8) :
    ∀ (m : Nat) (c : Int), 0 ≤ c → c + m = col + along →
    XR sc d 7 15 [some (.ref a), some (xw col), o2, some (xw along), o4, some (xw r), some (xw c)] [] (T, z, xv V, J, R) = if xR0 V g r m c = true then XR sc d 7 47 [some (.ref a), some (xw col), o2, some (xw along), o4, some (xw r), some (xw (col + along))] [] (T, z, xv V, J, R) else some (.inl (some (xw 0)), (T, z, xv V, J, R)) := by
  obtain ⟨h1, h2, h3⟩ := hH
  intro m
  induction m with
  | zero =>
    intro c hc0 he
    obtain rfl : c = col + along := by omega
    rw [bX0_isWhole_15 (by omega) (by omega), if_pos (by omega), xR0, if_pos rfl]
  | succ m ih =>
    intro c hc0 he
    have hv := hV (r * 12 + c).toNat (by omega)
    rw [bX0_isWhole_15 (by omega) (by omega), if_neg (by omega), bX0_isWhole_23 h1 (by rw [h2]; rfl) (by rw [h2]; simp only [Option.getD_some, h3]) (by rw [h2]; simp only [Option.getD_some, h3]; omega) (by rw [h2]; simp only [Option.getD_some]; omega), h2, xR0]
    simp only [Option.getD_some]
    by_cases h : V g (r * 12 + c).toNat = 0
    · rw [if_pos h, bX0_isWhole_41, ih (c + 1) (by omega) (by omega)]
      simp only [h, decide_true, Bool.true_and]
    · rw [if_neg h, bX0_isWhole_39]
      simp only [h, decide_false, Bool.false_and, Bool.false_eq_true, if_false]
theorem whole_out {a g : Nat} {col row along wide : Int} (hH : xHi T R a g) (hV : ∀ k, k < 96 → V g k = 0 ∨ V g k = 1) (hc : 0 ≤ col ∧ 0 ≤ along ∧ col + along ≤ 12) (hr : 0 ≤ row ∧ 0 ≤ wide ∧ row + wide ≤ 8) :
    ∀ (m : Nat) (r : Int) (o6 : Option Value), 0 ≤ r → r + m = row + wide →
    XR sc d 7 3 [some (.ref a), some (xw col), some (xw row), some (xw along), some (xw wide), some (xw r), o6] [] (T, z, xv V, J, R) = some (.inl (some (xw (xB (xR1 V g col along.toNat m r)))), (T, z, xv V, J, R)) := by
  intro m
  induction m with
  | zero =>
    intro r o6 hr0 he
    rw [bX0_isWhole_3 (by omega) (by omega), if_pos (by omega), bX0_isWhole_53]
    rfl
  | succ m ih =>
    intro r o6 hr0 he
    rw [bX0_isWhole_3 (by omega) (by omega), if_neg (by omega), bX0_isWhole_12, whole_in (row := row) (wide := wide) hH hV hc (by omega) along.toNat col (by omega) (by omega), xR1]
    by_cases h : xR0 V g r along.toNat col = true
    · rw [if_pos h, bX0_isWhole_47, ih (r + 1) _ (by omega) (by omega)]
      simp only [h, Bool.true_and]
    · rw [if_neg h]
      rw [Bool.not_eq_true] at h
      simp only [h, Bool.false_and]
      rfl
theorem s_isWhole {a g : Nat} {col row along wide : Int} (hH : xHi T R a g) (hV : ∀ k, k < 96 → V g k = 0 ∨ V g k = 1) (hc : 0 ≤ col ∧ 0 ≤ along ∧ col + along ≤ 12) (hr : 0 ≤ row ∧ 0 ≤ wide ∧ row + wide ≤ 8) :
    X sc (d + 1) 7 [.ref a, xw col, xw row, xw along, xw wide] (T, z, xv V, J, R) = some (.inl (some (xw (xB (xWh V g col row along wide)))), (T, z, xv V, J, R)) := by
  rw [eX0_isWhole, bX0_isWhole_0, whole_out hH hV hc hr wide.toNat row _ (by omega) (by omega)]
  rfl
/-- whether a hide can give a piece there -/
def xCan (V : Nat → Nat → Int) (g : Nat) (col row along wide st : Int) : Bool := (decide (st = 0) || decide (row + wide ≤ 5)) && xWh V g col row along wide
theorem s_canGive {a g : Nat} {col row along wide st : Int} (hH : xHi T R a g) (hV : ∀ k, k < 96 → V g k = 0 ∨ V g k = 1) (hc : 0 ≤ col ∧ 0 ≤ along ∧ col + along ≤ 12) (hr : 0 ≤ row ∧ 0 ≤ wide ∧ row + wide ≤ 8) (hs : st = 0 ∨ st = 1) :
    X sc (d + 2) 4 [.ref a, xw col, xw row, xw along, xw wide, xw st] (T, z, xv V, J, R) = some (.inl (some (xw (xB (xCan V g col row along wide st)))), (T, z, xv V, J, R)) := by
  have key : ∀ o5 : Option Value, XR sc (d + 1) 4 14 [some (.ref a), some (xw col), some (xw row), some (xw along), some (xw wide), o5] [] (T, z, xv V, J, R) = some (.inl (some (xw (xB (xWh V g col row along wide)))), (T, z, xv V, J, R)) := by
    intro o5
    rw [bX0_canGive_14 hH.1, s_isWhole hH hV hc hr, xret_v, bX0_canGive_23 (xB_in _)]
    cases xWh V g col row along wide
    · rw [if_pos (show xB false = 0 from rfl), bX0_canGive_30, bX0_canGive_31 (by decide)]; rfl
    · rw [if_neg (by decide), bX0_canGive_26, bX0_canGive_31 (by decide)]; rfl
  rw [eX0_canGive, bX0_canGive_0 (by omega), xCan]
  rcases hs with rfl | rfl
  · rw [if_pos rfl, key]; rfl
  · rw [if_neg (by decide), bX0_canGive_5, s_reachesBelly (by omega), xret_v]
    by_cases h5 : row + wide ≤ 5
    · rw [if_pos h5, bX0_canGive_11 (by decide), if_pos rfl, key]
      simp only [h5, decide_true, Bool.or_true, Bool.true_and]
    · rw [if_neg h5, bX0_canGive_11 (by decide), if_neg (by decide), bX0_canGive_30, bX0_canGive_31 (by decide)]
      simp only [h5, decide_false]
      rfl
/-- the lowest column, from c on, where a piece can be had -/
def xCol (V : Nat → Nat → Int) (g : Nat) (row along wide st : Int) : Nat → Int → Int
  | 0, _ => -1
  | m + 1, c => if xCan V g c row along wide st = true then c else xCol V g row along wide st m (c + 1)
theorem col_loop {a g : Nat} {row along wide st : Int} (hH : xHi T R a g) (hV : ∀ k, k < 96 → V g k = 0 ∨ V g k = 1) (hc : 0 ≤ along ∧ along ≤ 12) (hr : 0 ≤ row ∧ 0 ≤ wide ∧ row + wide ≤ 8) (hs : st = 0 ∨ st = 1) :
    ∀ (m : Nat) (c : Int), 0 ≤ c → c + m = 13 - along →
    XR sc (d + 2) 6 3 [some (.ref a), some (xw row), some (xw along), some (xw wide), some (xw st), some (xw c)] [] (T, z, xv V, J, R) = some (.inl (some (xw (xCol V g row along wide st m c))), (T, z, xv V, J, R)) := by
  intro m
  induction m with
  | zero =>
    intro c hc0 he
    rw [bX0_firstColumn_3 (by omega), if_pos (by omega), bX0_firstColumn_35]; rfl
  | succ m ih =>
    intro c hc0 he
    rw [bX0_firstColumn_3 (by omega), if_neg (by omega), bX0_firstColumn_12 hH.1, s_canGive hH hV (by omega) hr hs, xret_v, bX0_firstColumn_23 (xB_in _), xCol]
    by_cases h : xCan V g c row along wide st = true
    · rw [if_pos h, h, if_neg (by decide), bX0_firstColumn_26]
    · rw [if_neg h]
      rw [Bool.not_eq_true] at h
      rw [h, if_pos (show xB false = 0 from rfl), bX0_firstColumn_29, ih (c + 1) (by omega) (by omega)]
theorem s_firstColumn {a g : Nat} {row along wide st : Int} (hH : xHi T R a g) (hV : ∀ k, k < 96 → V g k = 0 ∨ V g k = 1) (hc : 0 ≤ along ∧ along ≤ 12) (hr : 0 ≤ row ∧ 0 ≤ wide ∧ row + wide ≤ 8) (hs : st = 0 ∨ st = 1) :
    X sc (d + 3) 6 [.ref a, xw row, xw along, xw wide, xw st] (T, z, xv V, J, R) = some (.inl (some (xw (xCol V g row along wide st (13 - along).toNat 0))), (T, z, xv V, J, R)) := by
  rw [eX0_firstColumn, bX0_firstColumn_0, col_loop hH hV hc hr hs (13 - along).toNat 0 (by omega) (by omega)]
/-- what the rows from r on are worth -/
def xWo (along : Int) : Nat → Int → Int
  | 0, _ => 0
  | m + 1, r => along * (if 2 ≤ r then (if 5 ≤ r then 1 else 2) else 3) + xWo along m (r + 1)
theorem worth_loop {row along wide : Int} (hr : 0 ≤ row ∧ 0 ≤ wide ∧ row + wide ≤ 8) :
    ∀ (m : Nat) (r n : Int) (o5 : Option Value), 0 ≤ r → r + m = row + wide →
    XR sc d 9 5 [some (xw row), some (xw along), some (xw wide), some (xw n), some (xw r), o5] [] (T, z, xv V, J, R) = some (.inl (some (xw (n + xWo along m r))), (T, z, xv V, J, R)) := by
  intro m
  induction m with
  | zero =>
    intro r n o5 hr0 he
    rw [bX0_worth_5 (by omega) (by omega), if_pos (by omega), bX0_worth_49, xWo, Int.add_zero]
  | succ m ih =>
    intro r n o5 hr0 he
    rw [bX0_worth_5 (by omega) (by omega), if_neg (by omega), bX0_worth_13 (by omega), xWo]
    by_cases h2 : 2 ≤ r
    · rw [if_pos h2, if_pos h2, bX0_worth_23 (by omega)]
      by_cases h5 : 5 ≤ r
      · rw [if_pos h5, if_pos h5, bX0_worth_33, bX0_worth_34, ih (r + 1) _ _ (by omega) (by omega), Int.add_assoc]
      · rw [if_neg h5, if_neg h5, bX0_worth_29, bX0_worth_34, ih (r + 1) _ _ (by omega) (by omega), Int.add_assoc]
    · rw [if_neg h2, if_neg h2, bX0_worth_19, bX0_worth_34, ih (r + 1) _ _ (by omega) (by omega), Int.add_assoc]
theorem s_worth {row along wide : Int} (hr : 0 ≤ row ∧ 0 ≤ wide ∧ row + wide ≤ 8) :
    X sc (d + 1) 9 [xw row, xw along, xw wide] (T, z, xv V, J, R) = some (.inl (some (xw (xWo along wide.toNat row))), (T, z, xv V, J, R)) := by
  rw [eX0_worth, bX0_worth_0, worth_loop hr wide.toNat row 0 _ (by omega) (by omega), Int.zero_add]
theorem xWo_in {along : Int} (ha : 0 ≤ along ∧ along ≤ 12) : ∀ (m : Nat) (r : Int), 0 ≤ xWo along m r ∧ xWo along m r ≤ 36 * m := by
  intro m
  induction m with
  | zero => intro r; simp [xWo]
  | succ m ih =>
    intro r
    have := ih (r + 1)
    rw [xWo]
    split
    · split <;> omega
    · omega
/-- the search of find: found, its worth, from row r on -/
def xFi (V : Nat → Nat → Int) (a g : Nat) (along wide st least : Int) : Nat → Int → Int → Int → Int
  | 0, _, f, _ => f
  | m + 1, r, f, w =>
    let w1 := xWo along wide.toNat r
    let c := if (f = -1 ∨ w1 < w) ∧ least ≤ (if r + wide ≤ 5 then V a 0 else V a 0 - 1) then xCol V g r along wide st (13 - along).toNat 0 else -1
    if c = -1 then xFi V a g along wide st least m (r + 1) f w else xFi V a g along wide st least m (r + 1) (12 * r + c) w1
theorem xCol_in {V : Nat → Nat → Int} {g : Nat} {row along wide st : Int} : ∀ (m : Nat) (c : Int), 0 ≤ c → -1 ≤ xCol V g row along wide st m c ∧ xCol V g row along wide st m c < c + m := by
  intro m
  induction m with
  | zero => intro c hc; simp only [xCol]; omega
  | succ m ih =>
    intro c hc
    rw [xCol]
    split
    · omega
    · have := ih (c + 1) (by omega); omega
theorem find_loop {a g : Nat} {along wide st least : Int} (hH : xHi T R a g) (hV : ∀ k, k < 96 → V g k = 0 ∨ V g k = 1) (hc : 0 ≤ along ∧ along ≤ 12) (hr : 0 ≤ wide ∧ wide ≤ 8) (hs : st = 0 ∨ st = 1) (hl : 0 ≤ least ∧ least ≤ 9) (hth : 0 ≤ V a 0 ∧ V a 0 ≤ 9) :
    ∀ (m : Nat) (r f w : Int) (o8 o9 o10 : Option Value), 0 ≤ r → r + m = 9 - wide → (-1 ≤ f ∧ f ≤ 1000) → (0 ≤ w ∧ w ≤ 1000) →
    XR sc (d + 3) 5 9 [some (.ref a), some (xw along), some (xw wide), some (xw st), some (xw least), some (xw f), some (xw w), some (xw r), o8, o9, o10] [] (T, z, xv V, J, R) = some (.inl (some (xw (xFi V a g along wide st least m r f w))), (T, z, xv V, J, R)) := by
  intro m
  induction m with
  | zero =>
    intro r f w o8 o9 o10 hr0 he hf hw
    rw [bX0_leastWorth_9 (by omega), if_pos (by omega), bX0_leastWorth_105, xFi]
  | succ m ih =>
    intro r f w o8 o9 o10 hr0 he hf hw
    have hw1 := xWo_in hc wide.toNat r
    have hci := xCol_in (V := V) (g := g) (row := r) (along := along) (wide := wide) (st := st) (13 - along).toNat 0 (by omega)
    have kNo : ∀ o8 o9 o10 : Option Value, XR sc (d + 3) 5 76 [some (.ref a), some (xw along), some (xw wide), some (xw st), some (xw least), some (xw f), some (xw w), some (xw r), o8, o9, o10] [] (T, z, xv V, J, R) = some (.inl (some (xw (xFi V a g along wide st least m (r + 1) f w))), (T, z, xv V, J, R)) := by
      intro o8 o9 o10
      rw [bX0_leastWorth_76, bX0_leastWorth_77 (by decide), if_pos rfl, bX0_leastWorth_99, ih (r + 1) f w _ _ _ (by omega) (by omega) hf hw]
    have kYes : ∀ o9 o10 : Option Value, XR sc (d + 3) 5 40 [some (.ref a), some (xw along), some (xw wide), some (xw st), some (xw least), some (xw f), some (xw w), some (xw r), some (xw (xWo along wide.toNat r)), o9, o10] [] (T, z, xv V, J, R) = some (.inl (some (xw (if (if least ≤ (if r + wide ≤ 5 then V a 0 else V a 0 - 1) then xCol V g r along wide st (13 - along).toNat 0 else -1) = -1 then xFi V a g along wide st least m (r + 1) f w else xFi V a g along wide st least m (r + 1) (12 * r + (if least ≤ (if r + wide ≤ 5 then V a 0 else V a 0 - 1) then xCol V g r along wide st (13 - along).toNat 0 else -1)) (xWo along wide.toNat r)))), (T, z, xv V, J, R)) := by
      intro o9 o10
      have hti : -2147483648 ≤ (if r + wide ≤ 5 then V a 0 else V a 0 - 1) ∧ (if r + wide ≤ 5 then V a 0 else V a 0 - 1) ≤ 2147483647 := by split <;> omega
      rw [bX0_leastWorth_40, bX0_leastWorth_45 (by decide), if_neg (by decide), bX0_leastWorth_52 hH.1, s_thinnest hH.1 (by omega), xret_v, bX0_leastWorth_59 hti (by omega)]
      by_cases hle : least ≤ (if r + wide ≤ 5 then V a 0 else V a 0 - 1)
      · rw [if_neg (by omega), if_pos hle, bX0_leastWorth_64 hH.1, s_firstColumn hH hV hc (by omega) hs, xret_v, bX0_leastWorth_73, bX0_leastWorth_77 (by omega)]
        by_cases hcm : xCol V g r along wide st (13 - along).toNat 0 = -1
        · rw [if_pos hcm, if_pos hcm, bX0_leastWorth_99, ih (r + 1) f w _ _ _ (by omega) (by omega) hf hw]
        · rw [if_neg hcm, if_neg hcm, bX0_leastWorth_85, bX0_leastWorth_99, ih (r + 1) _ _ _ _ _ (by omega) (by omega) (by omega) (by omega)]
      · rw [if_pos (by omega), if_neg hle, if_pos rfl, kNo]
    rw [bX0_leastWorth_9 (by omega), if_neg (by omega), bX0_leastWorth_18, s_worth (by omega), xret_v, bX0_leastWorth_25 (by omega), xFi]
    by_cases hf1 : f = -1
    · rw [if_pos hf1, kYes]
      simp only [hf1, true_or, true_and]
      try rfl
    · rw [if_neg hf1, bX0_leastWorth_33 (by omega) (by omega)]
      by_cases hwl : w ≤ xWo along wide.toNat r
      · rw [if_pos hwl, bX0_leastWorth_44, bX0_leastWorth_45 (by decide), if_pos rfl, kNo]
        have : ¬ xWo along wide.toNat r < w := by omega
        simp only [hf1, this, or_self, false_and, if_false, if_true]
      · rw [if_neg hwl, kYes]
        have : xWo along wide.toNat r < w := by omega
        simp only [this, or_true, true_and]
        try rfl
theorem s_leastWorth {a g : Nat} {along wide st least : Int} (hH : xHi T R a g) (hV : ∀ k, k < 96 → V g k = 0 ∨ V g k = 1) (hc : 0 ≤ along ∧ along ≤ 12) (hr : 0 ≤ wide ∧ wide ≤ 8) (hs : st = 0 ∨ st = 1) (hl : 0 ≤ least ∧ least ≤ 9) (hth : 0 ≤ V a 0 ∧ V a 0 ≤ 9) :
    X sc (d + 4) 5 [.ref a, xw along, xw wide, xw st, xw least] (T, z, xv V, J, R) = some (.inl (some (xw (xFi V a g along wide st least (9 - wide).toNat 0 (-1) 0))), (T, z, xv V, J, R)) := by
  rw [eX0_leastWorth, bX0_leastWorth_0, find_loop hH hV hc hr hs hl hth (9 - wide).toNat 0 (-1) 0 _ _ _ (by omega) (by omega) (by omega) (by omega)]
end SX0
end
