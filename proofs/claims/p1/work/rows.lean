section
-- ===== PART A: goes FIRST, ahead of the names: the tables' words, and 'selects' of the private methods out of them =====
/-- a private method of a class that the tables say can be made, by its rows of tables_1 -/
def lw_okq (q : MethodName × Nat) : Prop := (q.1.cls ≠ "java/lang/invoke/MethodHandle" ∧ q.1.cls ≠ "java/lang/invoke/VarHandle") ∧ Cond.instantiable q.1.cls q.2 ∈ tables_1 ∧ Cond.privateMethod q.1 ∈ tables_1 ∧ Cond.instanceMethod q.1 ∈ tables_1
theorem lw_p0 : lw_okq (⟨"ChangeBowler", "edgePlace", "(II)I"⟩, 12) := ⟨⟨by decide +kernel, by decide +kernel⟩, List.mem_of_getElem? (i := 17) (by decide +kernel), List.mem_of_getElem? (i := 382) (by decide +kernel), List.mem_of_getElem? (i := 383) (by decide +kernel)⟩
theorem lw_p1 : lw_okq (⟨"ChangeBowler", "noBowler", "(I)Z"⟩, 12) := ⟨⟨by decide +kernel, by decide +kernel⟩, List.mem_of_getElem? (i := 17) (by decide +kernel), List.mem_of_getElem? (i := 386) (by decide +kernel), List.mem_of_getElem? (i := 387) (by decide +kernel)⟩
theorem lw_p2 : lw_okq (⟨"ChangeBowler$Numbers", "dropOldest", "()V"⟩, 10) := ⟨⟨by decide +kernel, by decide +kernel⟩, List.mem_of_getElem? (i := 25) (by decide +kernel), List.mem_of_getElem? (i := 402) (by decide +kernel), List.mem_of_getElem? (i := 403) (by decide +kernel)⟩
theorem lw_p3 : lw_okq (⟨"ChangeBowler$Reader", "begin", "()V"⟩, 6) := ⟨⟨by decide +kernel, by decide +kernel⟩, List.mem_of_getElem? (i := 66) (by decide +kernel), List.mem_of_getElem? (i := 430) (by decide +kernel), List.mem_of_getElem? (i := 431) (by decide +kernel)⟩
theorem lw_p4 : lw_okq (⟨"ChangeBowler$Reader", "sign", "()I"⟩, 6) := ⟨⟨by decide +kernel, by decide +kernel⟩, List.mem_of_getElem? (i := 66) (by decide +kernel), List.mem_of_getElem? (i := 434) (by decide +kernel), List.mem_of_getElem? (i := 435) (by decide +kernel)⟩
theorem lw_p5 : lw_okq (⟨"ChangeBowler$Reader", "fail", "(I)V"⟩, 6) := ⟨⟨by decide +kernel, by decide +kernel⟩, List.mem_of_getElem? (i := 66) (by decide +kernel), List.mem_of_getElem? (i := 438) (by decide +kernel), List.mem_of_getElem? (i := 439) (by decide +kernel)⟩
theorem lw_p6 : lw_okq (⟨"ChangeBowler$Reader", "skip", "(I)Z"⟩, 6) := ⟨⟨by decide +kernel, by decide +kernel⟩, List.mem_of_getElem? (i := 66) (by decide +kernel), List.mem_of_getElem? (i := 442) (by decide +kernel), List.mem_of_getElem? (i := 443) (by decide +kernel)⟩
theorem lw_p7 : lw_okq (⟨"ChangeBowler$Reader", "number", "(I)I"⟩, 6) := ⟨⟨by decide +kernel, by decide +kernel⟩, List.mem_of_getElem? (i := 66) (by decide +kernel), List.mem_of_getElem? (i := 446) (by decide +kernel), List.mem_of_getElem? (i := 447) (by decide +kernel)⟩
theorem lw_p8 : lw_okq (⟨"ChangeBowler$Reader", "end", "()I"⟩, 6) := ⟨⟨by decide +kernel, by decide +kernel⟩, List.mem_of_getElem? (i := 66) (by decide +kernel), List.mem_of_getElem? (i := 453) (by decide +kernel), List.mem_of_getElem? (i := 454) (by decide +kernel)⟩
theorem lw_p9 : lw_okq (⟨"ChangeBowler$Reader", "readLine", "()V"⟩, 6) := ⟨⟨by decide +kernel, by decide +kernel⟩, List.mem_of_getElem? (i := 66) (by decide +kernel), List.mem_of_getElem? (i := 472) (by decide +kernel), List.mem_of_getElem? (i := 473) (by decide +kernel)⟩
theorem lw_p10 : lw_okq (⟨"ChangeBowler$Reader", "part", "(II)V"⟩, 6) := ⟨⟨by decide +kernel, by decide +kernel⟩, List.mem_of_getElem? (i := 66) (by decide +kernel), List.mem_of_getElem? (i := 476) (by decide +kernel), List.mem_of_getElem? (i := 477) (by decide +kernel)⟩
theorem lw_p11 : lw_okq (⟨"ChangeBowler$Reader", "operand", "(I)V"⟩, 6) := ⟨⟨by decide +kernel, by decide +kernel⟩, List.mem_of_getElem? (i := 66) (by decide +kernel), List.mem_of_getElem? (i := 480) (by decide +kernel), List.mem_of_getElem? (i := 481) (by decide +kernel)⟩
theorem lw_p12 : lw_okq (⟨"ChangeBowler$Numbers", "at", "(I)I"⟩, 10) := ⟨⟨by decide +kernel, by decide +kernel⟩, List.mem_of_getElem? (i := 25) (by decide +kernel), List.mem_of_getElem? (i := 529) (by decide +kernel), List.mem_of_getElem? (i := 530) (by decide +kernel)⟩
theorem lw_p13 : lw_okq (⟨"ChangeBowler", "noRule", "(I)Z"⟩, 12) := ⟨⟨by decide +kernel, by decide +kernel⟩, List.mem_of_getElem? (i := 17) (by decide +kernel), List.mem_of_getElem? (i := 589) (by decide +kernel), List.mem_of_getElem? (i := 590) (by decide +kernel)⟩
theorem lw_p14 : lw_okq (⟨"ChangeBowler$Best", "grow", "(II)V"⟩, 13) := ⟨⟨by decide +kernel, by decide +kernel⟩, List.mem_of_getElem? (i := 181) (by decide +kernel), List.mem_of_getElem? (i := 649) (by decide +kernel), List.mem_of_getElem? (i := 650) (by decide +kernel)⟩
theorem lw_p15 : lw_okq (⟨"ChangeBowler$Best", "add", "(II)I"⟩, 13) := ⟨⟨by decide +kernel, by decide +kernel⟩, List.mem_of_getElem? (i := 181) (by decide +kernel), List.mem_of_getElem? (i := 656) (by decide +kernel), List.mem_of_getElem? (i := 657) (by decide +kernel)⟩
def lw_privs_1 : List (MethodName × Nat) := [(⟨"ChangeBowler", "edgePlace", "(II)I"⟩, 12), (⟨"ChangeBowler", "noBowler", "(I)Z"⟩, 12), (⟨"ChangeBowler$Numbers", "dropOldest", "()V"⟩, 10), (⟨"ChangeBowler$Reader", "begin", "()V"⟩, 6), (⟨"ChangeBowler$Reader", "sign", "()I"⟩, 6), (⟨"ChangeBowler$Reader", "fail", "(I)V"⟩, 6), (⟨"ChangeBowler$Reader", "skip", "(I)Z"⟩, 6), (⟨"ChangeBowler$Reader", "number", "(I)I"⟩, 6), (⟨"ChangeBowler$Reader", "end", "()I"⟩, 6), (⟨"ChangeBowler$Reader", "readLine", "()V"⟩, 6), (⟨"ChangeBowler$Reader", "part", "(II)V"⟩, 6), (⟨"ChangeBowler$Reader", "operand", "(I)V"⟩, 6), (⟨"ChangeBowler$Numbers", "at", "(I)I"⟩, 10), (⟨"ChangeBowler", "noRule", "(I)Z"⟩, 12), (⟨"ChangeBowler$Best", "grow", "(II)V"⟩, 13), (⟨"ChangeBowler$Best", "add", "(II)I"⟩, 13)]
theorem lw_r1 : ∀ q ∈ lw_privs_1, lw_okq q := List.forall_mem_cons.mpr ⟨lw_p0, List.forall_mem_cons.mpr ⟨lw_p1, List.forall_mem_cons.mpr ⟨lw_p2, List.forall_mem_cons.mpr ⟨lw_p3, List.forall_mem_cons.mpr ⟨lw_p4, List.forall_mem_cons.mpr ⟨lw_p5, List.forall_mem_cons.mpr ⟨lw_p6, List.forall_mem_cons.mpr ⟨lw_p7, List.forall_mem_cons.mpr ⟨lw_p8, List.forall_mem_cons.mpr ⟨lw_p9, List.forall_mem_cons.mpr ⟨lw_p10, List.forall_mem_cons.mpr ⟨lw_p11, List.forall_mem_cons.mpr ⟨lw_p12, List.forall_mem_cons.mpr ⟨lw_p13, List.forall_mem_cons.mpr ⟨lw_p14, List.forall_mem_cons.mpr ⟨lw_p15, fun _ h => absurd h List.not_mem_nil⟩⟩⟩⟩⟩⟩⟩⟩⟩⟩⟩⟩⟩⟩⟩⟩
theorem lw_p16 : lw_okq (⟨"ChangeBowler$Best", "trimmed", "(II)I"⟩, 13) := ⟨⟨by decide +kernel, by decide +kernel⟩, List.mem_of_getElem? (i := 181) (by decide +kernel), List.mem_of_getElem? (i := 660) (by decide +kernel), List.mem_of_getElem? (i := 661) (by decide +kernel)⟩
theorem lw_p17 : lw_okq (⟨"ChangeBowler$Best", "slotFor", "(I)I"⟩, 13) := ⟨⟨by decide +kernel, by decide +kernel⟩, List.mem_of_getElem? (i := 181) (by decide +kernel), List.mem_of_getElem? (i := 668) (by decide +kernel), List.mem_of_getElem? (i := 669) (by decide +kernel)⟩
theorem lw_p18 : lw_okq (⟨"ChangeBowler$Best", "isTaken", "(I)Z"⟩, 13) := ⟨⟨by decide +kernel, by decide +kernel⟩, List.mem_of_getElem? (i := 181) (by decide +kernel), List.mem_of_getElem? (i := 673) (by decide +kernel), List.mem_of_getElem? (i := 674) (by decide +kernel)⟩
theorem lw_p19 : lw_okq (⟨"ChangeBowler$Best", "judge", "(I[III)V"⟩, 13) := ⟨⟨by decide +kernel, by decide +kernel⟩, List.mem_of_getElem? (i := 181) (by decide +kernel), List.mem_of_getElem? (i := 680) (by decide +kernel), List.mem_of_getElem? (i := 681) (by decide +kernel)⟩
theorem lw_p20 : lw_okq (⟨"ChangeBowler$Captain", "turn", "(III)I"⟩, 9) := ⟨⟨by decide +kernel, by decide +kernel⟩, List.mem_of_getElem? (i := 255) (by decide +kernel), List.mem_of_getElem? (i := 696) (by decide +kernel), List.mem_of_getElem? (i := 697) (by decide +kernel)⟩
theorem lw_p21 : lw_okq (⟨"ChangeBowler$Captain", "greatest", "(IIII)I"⟩, 9) := ⟨⟨by decide +kernel, by decide +kernel⟩, List.mem_of_getElem? (i := 255) (by decide +kernel), List.mem_of_getElem? (i := 714) (by decide +kernel), List.mem_of_getElem? (i := 715) (by decide +kernel)⟩
theorem lw_p22 : lw_okq (⟨"ChangeBowler$Captain", "rating", "(IIIII)I"⟩, 9) := ⟨⟨by decide +kernel, by decide +kernel⟩, List.mem_of_getElem? (i := 255) (by decide +kernel), List.mem_of_getElem? (i := 718) (by decide +kernel), List.mem_of_getElem? (i := 719) (by decide +kernel)⟩
theorem lw_p23 : lw_okq (⟨"ChangeBowler$Captain", "withoutKept", "(III)I"⟩, 9) := ⟨⟨by decide +kernel, by decide +kernel⟩, List.mem_of_getElem? (i := 255) (by decide +kernel), List.mem_of_getElem? (i := 737) (by decide +kernel), List.mem_of_getElem? (i := 738) (by decide +kernel)⟩
theorem lw_p24 : lw_okq (⟨"ChangeBowler", "makeReady", "(I)V"⟩, 12) := ⟨⟨by decide +kernel, by decide +kernel⟩, List.mem_of_getElem? (i := 17) (by decide +kernel), List.mem_of_getElem? (i := 746) (by decide +kernel), List.mem_of_getElem? (i := 747) (by decide +kernel)⟩
theorem lw_p25 : lw_okq (⟨"ChangeBowler$Captain", "runsBy", "(III)I"⟩, 9) := ⟨⟨by decide +kernel, by decide +kernel⟩, List.mem_of_getElem? (i := 255) (by decide +kernel), List.mem_of_getElem? (i := 759) (by decide +kernel), List.mem_of_getElem? (i := 760) (by decide +kernel)⟩
theorem lw_p26 : lw_okq (⟨"ChangeBowler$Captain", "outBy", "(IIII)I"⟩, 9) := ⟨⟨by decide +kernel, by decide +kernel⟩, List.mem_of_getElem? (i := 255) (by decide +kernel), List.mem_of_getElem? (i := 763) (by decide +kernel), List.mem_of_getElem? (i := 764) (by decide +kernel)⟩
theorem lw_p27 : lw_okq (⟨"ChangeBowler", "bestOf", "(II)I"⟩, 12) := ⟨⟨by decide +kernel, by decide +kernel⟩, List.mem_of_getElem? (i := 17) (by decide +kernel), List.mem_of_getElem? (i := 792) (by decide +kernel), List.mem_of_getElem? (i := 793) (by decide +kernel)⟩
theorem lw_p28 : lw_okq (⟨"ChangeBowler", "turnOrder", "(I)I"⟩, 12) := ⟨⟨by decide +kernel, by decide +kernel⟩, List.mem_of_getElem? (i := 17) (by decide +kernel), List.mem_of_getElem? (i := 810) (by decide +kernel), List.mem_of_getElem? (i := 811) (by decide +kernel)⟩
theorem lw_p29 : lw_okq (⟨"ChangeBowler", "mayBeBooked", "(I)Z"⟩, 12) := ⟨⟨by decide +kernel, by decide +kernel⟩, List.mem_of_getElem? (i := 17) (by decide +kernel), List.mem_of_getElem? (i := 838) (by decide +kernel), List.mem_of_getElem? (i := 839) (by decide +kernel)⟩
theorem lw_p30 : lw_okq (⟨"ChangeBowler", "costOf", "(I)I"⟩, 12) := ⟨⟨by decide +kernel, by decide +kernel⟩, List.mem_of_getElem? (i := 17) (by decide +kernel), List.mem_of_getElem? (i := 889) (by decide +kernel), List.mem_of_getElem? (i := 890) (by decide +kernel)⟩
theorem lw_p31 : lw_okq (⟨"ChangeBowler$Rules", "bodyOf", "(IIIII)I"⟩, 6) := ⟨⟨by decide +kernel, by decide +kernel⟩, List.mem_of_getElem? (i := 227) (by decide +kernel), List.mem_of_getElem? (i := 957) (by decide +kernel), List.mem_of_getElem? (i := 958) (by decide +kernel)⟩
def lw_privs_2 : List (MethodName × Nat) := [(⟨"ChangeBowler$Best", "trimmed", "(II)I"⟩, 13), (⟨"ChangeBowler$Best", "slotFor", "(I)I"⟩, 13), (⟨"ChangeBowler$Best", "isTaken", "(I)Z"⟩, 13), (⟨"ChangeBowler$Best", "judge", "(I[III)V"⟩, 13), (⟨"ChangeBowler$Captain", "turn", "(III)I"⟩, 9), (⟨"ChangeBowler$Captain", "greatest", "(IIII)I"⟩, 9), (⟨"ChangeBowler$Captain", "rating", "(IIIII)I"⟩, 9), (⟨"ChangeBowler$Captain", "withoutKept", "(III)I"⟩, 9), (⟨"ChangeBowler", "makeReady", "(I)V"⟩, 12), (⟨"ChangeBowler$Captain", "runsBy", "(III)I"⟩, 9), (⟨"ChangeBowler$Captain", "outBy", "(IIII)I"⟩, 9), (⟨"ChangeBowler", "bestOf", "(II)I"⟩, 12), (⟨"ChangeBowler", "turnOrder", "(I)I"⟩, 12), (⟨"ChangeBowler", "mayBeBooked", "(I)Z"⟩, 12), (⟨"ChangeBowler", "costOf", "(I)I"⟩, 12), (⟨"ChangeBowler$Rules", "bodyOf", "(IIIII)I"⟩, 6)]
theorem lw_r2 : ∀ q ∈ lw_privs_2, lw_okq q := List.forall_mem_cons.mpr ⟨lw_p16, List.forall_mem_cons.mpr ⟨lw_p17, List.forall_mem_cons.mpr ⟨lw_p18, List.forall_mem_cons.mpr ⟨lw_p19, List.forall_mem_cons.mpr ⟨lw_p20, List.forall_mem_cons.mpr ⟨lw_p21, List.forall_mem_cons.mpr ⟨lw_p22, List.forall_mem_cons.mpr ⟨lw_p23, List.forall_mem_cons.mpr ⟨lw_p24, List.forall_mem_cons.mpr ⟨lw_p25, List.forall_mem_cons.mpr ⟨lw_p26, List.forall_mem_cons.mpr ⟨lw_p27, List.forall_mem_cons.mpr ⟨lw_p28, List.forall_mem_cons.mpr ⟨lw_p29, List.forall_mem_cons.mpr ⟨lw_p30, List.forall_mem_cons.mpr ⟨lw_p31, fun _ h => absurd h List.not_mem_nil⟩⟩⟩⟩⟩⟩⟩⟩⟩⟩⟩⟩⟩⟩⟩⟩
theorem lw_p32 : lw_okq (⟨"ChangeBowlerModel", "isBowler", "(I)Z"⟩, 62) := ⟨⟨by decide +kernel, by decide +kernel⟩, List.mem_of_getElem? (i := 1033) (by decide +kernel), List.mem_of_getElem? (i := 1249) (by decide +kernel), List.mem_of_getElem? (i := 1250) (by decide +kernel)⟩
theorem lw_p33 : lw_okq (⟨"ChangeBowlerModel", "becomes", "(II)I"⟩, 62) := ⟨⟨by decide +kernel, by decide +kernel⟩, List.mem_of_getElem? (i := 1033) (by decide +kernel), List.mem_of_getElem? (i := 1255) (by decide +kernel), List.mem_of_getElem? (i := 1256) (by decide +kernel)⟩
theorem lw_p34 : lw_okq (⟨"ChangeBowlerModel", "workOut", "(II)I"⟩, 62) := ⟨⟨by decide +kernel, by decide +kernel⟩, List.mem_of_getElem? (i := 1033) (by decide +kernel), List.mem_of_getElem? (i := 1282) (by decide +kernel), List.mem_of_getElem? (i := 1283) (by decide +kernel)⟩
theorem lw_p35 : lw_okq (⟨"ChangeBowlerModel", "either", "()I"⟩, 62) := ⟨⟨by decide +kernel, by decide +kernel⟩, List.mem_of_getElem? (i := 1033) (by decide +kernel), List.mem_of_getElem? (i := 1286) (by decide +kernel), List.mem_of_getElem? (i := 1287) (by decide +kernel)⟩
theorem lw_p36 : lw_okq (⟨"ChangeBowlerModel", "both", "()I"⟩, 62) := ⟨⟨by decide +kernel, by decide +kernel⟩, List.mem_of_getElem? (i := 1033) (by decide +kernel), List.mem_of_getElem? (i := 1290) (by decide +kernel), List.mem_of_getElem? (i := 1291) (by decide +kernel)⟩
theorem lw_p37 : lw_okq (⟨"ChangeBowlerModel", "compared", "()I"⟩, 62) := ⟨⟨by decide +kernel, by decide +kernel⟩, List.mem_of_getElem? (i := 1033) (by decide +kernel), List.mem_of_getElem? (i := 1294) (by decide +kernel), List.mem_of_getElem? (i := 1295) (by decide +kernel)⟩
theorem lw_p38 : lw_okq (⟨"ChangeBowlerModel", "sums", "()I"⟩, 62) := ⟨⟨by decide +kernel, by decide +kernel⟩, List.mem_of_getElem? (i := 1033) (by decide +kernel), List.mem_of_getElem? (i := 1298) (by decide +kernel), List.mem_of_getElem? (i := 1299) (by decide +kernel)⟩
theorem lw_p39 : lw_okq (⟨"ChangeBowlerModel", "product", "()I"⟩, 62) := ⟨⟨by decide +kernel, by decide +kernel⟩, List.mem_of_getElem? (i := 1033) (by decide +kernel), List.mem_of_getElem? (i := 1302) (by decide +kernel), List.mem_of_getElem? (i := 1303) (by decide +kernel)⟩
theorem lw_p40 : lw_okq (⟨"ChangeBowlerModel", "one", "()I"⟩, 62) := ⟨⟨by decide +kernel, by decide +kernel⟩, List.mem_of_getElem? (i := 1033) (by decide +kernel), List.mem_of_getElem? (i := 1306) (by decide +kernel), List.mem_of_getElem? (i := 1307) (by decide +kernel)⟩
theorem lw_p41 : lw_okq (⟨"ChangeBowlerModel", "byteAt", "()I"⟩, 62) := ⟨⟨by decide +kernel, by decide +kernel⟩, List.mem_of_getElem? (i := 1033) (by decide +kernel), List.mem_of_getElem? (i := 1310) (by decide +kernel), List.mem_of_getElem? (i := 1311) (by decide +kernel)⟩
theorem lw_p42 : lw_okq (⟨"ChangeBowlerModel", "wrong", "()I"⟩, 62) := ⟨⟨by decide +kernel, by decide +kernel⟩, List.mem_of_getElem? (i := 1033) (by decide +kernel), List.mem_of_getElem? (i := 1314) (by decide +kernel), List.mem_of_getElem? (i := 1315) (by decide +kernel)⟩
theorem lw_p43 : lw_okq (⟨"ChangeBowlerModel", "takes", "(I)Z"⟩, 62) := ⟨⟨by decide +kernel, by decide +kernel⟩, List.mem_of_getElem? (i := 1033) (by decide +kernel), List.mem_of_getElem? (i := 1318) (by decide +kernel), List.mem_of_getElem? (i := 1319) (by decide +kernel)⟩
theorem lw_p44 : lw_okq (⟨"ChangeBowlerModel", "numberRead", "(III)I"⟩, 62) := ⟨⟨by decide +kernel, by decide +kernel⟩, List.mem_of_getElem? (i := 1033) (by decide +kernel), List.mem_of_getElem? (i := 1329) (by decide +kernel), List.mem_of_getElem? (i := 1330) (by decide +kernel)⟩
theorem lw_p45 : lw_okq (⟨"ChangeBowlerModel", "begin", "()V"⟩, 62) := ⟨⟨by decide +kernel, by decide +kernel⟩, List.mem_of_getElem? (i := 1033) (by decide +kernel), List.mem_of_getElem? (i := 1341) (by decide +kernel), List.mem_of_getElem? (i := 1342) (by decide +kernel)⟩
theorem lw_p46 : lw_okq (⟨"ChangeBowlerModel", "outBy", "(II)I"⟩, 62) := ⟨⟨by decide +kernel, by decide +kernel⟩, List.mem_of_getElem? (i := 1033) (by decide +kernel), List.mem_of_getElem? (i := 1345) (by decide +kernel), List.mem_of_getElem? (i := 1346) (by decide +kernel)⟩
theorem lw_p47 : lw_okq (⟨"ChangeBowlerModel", "textGives", "(IIIII)I"⟩, 62) := ⟨⟨by decide +kernel, by decide +kernel⟩, List.mem_of_getElem? (i := 1033) (by decide +kernel), List.mem_of_getElem? (i := 1349) (by decide +kernel), List.mem_of_getElem? (i := 1350) (by decide +kernel)⟩
def lw_privs_3 : List (MethodName × Nat) := [(⟨"ChangeBowlerModel", "isBowler", "(I)Z"⟩, 62), (⟨"ChangeBowlerModel", "becomes", "(II)I"⟩, 62), (⟨"ChangeBowlerModel", "workOut", "(II)I"⟩, 62), (⟨"ChangeBowlerModel", "either", "()I"⟩, 62), (⟨"ChangeBowlerModel", "both", "()I"⟩, 62), (⟨"ChangeBowlerModel", "compared", "()I"⟩, 62), (⟨"ChangeBowlerModel", "sums", "()I"⟩, 62), (⟨"ChangeBowlerModel", "product", "()I"⟩, 62), (⟨"ChangeBowlerModel", "one", "()I"⟩, 62), (⟨"ChangeBowlerModel", "byteAt", "()I"⟩, 62), (⟨"ChangeBowlerModel", "wrong", "()I"⟩, 62), (⟨"ChangeBowlerModel", "takes", "(I)Z"⟩, 62), (⟨"ChangeBowlerModel", "numberRead", "(III)I"⟩, 62), (⟨"ChangeBowlerModel", "begin", "()V"⟩, 62), (⟨"ChangeBowlerModel", "outBy", "(II)I"⟩, 62), (⟨"ChangeBowlerModel", "textGives", "(IIIII)I"⟩, 62)]
theorem lw_r3 : ∀ q ∈ lw_privs_3, lw_okq q := List.forall_mem_cons.mpr ⟨lw_p32, List.forall_mem_cons.mpr ⟨lw_p33, List.forall_mem_cons.mpr ⟨lw_p34, List.forall_mem_cons.mpr ⟨lw_p35, List.forall_mem_cons.mpr ⟨lw_p36, List.forall_mem_cons.mpr ⟨lw_p37, List.forall_mem_cons.mpr ⟨lw_p38, List.forall_mem_cons.mpr ⟨lw_p39, List.forall_mem_cons.mpr ⟨lw_p40, List.forall_mem_cons.mpr ⟨lw_p41, List.forall_mem_cons.mpr ⟨lw_p42, List.forall_mem_cons.mpr ⟨lw_p43, List.forall_mem_cons.mpr ⟨lw_p44, List.forall_mem_cons.mpr ⟨lw_p45, List.forall_mem_cons.mpr ⟨lw_p46, List.forall_mem_cons.mpr ⟨lw_p47, fun _ h => absurd h List.not_mem_nil⟩⟩⟩⟩⟩⟩⟩⟩⟩⟩⟩⟩⟩⟩⟩⟩
theorem lw_p48 : lw_okq (⟨"ChangeBowlerModel", "leftOf", "(I)I"⟩, 62) := ⟨⟨by decide +kernel, by decide +kernel⟩, List.mem_of_getElem? (i := 1033) (by decide +kernel), List.mem_of_getElem? (i := 1353) (by decide +kernel), List.mem_of_getElem? (i := 1354) (by decide +kernel)⟩
theorem lw_p49 : lw_okq (⟨"ChangeBowlerModel", "runsBy", "(II)I"⟩, 62) := ⟨⟨by decide +kernel, by decide +kernel⟩, List.mem_of_getElem? (i := 1033) (by decide +kernel), List.mem_of_getElem? (i := 1357) (by decide +kernel), List.mem_of_getElem? (i := 1358) (by decide +kernel)⟩
theorem lw_p50 : lw_okq (⟨"ChangeBowlerModel", "isRule", "(I)Z"⟩, 62) := ⟨⟨by decide +kernel, by decide +kernel⟩, List.mem_of_getElem? (i := 1033) (by decide +kernel), List.mem_of_getElem? (i := 1372) (by decide +kernel), List.mem_of_getElem? (i := 1373) (by decide +kernel)⟩
theorem lw_p51 : lw_okq (⟨"ChangeBowlerModel", "goThroughBook", "(I)V"⟩, 62) := ⟨⟨by decide +kernel, by decide +kernel⟩, List.mem_of_getElem? (i := 1033) (by decide +kernel), List.mem_of_getElem? (i := 1376) (by decide +kernel), List.mem_of_getElem? (i := 1377) (by decide +kernel)⟩
theorem lw_p52 : lw_okq (⟨"ChangeBowlerModel", "goes", "(IZ)I"⟩, 62) := ⟨⟨by decide +kernel, by decide +kernel⟩, List.mem_of_getElem? (i := 1033) (by decide +kernel), List.mem_of_getElem? (i := 1380) (by decide +kernel), List.mem_of_getElem? (i := 1381) (by decide +kernel)⟩
theorem lw_p53 : lw_okq (⟨"ChangeBowlerModel", "isBig", "()Z"⟩, 62) := ⟨⟨by decide +kernel, by decide +kernel⟩, List.mem_of_getElem? (i := 1033) (by decide +kernel), List.mem_of_getElem? (i := 1384) (by decide +kernel), List.mem_of_getElem? (i := 1385) (by decide +kernel)⟩
theorem lw_p54 : lw_okq (⟨"ChangeBowlerModel", "isEnded", "()Z"⟩, 62) := ⟨⟨by decide +kernel, by decide +kernel⟩, List.mem_of_getElem? (i := 1033) (by decide +kernel), List.mem_of_getElem? (i := 1388) (by decide +kernel), List.mem_of_getElem? (i := 1389) (by decide +kernel)⟩
theorem lw_p55 : lw_okq (⟨"ChangeBowlerModel", "mayBowl", "(I)Z"⟩, 62) := ⟨⟨by decide +kernel, by decide +kernel⟩, List.mem_of_getElem? (i := 1033) (by decide +kernel), List.mem_of_getElem? (i := 1392) (by decide +kernel), List.mem_of_getElem? (i := 1393) (by decide +kernel)⟩
theorem lw_p56 : lw_okq (⟨"ChangeBowlerModel", "forgets", "()V"⟩, 62) := ⟨⟨by decide +kernel, by decide +kernel⟩, List.mem_of_getElem? (i := 1033) (by decide +kernel), List.mem_of_getElem? (i := 1396) (by decide +kernel), List.mem_of_getElem? (i := 1397) (by decide +kernel)⟩
theorem lw_p57 : lw_okq (⟨"ChangeBowlerModel", "putsOn", "(I)I"⟩, 62) := ⟨⟨by decide +kernel, by decide +kernel⟩, List.mem_of_getElem? (i := 1033) (by decide +kernel), List.mem_of_getElem? (i := 1400) (by decide +kernel), List.mem_of_getElem? (i := 1401) (by decide +kernel)⟩
theorem lw_p58 : lw_okq (⟨"ChangeBowlerModel", "turnOf", "(II)I"⟩, 62) := ⟨⟨by decide +kernel, by decide +kernel⟩, List.mem_of_getElem? (i := 1033) (by decide +kernel), List.mem_of_getElem? (i := 1404) (by decide +kernel), List.mem_of_getElem? (i := 1405) (by decide +kernel)⟩
theorem lw_p59 : lw_okq (⟨"ChangeBowlerModel", "leastBut", "(I)I"⟩, 62) := ⟨⟨by decide +kernel, by decide +kernel⟩, List.mem_of_getElem? (i := 1033) (by decide +kernel), List.mem_of_getElem? (i := 1408) (by decide +kernel), List.mem_of_getElem? (i := 1409) (by decide +kernel)⟩
theorem lw_p60 : lw_okq (⟨"ChangeBowlerModel", "bestFrom", "()I"⟩, 62) := ⟨⟨by decide +kernel, by decide +kernel⟩, List.mem_of_getElem? (i := 1033) (by decide +kernel), List.mem_of_getElem? (i := 1412) (by decide +kernel), List.mem_of_getElem? (i := 1413) (by decide +kernel)⟩
theorem lw_p61 : lw_okq (⟨"ChangeBowlerModel", "stateNumber", "()I"⟩, 62) := ⟨⟨by decide +kernel, by decide +kernel⟩, List.mem_of_getElem? (i := 1033) (by decide +kernel), List.mem_of_getElem? (i := 1416) (by decide +kernel), List.mem_of_getElem? (i := 1417) (by decide +kernel)⟩
theorem lw_p62 : lw_okq (⟨"ChangeBowlerModel", "spot", "(II)I"⟩, 62) := ⟨⟨by decide +kernel, by decide +kernel⟩, List.mem_of_getElem? (i := 1033) (by decide +kernel), List.mem_of_getElem? (i := 1420) (by decide +kernel), List.mem_of_getElem? (i := 1421) (by decide +kernel)⟩
theorem lw_p63 : lw_okq (⟨"ChangeBowlerModel", "meanWith", "(I)I"⟩, 62) := ⟨⟨by decide +kernel, by decide +kernel⟩, List.mem_of_getElem? (i := 1033) (by decide +kernel), List.mem_of_getElem? (i := 1427) (by decide +kernel), List.mem_of_getElem? (i := 1428) (by decide +kernel)⟩
def lw_privs_4 : List (MethodName × Nat) := [(⟨"ChangeBowlerModel", "leftOf", "(I)I"⟩, 62), (⟨"ChangeBowlerModel", "runsBy", "(II)I"⟩, 62), (⟨"ChangeBowlerModel", "isRule", "(I)Z"⟩, 62), (⟨"ChangeBowlerModel", "goThroughBook", "(I)V"⟩, 62), (⟨"ChangeBowlerModel", "goes", "(IZ)I"⟩, 62), (⟨"ChangeBowlerModel", "isBig", "()Z"⟩, 62), (⟨"ChangeBowlerModel", "isEnded", "()Z"⟩, 62), (⟨"ChangeBowlerModel", "mayBowl", "(I)Z"⟩, 62), (⟨"ChangeBowlerModel", "forgets", "()V"⟩, 62), (⟨"ChangeBowlerModel", "putsOn", "(I)I"⟩, 62), (⟨"ChangeBowlerModel", "turnOf", "(II)I"⟩, 62), (⟨"ChangeBowlerModel", "leastBut", "(I)I"⟩, 62), (⟨"ChangeBowlerModel", "bestFrom", "()I"⟩, 62), (⟨"ChangeBowlerModel", "stateNumber", "()I"⟩, 62), (⟨"ChangeBowlerModel", "spot", "(II)I"⟩, 62), (⟨"ChangeBowlerModel", "meanWith", "(I)I"⟩, 62)]
theorem lw_r4 : ∀ q ∈ lw_privs_4, lw_okq q := List.forall_mem_cons.mpr ⟨lw_p48, List.forall_mem_cons.mpr ⟨lw_p49, List.forall_mem_cons.mpr ⟨lw_p50, List.forall_mem_cons.mpr ⟨lw_p51, List.forall_mem_cons.mpr ⟨lw_p52, List.forall_mem_cons.mpr ⟨lw_p53, List.forall_mem_cons.mpr ⟨lw_p54, List.forall_mem_cons.mpr ⟨lw_p55, List.forall_mem_cons.mpr ⟨lw_p56, List.forall_mem_cons.mpr ⟨lw_p57, List.forall_mem_cons.mpr ⟨lw_p58, List.forall_mem_cons.mpr ⟨lw_p59, List.forall_mem_cons.mpr ⟨lw_p60, List.forall_mem_cons.mpr ⟨lw_p61, List.forall_mem_cons.mpr ⟨lw_p62, List.forall_mem_cons.mpr ⟨lw_p63, fun _ h => absurd h List.not_mem_nil⟩⟩⟩⟩⟩⟩⟩⟩⟩⟩⟩⟩⟩⟩⟩⟩
theorem lw_p64 : lw_okq (⟨"ChangeBowlerModel", "goesBack", "(IZI)V"⟩, 62) := ⟨⟨by decide +kernel, by decide +kernel⟩, List.mem_of_getElem? (i := 1033) (by decide +kernel), List.mem_of_getElem? (i := 1431) (by decide +kernel), List.mem_of_getElem? (i := 1432) (by decide +kernel)⟩
theorem lw_p65 : lw_okq (⟨"ChangeBowlerModel", "worthBy", "(II)I"⟩, 62) := ⟨⟨by decide +kernel, by decide +kernel⟩, List.mem_of_getElem? (i := 1033) (by decide +kernel), List.mem_of_getElem? (i := 1439) (by decide +kernel), List.mem_of_getElem? (i := 1440) (by decide +kernel)⟩
theorem lw_p66 : lw_okq (⟨"ChangeBowlerModel", "meanFrom", "(I)I"⟩, 62) := ⟨⟨by decide +kernel, by decide +kernel⟩, List.mem_of_getElem? (i := 1033) (by decide +kernel), List.mem_of_getElem? (i := 1447) (by decide +kernel), List.mem_of_getElem? (i := 1448) (by decide +kernel)⟩
theorem lw_p67 : lw_okq (⟨"ChangeBowlerModel", "likelyFrom", "(II)I"⟩, 62) := ⟨⟨by decide +kernel, by decide +kernel⟩, List.mem_of_getElem? (i := 1033) (by decide +kernel), List.mem_of_getElem? (i := 1456) (by decide +kernel), List.mem_of_getElem? (i := 1457) (by decide +kernel)⟩
theorem lw_p68 : lw_okq (⟨"ChangeBowlerModel", "bestNow", "()I"⟩, 62) := ⟨⟨by decide +kernel, by decide +kernel⟩, List.mem_of_getElem? (i := 1033) (by decide +kernel), List.mem_of_getElem? (i := 1469) (by decide +kernel), List.mem_of_getElem? (i := 1470) (by decide +kernel)⟩
theorem lw_p69 : lw_okq (⟨"ChangeBowlerModel", "orders", "(III)V"⟩, 62) := ⟨⟨by decide +kernel, by decide +kernel⟩, List.mem_of_getElem? (i := 1033) (by decide +kernel), List.mem_of_getElem? (i := 1485) (by decide +kernel), List.mem_of_getElem? (i := 1486) (by decide +kernel)⟩
theorem lw_p70 : lw_okq (⟨"ChangeBowlerModel", "costOf", "(I)I"⟩, 62) := ⟨⟨by decide +kernel, by decide +kernel⟩, List.mem_of_getElem? (i := 1033) (by decide +kernel), List.mem_of_getElem? (i := 1516) (by decide +kernel), List.mem_of_getElem? (i := 1517) (by decide +kernel)⟩
theorem lw_p71 : lw_okq (⟨"ChangeBowlerModel", "putsAs", "(II)I"⟩, 62) := ⟨⟨by decide +kernel, by decide +kernel⟩, List.mem_of_getElem? (i := 1033) (by decide +kernel), List.mem_of_getElem? (i := 1537) (by decide +kernel), List.mem_of_getElem? (i := 1538) (by decide +kernel)⟩
theorem lw_p72 : lw_okq (⟨"ChangeBowlerModel", "begins", "(I)V"⟩, 62) := ⟨⟨by decide +kernel, by decide +kernel⟩, List.mem_of_getElem? (i := 1033) (by decide +kernel), List.mem_of_getElem? (i := 1541) (by decide +kernel), List.mem_of_getElem? (i := 1542) (by decide +kernel)⟩
theorem lw_p73 : lw_okq (⟨"ChangeBowlerModel", "holdsAs", "(II)I"⟩, 62) := ⟨⟨by decide +kernel, by decide +kernel⟩, List.mem_of_getElem? (i := 1033) (by decide +kernel), List.mem_of_getElem? (i := 1545) (by decide +kernel), List.mem_of_getElem? (i := 1546) (by decide +kernel)⟩
theorem lw_p74 : lw_okq (⟨"ChangeBowlerModel", "givesAs", "(II)I"⟩, 62) := ⟨⟨by decide +kernel, by decide +kernel⟩, List.mem_of_getElem? (i := 1033) (by decide +kernel), List.mem_of_getElem? (i := 1549) (by decide +kernel), List.mem_of_getElem? (i := 1550) (by decide +kernel)⟩
theorem lw_p75 : lw_okq (⟨"ChangeBowlerModel", "tellsAs", "(II)I"⟩, 62) := ⟨⟨by decide +kernel, by decide +kernel⟩, List.mem_of_getElem? (i := 1033) (by decide +kernel), List.mem_of_getElem? (i := 1553) (by decide +kernel), List.mem_of_getElem? (i := 1554) (by decide +kernel)⟩
theorem lw_p76 : lw_okq (⟨"ChangeBowlerModel", "refusal", "(II)I"⟩, 62) := ⟨⟨by decide +kernel, by decide +kernel⟩, List.mem_of_getElem? (i := 1033) (by decide +kernel), List.mem_of_getElem? (i := 1573) (by decide +kernel), List.mem_of_getElem? (i := 1574) (by decide +kernel)⟩
theorem lw_p77 : lw_okq (⟨"ChangeBowlerModel", "kindOf", "(I)I"⟩, 62) := ⟨⟨by decide +kernel, by decide +kernel⟩, List.mem_of_getElem? (i := 1033) (by decide +kernel), List.mem_of_getElem? (i := 1593) (by decide +kernel), List.mem_of_getElem? (i := 1594) (by decide +kernel)⟩
def lw_privs_5 : List (MethodName × Nat) := [(⟨"ChangeBowlerModel", "goesBack", "(IZI)V"⟩, 62), (⟨"ChangeBowlerModel", "worthBy", "(II)I"⟩, 62), (⟨"ChangeBowlerModel", "meanFrom", "(I)I"⟩, 62), (⟨"ChangeBowlerModel", "likelyFrom", "(II)I"⟩, 62), (⟨"ChangeBowlerModel", "bestNow", "()I"⟩, 62), (⟨"ChangeBowlerModel", "orders", "(III)V"⟩, 62), (⟨"ChangeBowlerModel", "costOf", "(I)I"⟩, 62), (⟨"ChangeBowlerModel", "putsAs", "(II)I"⟩, 62), (⟨"ChangeBowlerModel", "begins", "(I)V"⟩, 62), (⟨"ChangeBowlerModel", "holdsAs", "(II)I"⟩, 62), (⟨"ChangeBowlerModel", "givesAs", "(II)I"⟩, 62), (⟨"ChangeBowlerModel", "tellsAs", "(II)I"⟩, 62), (⟨"ChangeBowlerModel", "refusal", "(II)I"⟩, 62), (⟨"ChangeBowlerModel", "kindOf", "(I)I"⟩, 62)]
theorem lw_r5 : ∀ q ∈ lw_privs_5, lw_okq q := List.forall_mem_cons.mpr ⟨lw_p64, List.forall_mem_cons.mpr ⟨lw_p65, List.forall_mem_cons.mpr ⟨lw_p66, List.forall_mem_cons.mpr ⟨lw_p67, List.forall_mem_cons.mpr ⟨lw_p68, List.forall_mem_cons.mpr ⟨lw_p69, List.forall_mem_cons.mpr ⟨lw_p70, List.forall_mem_cons.mpr ⟨lw_p71, List.forall_mem_cons.mpr ⟨lw_p72, List.forall_mem_cons.mpr ⟨lw_p73, List.forall_mem_cons.mpr ⟨lw_p74, List.forall_mem_cons.mpr ⟨lw_p75, List.forall_mem_cons.mpr ⟨lw_p76, List.forall_mem_cons.mpr ⟨lw_p77, fun _ h => absurd h List.not_mem_nil⟩⟩⟩⟩⟩⟩⟩⟩⟩⟩⟩⟩⟩⟩
def lw_privs : List (MethodName × Nat) := lw_privs_1 ++ (lw_privs_2 ++ (lw_privs_3 ++ (lw_privs_4 ++ (lw_privs_5))))
def lw_tbl : List Cond := k2_sels lw_privs ++ tables_1
theorem lw_privs_ok : ∀ q ∈ lw_privs, lw_okq q := by
  show ∀ q ∈ lw_privs_1 ++ (lw_privs_2 ++ (lw_privs_3 ++ (lw_privs_4 ++ (lw_privs_5)))), lw_okq q
  exact List.forall_mem_append.mpr ⟨lw_r1, List.forall_mem_append.mpr ⟨lw_r2, List.forall_mem_append.mpr ⟨lw_r3, List.forall_mem_append.mpr ⟨lw_r4, lw_r5⟩⟩⟩⟩
-- ===== end of PART A; then your names; then what follows =====
end
section
/-! ===== BEGIN words of one list among another's, by their places ===== -/
theorem goodIn_r {big : List Cond} (ws : List Cond) (ps : List Nat) (hp : ws = ps.filterMap (fun i => big[i]?)) (h : ws.all goodWord = true) : GoodIn big ws := by
  intro w hw
  have h1 := List.all_eq_true.mp h w hw
  rw [hp] at hw
  obtain ⟨i, -, hi⟩ := List.mem_filterMap.mp hw
  have hm : w ∈ big := by first | exact List.mem_of_getElem? hi | exact List.getElem?_mem hi
  exact ⟨hm, good_of_word h1⟩
theorem goodIn_app {big a b : List Cond} (ha : GoodIn big a) (hb : GoodIn big b) : GoodIn big (a ++ b) := fun w h => (List.mem_append.mp h).elim (ha w) (hb w)
theorem goodIn_ca {big a b : List Cond} {c : Cond} (ha : GoodIn big (c :: a)) (hb : GoodIn big b) : GoodIn big (c :: (a ++ b)) := fun w h => (List.mem_cons.mp h).elim (fun e => ha w (List.mem_cons.mpr (Or.inl e))) (fun h => (List.mem_append.mp h).elim (fun h => ha w (List.mem_cons.mpr (Or.inr h))) (hb w))
theorem goodIn_sub {big ws : List Cond} (hm : ∀ w ∈ ws, w ∈ big) (h : ws.all goodWord = true) : GoodIn big ws := fun w hw => ⟨hm w hw, good_of_word (List.all_eq_true.mp h w hw)⟩
/-! ===== END ===== -/

/-! ===== BEGIN printed: names, fields, word lists, decode rows ===== -/
def RX0 : String := "ChangeBowler$Attack"
def TX0 : u_T := fun k => match k with
  | _ => ("", "", "", false)
def tyX0 : Nat → FieldType := fun k => match k with
  | _ => .int
abbrev wsX00 : List Cond := u_ws RX0 TX0 0
theorem nmX0 : ∀ a, a < 0 → ∀ b, b < 0 → a ≠ b → (TX0 a).2.1 ≠ (TX0 b).2.1 := by decide +kernel
theorem tyX0_ok : ∀ k, k < 0 → parseFieldDescriptor (TX0 k).2.2.1 = some (tyX0 k) := by decide +kernel
abbrev cX0_last : ByteArray := prog_2_method_2_code
def yX0_last : MethodName := ⟨RX0, "last", "(I)I"⟩
abbrev cX0_steps : ByteArray := prog_2_method_3_code
def yX0_steps : MethodName := ⟨RX0, "steps", "(II)I"⟩
abbrev cX0_left : ByteArray := prog_2_method_4_code
def yX0_left : MethodName := ⟨RX0, "left", "(II)I"⟩
abbrev cX0_withSteps : ByteArray := prog_2_method_5_code
def yX0_withSteps : MethodName := ⟨RX0, "withSteps", "(III)I"⟩
abbrev cX0_withLeft : ByteArray := prog_2_method_6_code
def yX0_withLeft : MethodName := ⟨RX0, "withLeft", "(III)I"⟩
abbrev cX0_mayBowl : ByteArray := prog_2_method_7_code
def yX0_mayBowl : MethodName := ⟨RX0, "mayBowl", "(II)Z"⟩
abbrev cX0_first : ByteArray := prog_2_method_8_code
def yX0_first : MethodName := ⟨RX0, "first", "(I)I"⟩
abbrev cX0_after : ByteArray := prog_2_method_9_code
def yX0_after : MethodName := ⟨RX0, "after", "(II)I"⟩
def RX1 : String := "ChangeBowler$Best"
def TX1 : u_T := fun k => match k with
  | 0 => ("ChangeBowler$Best", "odds", "LChangeBowler$Odds;", true)
  | 1 => ("ChangeBowler$Best", "order", "LChangeBowler$Order;", true)
  | 2 => ("ChangeBowler$Best", "keys", "[I", true)
  | 3 => ("ChangeBowler$Best", "next", "[I", true)
  | 4 => ("ChangeBowler$Best", "values", "[I", true)
  | 5 => ("ChangeBowler$Best", "whoms", "[I", true)
  | 6 => ("ChangeBowler$Best", "slots", "[I", true)
  | 7 => ("ChangeBowler$Best", "slotOf", "[I", true)
  | 8 => ("ChangeBowler$Best", "nodes", "I", false)
  | 9 => ("ChangeBowler$Best", "root", "I", false)
  | 10 => ("ChangeBowler$Best", "start", "I", false)
  | 11 => ("ChangeBowler$Best", "levels", "I", false)
  | _ => ("ChangeBowler$Best", "exact", "Z", false)
def tyX1 : Nat → FieldType := fun k => match k with
  | 0 => .object "ChangeBowler$Odds"
  | 1 => .object "ChangeBowler$Order"
  | 2 => .array .int
  | 3 => .array .int
  | 4 => .array .int
  | 5 => .array .int
  | 6 => .array .int
  | 7 => .array .int
  | 8 => .int
  | 9 => .int
  | 10 => .int
  | 11 => .int
  | _ => .boolean
abbrev wsX10 : List Cond := u_ws RX1 TX1 13
theorem nmX1 : ∀ a, a < 13 → ∀ b, b < 13 → a ≠ b → (TX1 a).2.1 ≠ (TX1 b).2.1 := by decide +kernel
theorem tyX1_ok : ∀ k, k < 13 → parseFieldDescriptor (TX1 k).2.2.1 = some (tyX1 k) := by decide +kernel
abbrev cX1_init : ByteArray := prog_3_method_1_code
def yX1_init : MethodName := ⟨RX1, "<init>", "(LChangeBowler$Odds;LChangeBowler$Order;)V"⟩
abbrev cX1_seek : ByteArray := prog_3_method_2_code
def yX1_seek : MethodName := ⟨RX1, "seek", "(III)V"⟩
abbrev cX1_seekFor : ByteArray := prog_3_method_3_code
def yX1_seekFor : MethodName := ⟨RX1, "seekFor", "([IIIII)V"⟩
abbrev cX1_valueAt : ByteArray := prog_3_method_4_code
def yX1_valueAt : MethodName := ⟨RX1, "valueAt", "(II)I"⟩
abbrev cX1_whomAt : ByteArray := prog_3_method_5_code
def yX1_whomAt : MethodName := ⟨RX1, "whomAt", "(II)I"⟩
abbrev cX1_nodeOf : ByteArray := prog_3_method_6_code
def yX1_nodeOf : MethodName := ⟨RX1, "nodeOf", "(II)I"⟩
abbrev cX1_grow : ByteArray := prog_3_method_7_code
def yX1_grow : MethodName := ⟨RX1, "grow", "(II)V"⟩
abbrev cX1_add : ByteArray := prog_3_method_8_code
def yX1_add : MethodName := ⟨RX1, "add", "(II)I"⟩
abbrev cX1_isTaken : ByteArray := prog_3_method_9_code
def yX1_isTaken : MethodName := ⟨RX1, "isTaken", "(I)Z"⟩
abbrev cX1_slotFor : ByteArray := prog_3_method_10_code
def yX1_slotFor : MethodName := ⟨RX1, "slotFor", "(I)I"⟩
abbrev cX1_trimmed : ByteArray := prog_3_method_11_code
def yX1_trimmed : MethodName := ⟨RX1, "trimmed", "(II)I"⟩
abbrev cX1_judge : ByteArray := prog_3_method_12_code
def yX1_judge : MethodName := ⟨RX1, "judge", "(I[III)V"⟩
def RX2 : String := "ChangeBowler$Book"
def TX2 : u_T := fun k => match k with
  | 0 => ("ChangeBowler$Book", "size", "I", false)
  | 1 => ("ChangeBowler$Book", "who", "[I", true)
  | _ => ("ChangeBowler$Book", "out", "[I", true)
def tyX2 : Nat → FieldType := fun k => match k with
  | 0 => .int
  | 1 => .array .int
  | _ => .array .int
abbrev wsX20 : List Cond := u_ws RX2 TX2 3
theorem nmX2 : ∀ a, a < 3 → ∀ b, b < 3 → a ≠ b → (TX2 a).2.1 ≠ (TX2 b).2.1 := by decide +kernel
theorem tyX2_ok : ∀ k, k < 3 → parseFieldDescriptor (TX2 k).2.2.1 = some (tyX2 k) := by decide +kernel
abbrev cX2_init : ByteArray := prog_4_method_1_code
def yX2_init : MethodName := ⟨RX2, "<init>", "()V"⟩
abbrev cX2_write : ByteArray := prog_4_method_2_code
def yX2_write : MethodName := ⟨RX2, "write", "(II)I"⟩
abbrev cX2_bowlerAt : ByteArray := prog_4_method_3_code
def yX2_bowlerAt : MethodName := ⟨RX2, "bowlerAt", "(I)I"⟩
abbrev cX2_outs : ByteArray := prog_4_method_4_code
def yX2_outs : MethodName := ⟨RX2, "outs", "(I)I"⟩
abbrev cX2_leftAhead : ByteArray := prog_4_method_5_code
def yX2_leftAhead : MethodName := ⟨RX2, "leftAhead", "(IILChangeBowler$Numbers;)I"⟩
abbrev cX2_attackAhead : ByteArray := prog_4_method_6_code
def yX2_attackAhead : MethodName := ⟨RX2, "attackAhead", "(ILChangeBowler$Numbers;)I"⟩
def RX3 : String := "ChangeBowler$Captain"
def TX3 : u_T := fun k => match k with
  | 0 => ("ChangeBowler$Captain", "rules", "LChangeBowler$Rules;", true)
  | 1 => ("ChangeBowler$Captain", "odds", "LChangeBowler$Odds;", true)
  | 2 => ("ChangeBowler$Captain", "best", "LChangeBowler$Best;", true)
  | 3 => ("ChangeBowler$Captain", "order", "LChangeBowler$Order;", true)
  | 4 => ("ChangeBowler$Captain", "told", "LChangeBowler$Text;", true)
  | 5 => ("ChangeBowler$Captain", "leaders", "[I", true)
  | 6 => ("ChangeBowler$Captain", "gone", "[I", true)
  | 7 => ("ChangeBowler$Captain", "outs", "[I", true)
  | _ => ("ChangeBowler$Captain", "played", "I", false)
def tyX3 : Nat → FieldType := fun k => match k with
  | 0 => .object "ChangeBowler$Rules"
  | 1 => .object "ChangeBowler$Odds"
  | 2 => .object "ChangeBowler$Best"
  | 3 => .object "ChangeBowler$Order"
  | 4 => .object "ChangeBowler$Text"
  | 5 => .array .int
  | 6 => .array .int
  | 7 => .array .int
  | _ => .int
abbrev wsX30 : List Cond := u_ws RX3 TX3 9
theorem nmX3 : ∀ a, a < 9 → ∀ b, b < 9 → a ≠ b → (TX3 a).2.1 ≠ (TX3 b).2.1 := by decide +kernel
theorem tyX3_ok : ∀ k, k < 9 → parseFieldDescriptor (TX3 k).2.2.1 = some (tyX3 k) := by decide +kernel
abbrev cX3_init : ByteArray := prog_5_method_1_code
def yX3_init : MethodName := ⟨RX3, "<init>", "(LChangeBowler$Rules;LChangeBowler$Odds;LChangeBowler$Best;LChangeBowler$Order;LChangeBowler$Text;)V"⟩
abbrev cX3_putOn : ByteArray := prog_5_method_2_code
def yX3_putOn : MethodName := ⟨RX3, "putOn", "(IIII)I"⟩
abbrev cX3_turn : ByteArray := prog_5_method_3_code
def yX3_turn : MethodName := ⟨RX3, "turn", "(III)I"⟩
abbrev cX3_withoutKept : ByteArray := prog_5_method_4_code
def yX3_withoutKept : MethodName := ⟨RX3, "withoutKept", "(III)I"⟩
abbrev cX3_greatest : ByteArray := prog_5_method_5_code
def yX3_greatest : MethodName := ⟨RX3, "greatest", "(IIII)I"⟩
abbrev cX3_rating : ByteArray := prog_5_method_6_code
def yX3_rating : MethodName := ⟨RX3, "rating", "(IIIII)I"⟩
abbrev cX3_outBy : ByteArray := prog_5_method_7_code
def yX3_outBy : MethodName := ⟨RX3, "outBy", "(IIII)I"⟩
abbrev cX3_runsBy : ByteArray := prog_5_method_8_code
def yX3_runsBy : MethodName := ⟨RX3, "runsBy", "(III)I"⟩
abbrev cX3_meanFrom : ByteArray := prog_5_method_9_code
def yX3_meanFrom : MethodName := ⟨RX3, "meanFrom", "(IIII)I"⟩
abbrev cX3_likelyFrom : ByteArray := prog_5_method_10_code
def yX3_likelyFrom : MethodName := ⟨RX3, "likelyFrom", "(IIIII)I"⟩
abbrev cX3_play : ByteArray := prog_5_method_11_code
def yX3_play : MethodName := ⟨RX3, "play", "(III)I"⟩
abbrev cX3_drawn : ByteArray := prog_5_method_12_code
def yX3_drawn : MethodName := ⟨RX3, "drawn", "(I)I"⟩
abbrev cX3_lot : ByteArray := prog_5_method_13_code
def yX3_lot : MethodName := ⟨RX3, "lot", "(I)I"⟩
abbrev cX3_ledAt : ByteArray := prog_5_method_14_code
def yX3_ledAt : MethodName := ⟨RX3, "ledAt", "(II)I"⟩
def RX4 : String := "ChangeBowler$Numbers"
def TX4 : u_T := fun k => match k with
  | 0 => ("ChangeBowler$Numbers", "bowlers", "I", false)
  | 1 => ("ChangeBowler$Numbers", "field", "I", false)
  | 2 => ("ChangeBowler$Numbers", "done", "I", false)
  | 3 => ("ChangeBowler$Numbers", "undone", "I", false)
  | 4 => ("ChangeBowler$Numbers", "told", "[I", true)
  | 5 => ("ChangeBowler$Numbers", "tires", "[I", true)
  | 6 => ("ChangeBowler$Numbers", "costs", "[I", true)
  | 7 => ("ChangeBowler$Numbers", "places", "[I", true)
  | 8 => ("ChangeBowler$Numbers", "befores", "[I", true)
  | _ => ("ChangeBowler$Numbers", "afters", "[I", true)
def tyX4 : Nat → FieldType := fun k => match k with
  | 0 => .int
  | 1 => .int
  | 2 => .int
  | 3 => .int
  | 4 => .array .int
  | 5 => .array .int
  | 6 => .array .int
  | 7 => .array .int
  | 8 => .array .int
  | _ => .array .int
abbrev wsX40 : List Cond := u_ws RX4 TX4 10
theorem nmX4 : ∀ a, a < 10 → ∀ b, b < 10 → a ≠ b → (TX4 a).2.1 ≠ (TX4 b).2.1 := by decide +kernel
theorem tyX4_ok : ∀ k, k < 10 → parseFieldDescriptor (TX4 k).2.2.1 = some (tyX4 k) := by decide +kernel
abbrev cX4_init : ByteArray := prog_6_method_1_code
def yX4_init : MethodName := ⟨RX4, "<init>", "()V"⟩
abbrev cX4_lowest : ByteArray := prog_6_method_2_code
def yX4_lowest : MethodName := ⟨RX4, "lowest", "(I)I"⟩
abbrev cX4_highest : ByteArray := prog_6_method_3_code
def yX4_highest : MethodName := ⟨RX4, "highest", "(I)I"⟩
abbrev cX4_join : ByteArray := prog_6_method_4_code
def yX4_join : MethodName := ⟨RX4, "join", "(III)I"⟩
abbrev cX4_at : ByteArray := prog_6_method_5_code
def yX4_at : MethodName := ⟨RX4, "at", "(I)I"⟩
abbrev cX4_oversOf : ByteArray := prog_6_method_6_code
def yX4_oversOf : MethodName := ⟨RX4, "oversOf", "(I)I"⟩
abbrev cX4_freshAttack : ByteArray := prog_6_method_7_code
def yX4_freshAttack : MethodName := ⟨RX4, "freshAttack", "()I"⟩
abbrev cX4_edgeIn : ByteArray := prog_6_method_8_code
def yX4_edgeIn : MethodName := ⟨RX4, "edgeIn", "(III)I"⟩
abbrev cX4_runsIn : ByteArray := prog_6_method_9_code
def yX4_runsIn : MethodName := ⟨RX4, "runsIn", "(III)I"⟩
abbrev cX4_freshness : ByteArray := prog_6_method_10_code
def yX4_freshness : MethodName := ⟨RX4, "freshness", "(II)I"⟩
abbrev cX4_change : ByteArray := prog_6_method_11_code
def yX4_change : MethodName := ⟨RX4, "change", "(II)I"⟩
abbrev cX4_dropOldest : ByteArray := prog_6_method_12_code
def yX4_dropOldest : MethodName := ⟨RX4, "dropOldest", "()V"⟩
abbrev cX4_stepBack : ByteArray := prog_6_method_13_code
def yX4_stepBack : MethodName := ⟨RX4, "stepBack", "()I"⟩
abbrev cX4_stepAgain : ByteArray := prog_6_method_14_code
def yX4_stepAgain : MethodName := ⟨RX4, "stepAgain", "()I"⟩
def RX5 : String := "ChangeBowler$Odds"
def TX5 : u_T := fun k => match k with
  | 0 => ("ChangeBowler$Odds", "ball", "LChangeBowler$Text;", true)
  | 1 => ("ChangeBowler$Odds", "numbers", "LChangeBowler$Numbers;", true)
  | 2 => ("ChangeBowler$Odds", "outs", "[I", true)
  | 3 => ("ChangeBowler$Odds", "runs", "[I", true)
  | 4 => ("ChangeBowler$Odds", "keys", "[I", true)
  | 5 => ("ChangeBowler$Odds", "gifts", "[I", true)
  | 6 => ("ChangeBowler$Odds", "texts", "I", false)
  | _ => ("ChangeBowler$Odds", "asked", "I", false)
def tyX5 : Nat → FieldType := fun k => match k with
  | 0 => .object "ChangeBowler$Text"
  | 1 => .object "ChangeBowler$Numbers"
  | 2 => .array .int
  | 3 => .array .int
  | 4 => .array .int
  | 5 => .array .int
  | 6 => .int
  | _ => .int
abbrev wsX50 : List Cond := u_ws RX5 TX5 8
theorem nmX5 : ∀ a, a < 8 → ∀ b, b < 8 → a ≠ b → (TX5 a).2.1 ≠ (TX5 b).2.1 := by decide +kernel
theorem tyX5_ok : ∀ k, k < 8 → parseFieldDescriptor (TX5 k).2.2.1 = some (tyX5 k) := by decide +kernel
abbrev cX5_init : ByteArray := prog_7_method_1_code
def yX5_init : MethodName := ⟨RX5, "<init>", "(LChangeBowler$Numbers;LChangeBowler$Text;)V"⟩
abbrev cX5_lay : ByteArray := prog_7_method_2_code
def yX5_lay : MethodName := ⟨RX5, "lay", "(I)V"⟩
abbrev cX5_forget : ByteArray := prog_7_method_3_code
def yX5_forget : MethodName := ⟨RX5, "forget", "()V"⟩
abbrev cX5_runsOf : ByteArray := prog_7_method_4_code
def yX5_runsOf : MethodName := ⟨RX5, "runsOf", "(III)I"⟩
abbrev cX5_outOf : ByteArray := prog_7_method_5_code
def yX5_outOf : MethodName := ⟨RX5, "outOf", "(IIIIII)I"⟩
def RX6 : String := "ChangeBowler$Order"
def TX6 : u_T := fun k => match k with
  | 0 => ("ChangeBowler$Order", "size", "I", false)
  | 1 => ("ChangeBowler$Order", "overs", "I", false)
  | 2 => ("ChangeBowler$Order", "rain", "I", false)
  | _ => ("ChangeBowler$Order", "sorts", "[I", true)
def tyX6 : Nat → FieldType := fun k => match k with
  | 0 => .int
  | 1 => .int
  | 2 => .int
  | _ => .array .int
abbrev wsX60 : List Cond := u_ws RX6 TX6 4
theorem nmX6 : ∀ a, a < 4 → ∀ b, b < 4 → a ≠ b → (TX6 a).2.1 ≠ (TX6 b).2.1 := by decide +kernel
theorem tyX6_ok : ∀ k, k < 4 → parseFieldDescriptor (TX6 k).2.2.1 = some (tyX6 k) := by decide +kernel
abbrev cX6_init : ByteArray := prog_8_method_1_code
def yX6_init : MethodName := ⟨RX6, "<init>", "()V"⟩
abbrev cX6_sortAt : ByteArray := prog_8_method_2_code
def yX6_sortAt : MethodName := ⟨RX6, "sortAt", "(I)I"⟩
abbrev cX6_ended : ByteArray := prog_8_method_3_code
def yX6_ended : MethodName := ⟨RX6, "ended", "(III)Z"⟩
abbrev cX6_meanOf : ByteArray := prog_8_method_4_code
def yX6_meanOf : MethodName := ⟨RX6, "meanOf", "(IIII)I"⟩
abbrev cX6_sortDown : ByteArray := prog_8_method_5_code
def yX6_sortDown : MethodName := ⟨RX6, "sortDown", "([I)V"⟩
abbrev cX6_digits : ByteArray := prog_8_method_6_code
def yX6_digits : MethodName := ⟨RX6, "digits", "([II)I"⟩
abbrev cX6_turnOn : ByteArray := prog_8_method_7_code
def yX6_turnOn : MethodName := ⟨RX6, "turnOn", "([II)I"⟩
abbrev cX6_swap : ByteArray := prog_8_method_8_code
def yX6_swap : MethodName := ⟨RX6, "swap", "([III)V"⟩
def RX7 : String := "ChangeBowler$Reader"
def TX7 : u_T := fun k => match k with
  | 0 => ("ChangeBowler$Reader", "size", "I", false)
  | 1 => ("ChangeBowler$Reader", "at", "I", false)
  | 2 => ("ChangeBowler$Reader", "fault", "I", false)
  | 3 => ("ChangeBowler$Reader", "tape", "[I", true)
  | 4 => ("ChangeBowler$Reader", "sorts", "[I", true)
  | _ => ("ChangeBowler$Reader", "made", "LChangeBowler$Text;", true)
def tyX7 : Nat → FieldType := fun k => match k with
  | 0 => .int
  | 1 => .int
  | 2 => .int
  | 3 => .array .int
  | 4 => .array .int
  | _ => .object "ChangeBowler$Text"
abbrev wsX70 : List Cond := u_ws RX7 TX7 6
theorem nmX7 : ∀ a, a < 6 → ∀ b, b < 6 → a ≠ b → (TX7 a).2.1 ≠ (TX7 b).2.1 := by decide +kernel
theorem tyX7_ok : ∀ k, k < 6 → parseFieldDescriptor (TX7 k).2.2.1 = some (tyX7 k) := by decide +kernel
abbrev cX7_init : ByteArray := prog_9_method_1_code
def yX7_init : MethodName := ⟨RX7, "<init>", "()V"⟩
abbrev cX7_take : ByteArray := prog_9_method_2_code
def yX7_take : MethodName := ⟨RX7, "take", "(II)I"⟩
abbrev cX7_begin : ByteArray := prog_9_method_3_code
def yX7_begin : MethodName := ⟨RX7, "begin", "()V"⟩
abbrev cX7_end : ByteArray := prog_9_method_4_code
def yX7_end : MethodName := ⟨RX7, "end", "()I"⟩
abbrev cX7_sign : ByteArray := prog_9_method_5_code
def yX7_sign : MethodName := ⟨RX7, "sign", "()I"⟩
abbrev cX7_isDigit : ByteArray := prog_9_method_6_code
def yX7_isDigit : MethodName := ⟨RX7, "isDigit", "(I)Z"⟩
abbrev cX7_fail : ByteArray := prog_9_method_7_code
def yX7_fail : MethodName := ⟨RX7, "fail", "(I)V"⟩
abbrev cX7_skip : ByteArray := prog_9_method_8_code
def yX7_skip : MethodName := ⟨RX7, "skip", "(I)Z"⟩
abbrev cX7_number : ByteArray := prog_9_method_9_code
def yX7_number : MethodName := ⟨RX7, "number", "(I)I"⟩
abbrev cX7_readOrder : ByteArray := prog_9_method_10_code
def yX7_readOrder : MethodName := ⟨RX7, "readOrder", "(LChangeBowler$Order;)I"⟩
abbrev cX7_readText : ByteArray := prog_9_method_11_code
def yX7_readText : MethodName := ⟨RX7, "readText", "(LChangeBowler$Text;)I"⟩
abbrev cX7_readLine : ByteArray := prog_9_method_12_code
def yX7_readLine : MethodName := ⟨RX7, "readLine", "()V"⟩
abbrev cX7_levelOf : ByteArray := prog_9_method_13_code
def yX7_levelOf : MethodName := ⟨RX7, "levelOf", "(I)I"⟩
abbrev cX7_part : ByteArray := prog_9_method_14_code
def yX7_part : MethodName := ⟨RX7, "part", "(II)V"⟩
abbrev cX7_operand : ByteArray := prog_9_method_15_code
def yX7_operand : MethodName := ⟨RX7, "operand", "(I)V"⟩
abbrev cX7_nameOf : ByteArray := prog_9_method_16_code
def yX7_nameOf : MethodName := ⟨RX7, "nameOf", "(I)I"⟩
def RX8 : String := "ChangeBowler$Rules"
def TX8 : u_T := fun k => match k with
  | 0 => ("ChangeBowler$Rules", "size", "I", false)
  | 1 => ("ChangeBowler$Rules", "ran", "I", false)
  | 2 => ("ChangeBowler$Rules", "kinds", "[I", true)
  | 3 => ("ChangeBowler$Rules", "rows", "[I", true)
  | 4 => ("ChangeBowler$Rules", "numbers", "[I", true)
  | _ => ("ChangeBowler$Rules", "bodies", "[I", true)
def tyX8 : Nat → FieldType := fun k => match k with
  | 0 => .int
  | 1 => .int
  | 2 => .array .int
  | 3 => .array .int
  | 4 => .array .int
  | _ => .array .int
abbrev wsX80 : List Cond := u_ws RX8 TX8 6
theorem nmX8 : ∀ a, a < 6 → ∀ b, b < 6 → a ≠ b → (TX8 a).2.1 ≠ (TX8 b).2.1 := by decide +kernel
theorem tyX8_ok : ∀ k, k < 6 → parseFieldDescriptor (TX8 k).2.2.1 = some (tyX8 k) := by decide +kernel
abbrev cX8_init : ByteArray := prog_10_method_1_code
def yX8_init : MethodName := ⟨RX8, "<init>", "()V"⟩
abbrev cX8_rowIsRight : ByteArray := prog_10_method_2_code
def yX8_rowIsRight : MethodName := ⟨RX8, "rowIsRight", "(I)Z"⟩
abbrev cX8_above : ByteArray := prog_10_method_3_code
def yX8_above : MethodName := ⟨RX8, "above", "(I)I"⟩
abbrev cX8_isUnder : ByteArray := prog_10_method_4_code
def yX8_isUnder : MethodName := ⟨RX8, "isUnder", "(II)Z"⟩
abbrev cX8_make : ByteArray := prog_10_method_5_code
def yX8_make : MethodName := ⟨RX8, "make", "(III)I"⟩
abbrev cX8_kindOf : ByteArray := prog_10_method_6_code
def yX8_kindOf : MethodName := ⟨RX8, "kindOf", "(I)I"⟩
abbrev cX8_numberOf : ByteArray := prog_10_method_7_code
def yX8_numberOf : MethodName := ⟨RX8, "numberOf", "(I)I"⟩
abbrev cX8_turnOf : ByteArray := prog_10_method_8_code
def yX8_turnOf : MethodName := ⟨RX8, "turnOf", "(II)I"⟩
abbrev cX8_traceAt : ByteArray := prog_10_method_9_code
def yX8_traceAt : MethodName := ⟨RX8, "traceAt", "(I)I"⟩
abbrev cX8_runBody : ByteArray := prog_10_method_10_code
def yX8_runBody : MethodName := ⟨RX8, "runBody", "(IIIII)I"⟩
abbrev cX8_bodyOf : ByteArray := prog_10_method_11_code
def yX8_bodyOf : MethodName := ⟨RX8, "bodyOf", "(IIIII)I"⟩
def RX9 : String := "ChangeBowler$Shelves"
def TX9 : u_T := fun k => match k with
  | 0 => ("ChangeBowler$Shelves", "rules", "LChangeBowler$Rules;", true)
  | 1 => ("ChangeBowler$Shelves", "sorts", "[I", true)
  | 2 => ("ChangeBowler$Shelves", "lengths", "[I", true)
  | 3 => ("ChangeBowler$Shelves", "ruled", "[I", true)
  | _ => ("ChangeBowler$Shelves", "elements", "[J", true)
def tyX9 : Nat → FieldType := fun k => match k with
  | 0 => .object "ChangeBowler$Rules"
  | 1 => .array .int
  | 2 => .array .int
  | 3 => .array .int
  | _ => .array .long
abbrev wsX90 : List Cond := u_ws RX9 TX9 5
theorem nmX9 : ∀ a, a < 5 → ∀ b, b < 5 → a ≠ b → (TX9 a).2.1 ≠ (TX9 b).2.1 := by decide +kernel
theorem tyX9_ok : ∀ k, k < 5 → parseFieldDescriptor (TX9 k).2.2.1 = some (tyX9 k) := by decide +kernel
abbrev cX9_init : ByteArray := prog_11_method_1_code
def yX9_init : MethodName := ⟨RX9, "<init>", "(LChangeBowler$Rules;)V"⟩
abbrev cX9_isNone : ByteArray := prog_11_method_2_code
def yX9_isNone : MethodName := ⟨RX9, "isNone", "(I)Z"⟩
abbrev cX9_isEmpty : ByteArray := prog_11_method_3_code
def yX9_isEmpty : MethodName := ⟨RX9, "isEmpty", "(I)Z"⟩
abbrev cX9_sortOf : ByteArray := prog_11_method_4_code
def yX9_sortOf : MethodName := ⟨RX9, "sortOf", "(I)I"⟩
abbrev cX9_lengthOf : ByteArray := prog_11_method_5_code
def yX9_lengthOf : MethodName := ⟨RX9, "lengthOf", "(I)I"⟩
abbrev cX9_ruleOn : ByteArray := prog_11_method_6_code
def yX9_ruleOn : MethodName := ⟨RX9, "ruleOn", "(I)I"⟩
abbrev cX9_hold : ByteArray := prog_11_method_7_code
def yX9_hold : MethodName := ⟨RX9, "hold", "(II)V"⟩
abbrev cX9_lay : ByteArray := prog_11_method_8_code
def yX9_lay : MethodName := ⟨RX9, "lay", "(III)V"⟩
abbrev cX9_refusal : ByteArray := prog_11_method_9_code
def yX9_refusal : MethodName := ⟨RX9, "refusal", "(II)I"⟩
abbrev cX9_elementAt : ByteArray := prog_11_method_10_code
def yX9_elementAt : MethodName := ⟨RX9, "elementAt", "(II)J"⟩
abbrev cX9_write : ByteArray := prog_11_method_11_code
def yX9_write : MethodName := ⟨RX9, "write", "(IIJ)V"⟩
abbrev cX9_cut : ByteArray := prog_11_method_12_code
def yX9_cut : MethodName := ⟨RX9, "cut", "(IJ)J"⟩
abbrev cX9_move : ByteArray := prog_11_method_13_code
def yX9_move : MethodName := ⟨RX9, "move", "(IIIII)V"⟩
def RX10 : String := "ChangeBowler$Text"
def TX10 : u_T := fun k => match k with
  | 0 => ("ChangeBowler$Text", "length", "I", false)
  | 1 => ("ChangeBowler$Text", "named", "I", false)
  | 2 => ("ChangeBowler$Text", "code", "[I", true)
  | 3 => ("ChangeBowler$Text", "names", "[I", true)
  | _ => ("ChangeBowler$Text", "stack", "[I", true)
def tyX10 : Nat → FieldType := fun k => match k with
  | 0 => .int
  | 1 => .int
  | 2 => .array .int
  | 3 => .array .int
  | _ => .array .int
abbrev wsX100 : List Cond := u_ws RX10 TX10 5
theorem nmX10 : ∀ a, a < 5 → ∀ b, b < 5 → a ≠ b → (TX10 a).2.1 ≠ (TX10 b).2.1 := by decide +kernel
theorem tyX10_ok : ∀ k, k < 5 → parseFieldDescriptor (TX10 k).2.2.1 = some (tyX10 k) := by decide +kernel
abbrev cX10_init : ByteArray := prog_12_method_1_code
def yX10_init : MethodName := ⟨RX10, "<init>", "()V"⟩
abbrev cX10_begin : ByteArray := prog_12_method_2_code
def yX10_begin : MethodName := ⟨RX10, "begin", "()V"⟩
abbrev cX10_add : ByteArray := prog_12_method_3_code
def yX10_add : MethodName := ⟨RX10, "add", "(I)V"⟩
abbrev cX10_copyFrom : ByteArray := prog_12_method_4_code
def yX10_copyFrom : MethodName := ⟨RX10, "copyFrom", "(LChangeBowler$Text;)V"⟩
abbrev cX10_uses : ByteArray := prog_12_method_5_code
def yX10_uses : MethodName := ⟨RX10, "uses", "(I)Z"⟩
abbrev cX10_say : ByteArray := prog_12_method_6_code
def yX10_say : MethodName := ⟨RX10, "say", "(IIIIII)V"⟩
abbrev cX10_sayChance : ByteArray := prog_12_method_7_code
def yX10_sayChance : MethodName := ⟨RX10, "sayChance", "(II)V"⟩
abbrev cX10_worked : ByteArray := prog_12_method_8_code
def yX10_worked : MethodName := ⟨RX10, "worked", "()I"⟩
abbrev cX10_joined : ByteArray := prog_12_method_9_code
def yX10_joined : MethodName := ⟨RX10, "joined", "(III)I"⟩
def RX11 : String := "ChangeBowler"
def TX11 : u_T := fun k => match k with
  | 0 => ("ChangeBowler", "numbers", "LChangeBowler$Numbers;", true)
  | 1 => ("ChangeBowler", "reader", "LChangeBowler$Reader;", true)
  | 2 => ("ChangeBowler", "order", "LChangeBowler$Order;", true)
  | 3 => ("ChangeBowler", "told", "LChangeBowler$Text;", true)
  | 4 => ("ChangeBowler", "ball", "LChangeBowler$Text;", true)
  | 5 => ("ChangeBowler", "odds", "LChangeBowler$Odds;", true)
  | 6 => ("ChangeBowler", "best", "LChangeBowler$Best;", true)
  | 7 => ("ChangeBowler", "rules", "LChangeBowler$Rules;", true)
  | 8 => ("ChangeBowler", "captain", "LChangeBowler$Captain;", true)
  | 9 => ("ChangeBowler", "book", "LChangeBowler$Book;", true)
  | 10 => ("ChangeBowler", "shelves", "LChangeBowler$Shelves;", true)
  | _ => ("ChangeBowler", "turned", "[I", true)
def tyX11 : Nat → FieldType := fun k => match k with
  | 0 => .object "ChangeBowler$Numbers"
  | 1 => .object "ChangeBowler$Reader"
  | 2 => .object "ChangeBowler$Order"
  | 3 => .object "ChangeBowler$Text"
  | 4 => .object "ChangeBowler$Text"
  | 5 => .object "ChangeBowler$Odds"
  | 6 => .object "ChangeBowler$Best"
  | 7 => .object "ChangeBowler$Rules"
  | 8 => .object "ChangeBowler$Captain"
  | 9 => .object "ChangeBowler$Book"
  | 10 => .object "ChangeBowler$Shelves"
  | _ => .array .int
abbrev wsX110 : List Cond := u_ws RX11 TX11 12
theorem nmX11 : ∀ a, a < 12 → ∀ b, b < 12 → a ≠ b → (TX11 a).2.1 ≠ (TX11 b).2.1 := by decide +kernel
theorem tyX11_ok : ∀ k, k < 12 → parseFieldDescriptor (TX11 k).2.2.1 = some (tyX11 k) := by decide +kernel
abbrev cX11_init : ByteArray := prog_1_method_1_code
def yX11_init : MethodName := ⟨RX11, "<init>", "()V"⟩
abbrev cX11_bowler : ByteArray := prog_1_method_2_code
def yX11_bowler : MethodName := ⟨RX11, "bowler", "(III)I"⟩
abbrev cX11_edge : ByteArray := prog_1_method_3_code
def yX11_edge : MethodName := ⟨RX11, "edge", "(III)I"⟩
abbrev cX11_field : ByteArray := prog_1_method_4_code
def yX11_field : MethodName := ⟨RX11, "field", "(III)I"⟩
abbrev cX11_set : ByteArray := prog_1_method_5_code
def yX11_set : MethodName := ⟨RX11, "set", "(I)I"⟩
abbrev cX11_feed : ByteArray := prog_1_method_6_code
def yX11_feed : MethodName := ⟨RX11, "feed", "(II)I"⟩
abbrev cX11_order : ByteArray := prog_1_method_7_code
def yX11_order : MethodName := ⟨RX11, "order", "()I"⟩
abbrev cX11_text : ByteArray := prog_1_method_8_code
def yX11_text : MethodName := ⟨RX11, "text", "(I)I"⟩
abbrev cX11_of : ByteArray := prog_1_method_9_code
def yX11_of : MethodName := ⟨RX11, "of", "(I)I"⟩
abbrev cX11_over : ByteArray := prog_1_method_10_code
def yX11_over : MethodName := ⟨RX11, "over", "(III)I"⟩
abbrev cX11_rule : ByteArray := prog_1_method_11_code
def yX11_rule : MethodName := ⟨RX11, "rule", "(III)I"⟩
abbrev cX11_puts : ByteArray := prog_1_method_12_code
def yX11_puts : MethodName := ⟨RX11, "puts", "(I)I"⟩
abbrev cX11_mean : ByteArray := prog_1_method_13_code
def yX11_mean : MethodName := ⟨RX11, "mean", "(I)I"⟩
abbrev cX11_likely : ByteArray := prog_1_method_14_code
def yX11_likely : MethodName := ⟨RX11, "likely", "(II)I"⟩
abbrev cX11_best : ByteArray := prog_1_method_15_code
def yX11_best : MethodName := ⟨RX11, "best", "(I)I"⟩
abbrev cX11_worth : ByteArray := prog_1_method_16_code
def yX11_worth : MethodName := ⟨RX11, "worth", "(II)I"⟩
abbrev cX11_fielded : ByteArray := prog_1_method_17_code
def yX11_fielded : MethodName := ⟨RX11, "fielded", "(II)I"⟩
abbrev cX11_kept : ByteArray := prog_1_method_18_code
def yX11_kept : MethodName := ⟨RX11, "kept", "(I)I"⟩
abbrev cX11_theirs : ByteArray := prog_1_method_19_code
def yX11_theirs : MethodName := ⟨RX11, "theirs", "(I)I"⟩
abbrev cX11_learn : ByteArray := prog_1_method_20_code
def yX11_learn : MethodName := ⟨RX11, "learn", "(II)I"⟩
abbrev cX11_book : ByteArray := prog_1_method_21_code
def yX11_book : MethodName := ⟨RX11, "book", "(II)I"⟩
abbrev cX11_books : ByteArray := prog_1_method_22_code
def yX11_books : MethodName := ⟨RX11, "books", "(II)I"⟩
abbrev cX11_close : ByteArray := prog_1_method_23_code
def yX11_close : MethodName := ⟨RX11, "close", "()I"⟩
abbrev cX11_cost : ByteArray := prog_1_method_24_code
def yX11_cost : MethodName := ⟨RX11, "cost", "(I)I"⟩
abbrev cX11_lost : ByteArray := prog_1_method_25_code
def yX11_lost : MethodName := ⟨RX11, "lost", "(I)I"⟩
abbrev cX11_game : ByteArray := prog_1_method_26_code
def yX11_game : MethodName := ⟨RX11, "game", "(II)I"⟩
abbrev cX11_led : ByteArray := prog_1_method_27_code
def yX11_led : MethodName := ⟨RX11, "led", "(II)I"⟩
abbrev cX11_undo : ByteArray := prog_1_method_28_code
def yX11_undo : MethodName := ⟨RX11, "undo", "()I"⟩
abbrev cX11_redo : ByteArray := prog_1_method_29_code
def yX11_redo : MethodName := ⟨RX11, "redo", "()I"⟩
abbrev cX11_act : ByteArray := prog_1_method_30_code
def yX11_act : MethodName := ⟨RX11, "act", "(III)I"⟩
abbrev cX11_trace : ByteArray := prog_1_method_31_code
def yX11_trace : MethodName := ⟨RX11, "trace", "(I)I"⟩
abbrev cX11_keep : ByteArray := prog_1_method_32_code
def yX11_keep : MethodName := ⟨RX11, "keep", "(II)I"⟩
abbrev cX11_row : ByteArray := prog_1_method_33_code
def yX11_row : MethodName := ⟨RX11, "row", "(III)I"⟩
abbrev cX11_put : ByteArray := prog_1_method_34_code
def yX11_put : MethodName := ⟨RX11, "put", "(IIJ)I"⟩
abbrev cX11_element : ByteArray := prog_1_method_35_code
def yX11_element : MethodName := ⟨RX11, "element", "(II)J"⟩
abbrev cX11_shift : ByteArray := prog_1_method_36_code
def yX11_shift : MethodName := ⟨RX11, "shift", "(IIIII)I"⟩
abbrev cX11_taken : ByteArray := prog_1_method_37_code
def yX11_taken : MethodName := ⟨RX11, "taken", "(II)I"⟩
abbrev cX11_count : ByteArray := prog_1_method_38_code
def yX11_count : MethodName := ⟨RX11, "count", "(I)I"⟩
abbrev cX11_outside : ByteArray := prog_1_method_39_code
def yX11_outside : MethodName := ⟨RX11, "outside", "(III)Z"⟩
abbrev cX11_noBowler : ByteArray := prog_1_method_40_code
def yX11_noBowler : MethodName := ⟨RX11, "noBowler", "(I)Z"⟩
abbrev cX11_noRule : ByteArray := prog_1_method_41_code
def yX11_noRule : MethodName := ⟨RX11, "noRule", "(I)Z"⟩
abbrev cX11_noShelf : ByteArray := prog_1_method_42_code
def yX11_noShelf : MethodName := ⟨RX11, "noShelf", "(I)Z"⟩
abbrev cX11_edgePlace : ByteArray := prog_1_method_43_code
def yX11_edgePlace : MethodName := ⟨RX11, "edgePlace", "(II)I"⟩
abbrev cX11_mayBeBooked : ByteArray := prog_1_method_44_code
def yX11_mayBeBooked : MethodName := ⟨RX11, "mayBeBooked", "(I)Z"⟩
abbrev cX11_makeReady : ByteArray := prog_1_method_45_code
def yX11_makeReady : MethodName := ⟨RX11, "makeReady", "(I)V"⟩
abbrev cX11_bestOf : ByteArray := prog_1_method_46_code
def yX11_bestOf : MethodName := ⟨RX11, "bestOf", "(II)I"⟩
abbrev cX11_turnOrder : ByteArray := prog_1_method_47_code
def yX11_turnOrder : MethodName := ⟨RX11, "turnOrder", "(I)I"⟩
abbrev cX11_costOf : ByteArray := prog_1_method_48_code
def yX11_costOf : MethodName := ⟨RX11, "costOf", "(I)I"⟩
def RX12 : String := "ChangeBowlerModel"
def TX12 : u_T := fun k => match k with
  | 0 => ("ChangeBowlerModel", "may", "[I", true)
  | 1 => ("ChangeBowlerModel", "changeAt", "[I", true)
  | 2 => ("ChangeBowlerModel", "changeWas", "[I", true)
  | 3 => ("ChangeBowlerModel", "changeIs", "[I", true)
  | 4 => ("ChangeBowlerModel", "keptMany", "I", false)
  | 5 => ("ChangeBowlerModel", "done", "I", false)
  | 6 => ("ChangeBowlerModel", "bowlers", "I", false)
  | 7 => ("ChangeBowlerModel", "tires", "[I", true)
  | 8 => ("ChangeBowlerModel", "cost", "[I", true)
  | 9 => ("ChangeBowlerModel", "fieldSet", "I", false)
  | 10 => ("ChangeBowlerModel", "men", "I", false)
  | 11 => ("ChangeBowlerModel", "sortOf", "[I", true)
  | 12 => ("ChangeBowlerModel", "overs", "I", false)
  | 13 => ("ChangeBowlerModel", "rain", "I", false)
  | 14 => ("ChangeBowlerModel", "tape", "[I", true)
  | 15 => ("ChangeBowlerModel", "tapeMany", "I", false)
  | 16 => ("ChangeBowlerModel", "text", "[I", true)
  | 17 => ("ChangeBowlerModel", "textMany", "[I", true)
  | 18 => ("ChangeBowlerModel", "base", "I", false)
  | 19 => ("ChangeBowlerModel", "at", "I", false)
  | 20 => ("ChangeBowlerModel", "ends", "I", false)
  | 21 => ("ChangeBowlerModel", "fault", "I", false)
  | 22 => ("ChangeBowlerModel", "opened", "I", false)
  | 23 => ("ChangeBowlerModel", "names", "[I", true)
  | 24 => ("ChangeBowlerModel", "readSort", "[I", true)
  | 25 => ("ChangeBowlerModel", "out", "I", false)
  | 26 => ("ChangeBowlerModel", "did", "I", false)
  | 27 => ("ChangeBowlerModel", "last", "I", false)
  | 28 => ("ChangeBowlerModel", "steps", "[I", true)
  | 29 => ("ChangeBowlerModel", "bowled", "[I", true)
  | 30 => ("ChangeBowlerModel", "without", "I", false)
  | 31 => ("ChangeBowlerModel", "oneMore", "I", false)
  | 32 => ("ChangeBowlerModel", "rules", "I", false)
  | 33 => ("ChangeBowlerModel", "kind", "[I", true)
  | 34 => ("ChangeBowlerModel", "rowMany", "[I", true)
  | 35 => ("ChangeBowlerModel", "rowOf", "[I", true)
  | 36 => ("ChangeBowlerModel", "kOf", "[I", true)
  | 37 => ("ChangeBowlerModel", "whom", "I", false)
  | 38 => ("ChangeBowlerModel", "keptState", "[I", true)
  | 39 => ("ChangeBowlerModel", "keptOuts", "[I", true)
  | 40 => ("ChangeBowlerModel", "keptMean", "[I", true)
  | 41 => ("ChangeBowlerModel", "keptWhom", "[I", true)
  | 42 => ("ChangeBowlerModel", "keptStamp", "I", false)
  | 43 => ("ChangeBowlerModel", "stampOf", "[I", true)
  | 44 => ("ChangeBowlerModel", "ownSort", "[I", true)
  | 45 => ("ChangeBowlerModel", "theirDigits", "I", false)
  | 46 => ("ChangeBowlerModel", "theirMean", "I", false)
  | 47 => ("ChangeBowlerModel", "booked", "I", false)
  | 48 => ("ChangeBowlerModel", "bookBy", "[I", true)
  | 49 => ("ChangeBowlerModel", "bookOut", "[I", true)
  | 50 => ("ChangeBowlerModel", "played", "I", false)
  | 51 => ("ChangeBowlerModel", "ledBy", "[I", true)
  | 52 => ("ChangeBowlerModel", "ledRuns", "[I", true)
  | 53 => ("ChangeBowlerModel", "ledOut", "[I", true)
  | 54 => ("ChangeBowlerModel", "trace", "[I", true)
  | 55 => ("ChangeBowlerModel", "ran", "I", false)
  | 56 => ("ChangeBowlerModel", "ownKind", "I", false)
  | 57 => ("ChangeBowlerModel", "ownNumber", "I", false)
  | 58 => ("ChangeBowlerModel", "shelf", "[I", true)
  | 59 => ("ChangeBowlerModel", "many", "[I", true)
  | 60 => ("ChangeBowlerModel", "items", "[J", true)
  | _ => ("ChangeBowlerModel", "carried", "[J", true)
def tyX12 : Nat → FieldType := fun k => match k with
  | 0 => .array .int
  | 1 => .array .int
  | 2 => .array .int
  | 3 => .array .int
  | 4 => .int
  | 5 => .int
  | 6 => .int
  | 7 => .array .int
  | 8 => .array .int
  | 9 => .int
  | 10 => .int
  | 11 => .array .int
  | 12 => .int
  | 13 => .int
  | 14 => .array .int
  | 15 => .int
  | 16 => .array .int
  | 17 => .array .int
  | 18 => .int
  | 19 => .int
  | 20 => .int
  | 21 => .int
  | 22 => .int
  | 23 => .array .int
  | 24 => .array .int
  | 25 => .int
  | 26 => .int
  | 27 => .int
  | 28 => .array .int
  | 29 => .array .int
  | 30 => .int
  | 31 => .int
  | 32 => .int
  | 33 => .array .int
  | 34 => .array .int
  | 35 => .array .int
  | 36 => .array .int
  | 37 => .int
  | 38 => .array .int
  | 39 => .array .int
  | 40 => .array .int
  | 41 => .array .int
  | 42 => .int
  | 43 => .array .int
  | 44 => .array .int
  | 45 => .int
  | 46 => .int
  | 47 => .int
  | 48 => .array .int
  | 49 => .array .int
  | 50 => .int
  | 51 => .array .int
  | 52 => .array .int
  | 53 => .array .int
  | 54 => .array .int
  | 55 => .int
  | 56 => .int
  | 57 => .int
  | 58 => .array .int
  | 59 => .array .int
  | 60 => .array .long
  | _ => .array .long
abbrev wsX120 : List Cond := u_ws RX12 TX12 62
theorem nmX12 : ∀ a, a < 62 → ∀ b, b < 62 → a ≠ b → (TX12 a).2.1 ≠ (TX12 b).2.1 := by decide +kernel
theorem tyX12_ok : ∀ k, k < 62 → parseFieldDescriptor (TX12 k).2.2.1 = some (tyX12 k) := by decide +kernel
abbrev cX12_within : ByteArray := prog_14_method_1_code
def yX12_within : MethodName := ⟨RX12, "within", "(JJJ)Z"⟩
abbrev cX12_init : ByteArray := prog_14_method_2_code
def yX12_init : MethodName := ⟨RX12, "<init>", "()V"⟩
abbrev cX12_becomes : ByteArray := prog_14_method_3_code
def yX12_becomes : MethodName := ⟨RX12, "becomes", "(II)I"⟩
abbrev cX12_undo : ByteArray := prog_14_method_4_code
def yX12_undo : MethodName := ⟨RX12, "undo", "()I"⟩
abbrev cX12_redo : ByteArray := prog_14_method_5_code
def yX12_redo : MethodName := ⟨RX12, "redo", "()I"⟩
abbrev cX12_isBowler : ByteArray := prog_14_method_6_code
def yX12_isBowler : MethodName := ⟨RX12, "isBowler", "(I)Z"⟩
abbrev cX12_bowler : ByteArray := prog_14_method_7_code
def yX12_bowler : MethodName := ⟨RX12, "bowler", "(III)I"⟩
abbrev cX12_edge : ByteArray := prog_14_method_8_code
def yX12_edge : MethodName := ⟨RX12, "edge", "(III)I"⟩
abbrev cX12_field : ByteArray := prog_14_method_9_code
def yX12_field : MethodName := ⟨RX12, "field", "(III)I"⟩
abbrev cX12_set : ByteArray := prog_14_method_10_code
def yX12_set : MethodName := ⟨RX12, "set", "(I)I"⟩
abbrev cX12_feed : ByteArray := prog_14_method_11_code
def yX12_feed : MethodName := ⟨RX12, "feed", "(II)I"⟩
abbrev cX12_byteAt : ByteArray := prog_14_method_12_code
def yX12_byteAt : MethodName := ⟨RX12, "byteAt", "()I"⟩
abbrev cX12_wrong : ByteArray := prog_14_method_13_code
def yX12_wrong : MethodName := ⟨RX12, "wrong", "()I"⟩
abbrev cX12_takes : ByteArray := prog_14_method_14_code
def yX12_takes : MethodName := ⟨RX12, "takes", "(I)Z"⟩
abbrev cX12_either : ByteArray := prog_14_method_15_code
def yX12_either : MethodName := ⟨RX12, "either", "()I"⟩
abbrev cX12_both : ByteArray := prog_14_method_16_code
def yX12_both : MethodName := ⟨RX12, "both", "()I"⟩
abbrev cX12_compared : ByteArray := prog_14_method_17_code
def yX12_compared : MethodName := ⟨RX12, "compared", "()I"⟩
abbrev cX12_sums : ByteArray := prog_14_method_18_code
def yX12_sums : MethodName := ⟨RX12, "sums", "()I"⟩
abbrev cX12_product : ByteArray := prog_14_method_19_code
def yX12_product : MethodName := ⟨RX12, "product", "()I"⟩
abbrev cX12_nameOf : ByteArray := prog_14_method_20_code
def yX12_nameOf : MethodName := ⟨RX12, "nameOf", "(I)I"⟩
abbrev cX12_one : ByteArray := prog_14_method_21_code
def yX12_one : MethodName := ⟨RX12, "one", "()I"⟩
abbrev cX12_workOut : ByteArray := prog_14_method_22_code
def yX12_workOut : MethodName := ⟨RX12, "workOut", "(II)I"⟩
abbrev cX12_text : ByteArray := prog_14_method_23_code
def yX12_text : MethodName := ⟨RX12, "text", "(I)I"⟩
abbrev cX12_numberRead : ByteArray := prog_14_method_24_code
def yX12_numberRead : MethodName := ⟨RX12, "numberRead", "(III)I"⟩
abbrev cX12_order : ByteArray := prog_14_method_25_code
def yX12_order : MethodName := ⟨RX12, "order", "()I"⟩
abbrev cX12_of : ByteArray := prog_14_method_26_code
def yX12_of : MethodName := ⟨RX12, "of", "(I)I"⟩
abbrev cX12_begin : ByteArray := prog_14_method_27_code
def yX12_begin : MethodName := ⟨RX12, "begin", "()V"⟩
abbrev cX12_leftOf : ByteArray := prog_14_method_28_code
def yX12_leftOf : MethodName := ⟨RX12, "leftOf", "(I)I"⟩
abbrev cX12_mayBowl : ByteArray := prog_14_method_29_code
def yX12_mayBowl : MethodName := ⟨RX12, "mayBowl", "(I)Z"⟩
abbrev cX12_isEnded : ByteArray := prog_14_method_30_code
def yX12_isEnded : MethodName := ⟨RX12, "isEnded", "()Z"⟩
abbrev cX12_textGives : ByteArray := prog_14_method_31_code
def yX12_textGives : MethodName := ⟨RX12, "textGives", "(IIIII)I"⟩
abbrev cX12_outBy : ByteArray := prog_14_method_32_code
def yX12_outBy : MethodName := ⟨RX12, "outBy", "(II)I"⟩
abbrev cX12_runsBy : ByteArray := prog_14_method_33_code
def yX12_runsBy : MethodName := ⟨RX12, "runsBy", "(II)I"⟩
abbrev cX12_goes : ByteArray := prog_14_method_34_code
def yX12_goes : MethodName := ⟨RX12, "goes", "(IZ)I"⟩
abbrev cX12_goesBack : ByteArray := prog_14_method_35_code
def yX12_goesBack : MethodName := ⟨RX12, "goesBack", "(IZI)V"⟩
abbrev cX12_over : ByteArray := prog_14_method_36_code
def yX12_over : MethodName := ⟨RX12, "over", "(III)I"⟩
abbrev cX12_isRule : ByteArray := prog_14_method_37_code
def yX12_isRule : MethodName := ⟨RX12, "isRule", "(I)Z"⟩
abbrev cX12_kindOf : ByteArray := prog_14_method_38_code
def yX12_kindOf : MethodName := ⟨RX12, "kindOf", "(I)I"⟩
abbrev cX12_rule : ByteArray := prog_14_method_39_code
def yX12_rule : MethodName := ⟨RX12, "rule", "(III)I"⟩
abbrev cX12_leastBut : ByteArray := prog_14_method_40_code
def yX12_leastBut : MethodName := ⟨RX12, "leastBut", "(I)I"⟩
abbrev cX12_turnOf : ByteArray := prog_14_method_41_code
def yX12_turnOf : MethodName := ⟨RX12, "turnOf", "(II)I"⟩
abbrev cX12_worthBy : ByteArray := prog_14_method_42_code
def yX12_worthBy : MethodName := ⟨RX12, "worthBy", "(II)I"⟩
abbrev cX12_putsOn : ByteArray := prog_14_method_43_code
def yX12_putsOn : MethodName := ⟨RX12, "putsOn", "(I)I"⟩
abbrev cX12_mixed : ByteArray := prog_14_method_44_code
def yX12_mixed : MethodName := ⟨RX12, "mixed", "(III)I"⟩
abbrev cX12_forgets : ByteArray := prog_14_method_45_code
def yX12_forgets : MethodName := ⟨RX12, "forgets", "()V"⟩
abbrev cX12_spot : ByteArray := prog_14_method_46_code
def yX12_spot : MethodName := ⟨RX12, "spot", "(II)I"⟩
abbrev cX12_stateNumber : ByteArray := prog_14_method_47_code
def yX12_stateNumber : MethodName := ⟨RX12, "stateNumber", "()I"⟩
abbrev cX12_meanWith : ByteArray := prog_14_method_48_code
def yX12_meanWith : MethodName := ⟨RX12, "meanWith", "(I)I"⟩
abbrev cX12_bestFrom : ByteArray := prog_14_method_49_code
def yX12_bestFrom : MethodName := ⟨RX12, "bestFrom", "()I"⟩
abbrev cX12_meanFrom : ByteArray := prog_14_method_50_code
def yX12_meanFrom : MethodName := ⟨RX12, "meanFrom", "(I)I"⟩
abbrev cX12_likelyFrom : ByteArray := prog_14_method_51_code
def yX12_likelyFrom : MethodName := ⟨RX12, "likelyFrom", "(II)I"⟩
abbrev cX12_isBig : ByteArray := prog_14_method_52_code
def yX12_isBig : MethodName := ⟨RX12, "isBig", "()Z"⟩
abbrev cX12_puts : ByteArray := prog_14_method_53_code
def yX12_puts : MethodName := ⟨RX12, "puts", "(I)I"⟩
abbrev cX12_mean : ByteArray := prog_14_method_54_code
def yX12_mean : MethodName := ⟨RX12, "mean", "(I)I"⟩
abbrev cX12_likely : ByteArray := prog_14_method_55_code
def yX12_likely : MethodName := ⟨RX12, "likely", "(II)I"⟩
abbrev cX12_best : ByteArray := prog_14_method_56_code
def yX12_best : MethodName := ⟨RX12, "best", "(I)I"⟩
abbrev cX12_bestNow : ByteArray := prog_14_method_57_code
def yX12_bestNow : MethodName := ⟨RX12, "bestNow", "()I"⟩
abbrev cX12_worth : ByteArray := prog_14_method_58_code
def yX12_worth : MethodName := ⟨RX12, "worth", "(II)I"⟩
abbrev cX12_fielded : ByteArray := prog_14_method_59_code
def yX12_fielded : MethodName := ⟨RX12, "fielded", "(II)I"⟩
abbrev cX12_kept : ByteArray := prog_14_method_60_code
def yX12_kept : MethodName := ⟨RX12, "kept", "(I)I"⟩
abbrev cX12_orders : ByteArray := prog_14_method_61_code
def yX12_orders : MethodName := ⟨RX12, "orders", "(III)V"⟩
abbrev cX12_theirs : ByteArray := prog_14_method_62_code
def yX12_theirs : MethodName := ⟨RX12, "theirs", "(I)I"⟩
abbrev cX12_learn : ByteArray := prog_14_method_63_code
def yX12_learn : MethodName := ⟨RX12, "learn", "(II)I"⟩
abbrev cX12_goThroughBook : ByteArray := prog_14_method_64_code
def yX12_goThroughBook : MethodName := ⟨RX12, "goThroughBook", "(I)V"⟩
abbrev cX12_book : ByteArray := prog_14_method_65_code
def yX12_book : MethodName := ⟨RX12, "book", "(II)I"⟩
abbrev cX12_books : ByteArray := prog_14_method_66_code
def yX12_books : MethodName := ⟨RX12, "books", "(II)I"⟩
abbrev cX12_close : ByteArray := prog_14_method_67_code
def yX12_close : MethodName := ⟨RX12, "close", "()I"⟩
abbrev cX12_costOf : ByteArray := prog_14_method_68_code
def yX12_costOf : MethodName := ⟨RX12, "costOf", "(I)I"⟩
abbrev cX12_cost : ByteArray := prog_14_method_69_code
def yX12_cost : MethodName := ⟨RX12, "cost", "(I)I"⟩
abbrev cX12_lost : ByteArray := prog_14_method_70_code
def yX12_lost : MethodName := ⟨RX12, "lost", "(I)I"⟩
abbrev cX12_game : ByteArray := prog_14_method_71_code
def yX12_game : MethodName := ⟨RX12, "game", "(II)I"⟩
abbrev cX12_led : ByteArray := prog_14_method_72_code
def yX12_led : MethodName := ⟨RX12, "led", "(II)I"⟩
abbrev cX12_above : ByteArray := prog_14_method_73_code
def yX12_above : MethodName := ⟨RX12, "above", "(I)I"⟩
abbrev cX12_begins : ByteArray := prog_14_method_74_code
def yX12_begins : MethodName := ⟨RX12, "begins", "(I)V"⟩
abbrev cX12_putsAs : ByteArray := prog_14_method_75_code
def yX12_putsAs : MethodName := ⟨RX12, "putsAs", "(II)I"⟩
abbrev cX12_holdsAs : ByteArray := prog_14_method_76_code
def yX12_holdsAs : MethodName := ⟨RX12, "holdsAs", "(II)I"⟩
abbrev cX12_givesAs : ByteArray := prog_14_method_77_code
def yX12_givesAs : MethodName := ⟨RX12, "givesAs", "(II)I"⟩
abbrev cX12_tellsAs : ByteArray := prog_14_method_78_code
def yX12_tellsAs : MethodName := ⟨RX12, "tellsAs", "(II)I"⟩
abbrev cX12_act : ByteArray := prog_14_method_79_code
def yX12_act : MethodName := ⟨RX12, "act", "(III)I"⟩
abbrev cX12_trace : ByteArray := prog_14_method_80_code
def yX12_trace : MethodName := ⟨RX12, "trace", "(I)I"⟩
abbrev cX12_isShelf : ByteArray := prog_14_method_81_code
def yX12_isShelf : MethodName := ⟨RX12, "isShelf", "(I)Z"⟩
abbrev cX12_keep : ByteArray := prog_14_method_82_code
def yX12_keep : MethodName := ⟨RX12, "keep", "(II)I"⟩
abbrev cX12_row : ByteArray := prog_14_method_83_code
def yX12_row : MethodName := ⟨RX12, "row", "(III)I"⟩
abbrev cX12_refusal : ByteArray := prog_14_method_84_code
def yX12_refusal : MethodName := ⟨RX12, "refusal", "(II)I"⟩
abbrev cX12_asSort : ByteArray := prog_14_method_85_code
def yX12_asSort : MethodName := ⟨RX12, "asSort", "(IJ)J"⟩
abbrev cX12_put : ByteArray := prog_14_method_86_code
def yX12_put : MethodName := ⟨RX12, "put", "(IIJ)I"⟩
abbrev cX12_element : ByteArray := prog_14_method_87_code
def yX12_element : MethodName := ⟨RX12, "element", "(II)J"⟩
abbrev cX12_shift : ByteArray := prog_14_method_88_code
def yX12_shift : MethodName := ⟨RX12, "shift", "(IIIII)I"⟩
abbrev cX12_taken : ByteArray := prog_14_method_89_code
def yX12_taken : MethodName := ⟨RX12, "taken", "(II)I"⟩
abbrev cX12_count : ByteArray := prog_14_method_90_code
def yX12_count : MethodName := ⟨RX12, "count", "(I)I"⟩
def RJ9 : String := "java/lang/Math"
def TJ9 : u_T := fun k => match k with
  | _ => ("", "", "", false)
def tyJ9 : Nat → FieldType := fun k => match k with
  | _ => .int
abbrev wsJ90 : List Cond := u_ws RJ9 TJ9 0
theorem nmJ9 : ∀ a, a < 0 → ∀ b, b < 0 → a ≠ b → (TJ9 a).2.1 ≠ (TJ9 b).2.1 := by decide +kernel
theorem tyJ9_ok : ∀ k, k < 0 → parseFieldDescriptor (TJ9 k).2.2.1 = some (tyJ9 k) := by decide +kernel
abbrev cJ9_max_7cf53 : ByteArray := prog_15_method_65_code
def yJ9_max_7cf53 : MethodName := ⟨RJ9, "max", "(II)I"⟩
abbrev cJ9_min_7cf53 : ByteArray := prog_15_method_69_code
def yJ9_min_7cf53 : MethodName := ⟨RJ9, "min", "(II)I"⟩
def RJ10 : String := "java/lang/System"
def TJ10 : u_T := fun k => match k with
  | _ => ("", "", "", false)
def tyJ10 : Nat → FieldType := fun k => match k with
  | _ => .int
abbrev wsJ100 : List Cond := u_ws RJ10 TJ10 0
theorem nmJ10 : ∀ a, a < 0 → ∀ b, b < 0 → a ≠ b → (TJ10 a).2.1 ≠ (TJ10 b).2.1 := by decide +kernel
theorem tyJ10_ok : ∀ k, k < 0 → parseFieldDescriptor (TJ10 k).2.2.1 = some (tyJ10 k) := by decide +kernel
def RL : String := "ChangeBowlerLaw"
abbrev cL_law : ByteArray := code
def yL_law : MethodName := ⟨RL, "law", "([I)Z"⟩
def wsL_law_r1 : List Cond := [Cond.classLink RL 7 RX11, Cond.instantiable RX11 12, Cond.initialized RX11, Cond.classLink RL 10 RX12, Cond.instantiable RX12 62, Cond.initialized RX12, Cond.constantLong RL 145 (4294967295), Cond.methodLink RL 9 yX11_init, Cond.instanceMethod yX11_init, Cond.code yX11_init cX11_init 1 none, Cond.methodLink RX11 1 objectInit, Cond.instanceMethod objectInit, Cond.code objectInit ⟨#[0xb1]⟩ 1 none, Cond.classLink RX11 7 RX4, Cond.instantiable RX4 10, Cond.initialized RX4, Cond.fieldLink RX11 10 "ChangeBowler" "numbers" "LChangeBowler$Numbers;", Cond.classLink RX11 16 RX7, Cond.instantiable RX7 6, Cond.initialized RX7, Cond.fieldLink RX11 19 "ChangeBowler" "reader" "LChangeBowler$Reader;", Cond.classLink RX11 23 RX6, Cond.instantiable RX6 4, Cond.initialized RX6]
def wsL_law_r2 : List Cond := [Cond.fieldLink RX11 26 "ChangeBowler" "order" "LChangeBowler$Order;", Cond.classLink RX11 30 RX10, Cond.instantiable RX10 5, Cond.initialized RX10, Cond.fieldLink RX11 33 "ChangeBowler" "told" "LChangeBowler$Text;", Cond.fieldLink RX11 37 "ChangeBowler" "ball" "LChangeBowler$Text;", Cond.classLink RX11 40 RX5, Cond.instantiable RX5 8, Cond.initialized RX5, Cond.fieldLink RX11 45 "ChangeBowler" "odds" "LChangeBowler$Odds;", Cond.classLink RX11 49 RX1, Cond.instantiable RX1 13, Cond.initialized RX1, Cond.fieldLink RX11 54 "ChangeBowler" "best" "LChangeBowler$Best;", Cond.classLink RX11 58 RX8, Cond.instantiable RX8 6, Cond.initialized RX8, Cond.fieldLink RX11 61 "ChangeBowler" "rules" "LChangeBowler$Rules;", Cond.classLink RX11 65 RX3, Cond.instantiable RX3 9, Cond.initialized RX3, Cond.fieldLink RX11 70 "ChangeBowler" "captain" "LChangeBowler$Captain;", Cond.classLink RX11 74 RX2, Cond.instantiable RX2 3]
def wsL_law_r3 : List Cond := [Cond.initialized RX2, Cond.fieldLink RX11 77 "ChangeBowler" "book" "LChangeBowler$Book;", Cond.classLink RX11 81 RX9, Cond.instantiable RX9 5, Cond.initialized RX9, Cond.fieldLink RX11 86 "ChangeBowler" "shelves" "LChangeBowler$Shelves;", Cond.arrayClass .int, Cond.fieldLink RX11 90 "ChangeBowler" "turned" "[I", Cond.instanceMethod yX4_init, Cond.code yX4_init cX4_init 1 none, Cond.methodLink RX4 3 objectInit, Cond.fieldLink RX4 11 "ChangeBowler$Numbers" "told" "[I", Cond.fieldLink RX4 15 "ChangeBowler$Numbers" "tires" "[I", Cond.fieldLink RX4 18 "ChangeBowler$Numbers" "costs" "[I", Cond.fieldLink RX4 21 "ChangeBowler$Numbers" "places" "[I", Cond.fieldLink RX4 24 "ChangeBowler$Numbers" "befores" "[I", Cond.fieldLink RX4 27 "ChangeBowler$Numbers" "afters" "[I", Cond.instanceMethod yX7_init, Cond.code yX7_init cX7_init 1 none, Cond.methodLink RX7 1 objectInit, Cond.fieldLink RX7 9 "ChangeBowler$Reader" "tape" "[I", Cond.fieldLink RX7 15 "ChangeBowler$Reader" "sorts" "[I", Cond.classLink RX7 18 RX10, Cond.fieldLink RX7 21 "ChangeBowler$Reader" "made" "LChangeBowler$Text;"]
def wsL_law_r4 : List Cond := [Cond.instanceMethod yX10_init, Cond.code yX10_init cX10_init 1 none, Cond.methodLink RX10 1 objectInit, Cond.fieldLink RX10 9 "ChangeBowler$Text" "code" "[I", Cond.fieldLink RX10 13 "ChangeBowler$Text" "names" "[I", Cond.fieldLink RX10 16 "ChangeBowler$Text" "stack" "[I", Cond.instanceMethod yX6_init, Cond.code yX6_init cX6_init 1 none, Cond.methodLink RX6 3 objectInit, Cond.fieldLink RX6 9 "ChangeBowler$Order" "size" "I", Cond.fieldLink RX6 15 "ChangeBowler$Order" "overs" "I", Cond.fieldLink RX6 18 "ChangeBowler$Order" "sorts" "[I", Cond.methodLink RX11 42 yX5_init, Cond.instanceMethod yX5_init, Cond.code yX5_init cX5_init 3 none, Cond.methodLink RX5 5 objectInit, Cond.fieldLink RX5 11 "ChangeBowler$Odds" "outs" "[I", Cond.fieldLink RX5 15 "ChangeBowler$Odds" "runs" "[I", Cond.fieldLink RX5 18 "ChangeBowler$Odds" "keys" "[I", Cond.fieldLink RX5 21 "ChangeBowler$Odds" "gifts" "[I", Cond.fieldLink RX5 24 "ChangeBowler$Odds" "texts" "I", Cond.fieldLink RX5 28 "ChangeBowler$Odds" "numbers" "LChangeBowler$Numbers;", Cond.fieldLink RX5 32 "ChangeBowler$Odds" "ball" "LChangeBowler$Text;", Cond.methodLink RX11 51 yX1_init]
def wsL_law_r5 : List Cond := [Cond.instanceMethod yX1_init, Cond.code yX1_init cX1_init 3 none, Cond.methodLink RX1 7 objectInit, Cond.fieldLink RX1 13 "ChangeBowler$Best" "keys" "[I", Cond.fieldLink RX1 17 "ChangeBowler$Best" "next" "[I", Cond.fieldLink RX1 20 "ChangeBowler$Best" "values" "[I", Cond.fieldLink RX1 23 "ChangeBowler$Best" "whoms" "[I", Cond.fieldLink RX1 26 "ChangeBowler$Best" "slots" "[I", Cond.fieldLink RX1 29 "ChangeBowler$Best" "slotOf" "[I", Cond.fieldLink RX1 32 "ChangeBowler$Best" "root" "I", Cond.fieldLink RX1 36 "ChangeBowler$Best" "odds" "LChangeBowler$Odds;", Cond.fieldLink RX1 40 "ChangeBowler$Best" "order" "LChangeBowler$Order;", Cond.instanceMethod yX8_init, Cond.code yX8_init cX8_init 1 none, Cond.methodLink RX8 3 objectInit, Cond.fieldLink RX8 11 "ChangeBowler$Rules" "kinds" "[I", Cond.fieldLink RX8 15 "ChangeBowler$Rules" "rows" "[I", Cond.fieldLink RX8 18 "ChangeBowler$Rules" "numbers" "[I", Cond.fieldLink RX8 21 "ChangeBowler$Rules" "bodies" "[I", Cond.methodLink RX11 67 yX3_init, Cond.instanceMethod yX3_init, Cond.code yX3_init cX3_init 6 none, Cond.methodLink RX3 3 objectInit, Cond.fieldLink RX3 9 "ChangeBowler$Captain" "leaders" "[I"]
def wsL_law_r6 : List Cond := [Cond.fieldLink RX3 15 "ChangeBowler$Captain" "gone" "[I", Cond.fieldLink RX3 18 "ChangeBowler$Captain" "outs" "[I", Cond.fieldLink RX3 21 "ChangeBowler$Captain" "rules" "LChangeBowler$Rules;", Cond.fieldLink RX3 25 "ChangeBowler$Captain" "odds" "LChangeBowler$Odds;", Cond.fieldLink RX3 29 "ChangeBowler$Captain" "best" "LChangeBowler$Best;", Cond.fieldLink RX3 33 "ChangeBowler$Captain" "order" "LChangeBowler$Order;", Cond.fieldLink RX3 37 "ChangeBowler$Captain" "told" "LChangeBowler$Text;", Cond.instanceMethod yX2_init, Cond.code yX2_init cX2_init 1 none, Cond.methodLink RX2 3 objectInit, Cond.fieldLink RX2 11 "ChangeBowler$Book" "who" "[I", Cond.fieldLink RX2 15 "ChangeBowler$Book" "out" "[I", Cond.methodLink RX11 83 yX9_init, Cond.instanceMethod yX9_init, Cond.code yX9_init cX9_init 3 none, Cond.methodLink RX9 3 objectInit, Cond.fieldLink RX9 11 "ChangeBowler$Shelves" "sorts" "[I", Cond.fieldLink RX9 15 "ChangeBowler$Shelves" "lengths" "[I", Cond.fieldLink RX9 18 "ChangeBowler$Shelves" "ruled" "[I", Cond.arrayClass .long, Cond.fieldLink RX9 21 "ChangeBowler$Shelves" "elements" "[J", Cond.fieldLink RX9 25 "ChangeBowler$Shelves" "rules" "LChangeBowler$Rules;", Cond.methodLink RL 12 yX12_init, Cond.instanceMethod yX12_init]
def wsL_law_r7 : List Cond := [Cond.code yX12_init cX12_init 2 none, Cond.methodLink RX12 1 objectInit, Cond.fieldLink RX12 7 "ChangeBowlerModel" "may" "[I", Cond.fieldLink RX12 13 "ChangeBowlerModel" "changeAt" "[I", Cond.fieldLink RX12 16 "ChangeBowlerModel" "changeWas" "[I", Cond.fieldLink RX12 19 "ChangeBowlerModel" "changeIs" "[I", Cond.fieldLink RX12 22 "ChangeBowlerModel" "tires" "[I", Cond.fieldLink RX12 25 "ChangeBowlerModel" "cost" "[I", Cond.fieldLink RX12 28 "ChangeBowlerModel" "sortOf" "[I", Cond.fieldLink RX12 31 "ChangeBowlerModel" "tape" "[I", Cond.fieldLink RX12 34 "ChangeBowlerModel" "text" "[I", Cond.fieldLink RX12 37 "ChangeBowlerModel" "textMany" "[I", Cond.fieldLink RX12 40 "ChangeBowlerModel" "names" "[I", Cond.fieldLink RX12 43 "ChangeBowlerModel" "readSort" "[I", Cond.fieldLink RX12 46 "ChangeBowlerModel" "steps" "[I", Cond.fieldLink RX12 49 "ChangeBowlerModel" "bowled" "[I", Cond.fieldLink RX12 52 "ChangeBowlerModel" "without" "I", Cond.fieldLink RX12 56 "ChangeBowlerModel" "oneMore" "I", Cond.fieldLink RX12 59 "ChangeBowlerModel" "kind" "[I", Cond.fieldLink RX12 62 "ChangeBowlerModel" "rowMany" "[I", Cond.fieldLink RX12 65 "ChangeBowlerModel" "rowOf" "[I", Cond.fieldLink RX12 68 "ChangeBowlerModel" "kOf" "[I", Cond.constant RX12 71 (65536), Cond.fieldLink RX12 72 "ChangeBowlerModel" "keptState" "[I"]
def wsL_law_r8 : List Cond := [Cond.fieldLink RX12 75 "ChangeBowlerModel" "keptOuts" "[I", Cond.fieldLink RX12 78 "ChangeBowlerModel" "keptMean" "[I", Cond.fieldLink RX12 81 "ChangeBowlerModel" "keptWhom" "[I", Cond.fieldLink RX12 84 "ChangeBowlerModel" "stampOf" "[I", Cond.fieldLink RX12 87 "ChangeBowlerModel" "ownSort" "[I", Cond.fieldLink RX12 90 "ChangeBowlerModel" "bookBy" "[I", Cond.fieldLink RX12 93 "ChangeBowlerModel" "bookOut" "[I", Cond.fieldLink RX12 96 "ChangeBowlerModel" "ledBy" "[I", Cond.fieldLink RX12 99 "ChangeBowlerModel" "ledRuns" "[I", Cond.fieldLink RX12 102 "ChangeBowlerModel" "ledOut" "[I", Cond.fieldLink RX12 105 "ChangeBowlerModel" "trace" "[I", Cond.fieldLink RX12 108 "ChangeBowlerModel" "shelf" "[I", Cond.fieldLink RX12 111 "ChangeBowlerModel" "many" "[I", Cond.fieldLink RX12 114 "ChangeBowlerModel" "items" "[J", Cond.fieldLink RX12 118 "ChangeBowlerModel" "carried" "[J", Cond.fieldLink RX12 121 "ChangeBowlerModel" "men" "I", Cond.fieldLink RX12 124 "ChangeBowlerModel" "overs" "I", Cond.methodLink RL 13 yX11_bowler, Cond.instanceMethod yX11_bowler, Cond.selects RX11 yX11_bowler yX11_bowler, Cond.code yX11_bowler cX11_bowler 4 (some .int), Cond.fieldLink RX11 98 "ChangeBowler$Numbers" "bowlers" "I", Cond.methodLink RX11 94 yX11_outside, Cond.static yX11_outside]
def wsL_law_r9 : List Cond := [Cond.code yX11_outside cX11_outside 3 (some .boolean), Cond.methodLink RX11 102 yX4_join, Cond.instanceMethod yX4_join, Cond.selects RX4 yX4_join yX4_join, Cond.code yX4_join cX4_join 6 (some .int), Cond.fieldLink RX4 30 "ChangeBowler$Numbers" "bowlers" "I", Cond.methodLink RL 17 yX12_bowler, Cond.instanceMethod yX12_bowler, Cond.selects RX12 yX12_bowler yX12_bowler, Cond.code yX12_bowler cX12_bowler 4 (some .int), Cond.constantLong RX12 140 (8), Cond.constantLong RX12 142 (50), Cond.constantLong RX12 144 (20), Cond.fieldLink RX12 133 "ChangeBowlerModel" "bowlers" "I", Cond.methodLink RX12 136 yX12_within, Cond.static yX12_within, Cond.code yX12_within cX12_within 6 (some .boolean), Cond.methodLink RL 18 yX11_edge, Cond.instanceMethod yX11_edge, Cond.selects RX11 yX11_edge yX11_edge, Cond.code yX11_edge cX11_edge 5 (some .int), Cond.constant RX11 117 (-2000000000), Cond.methodLink RX11 106 yX11_edgePlace, Cond.instanceMethod yX11_edgePlace]
def wsL_law_r10 : List Cond := [Cond.selects RX11 yX11_edgePlace yX11_edgePlace, Cond.code yX11_edgePlace cX11_edgePlace 3 (some .int), Cond.methodLink RX11 152 yX11_noBowler, Cond.instanceMethod yX11_noBowler, Cond.selects RX11 yX11_noBowler yX11_noBowler, Cond.code yX11_noBowler cX11_noBowler 2 (some .boolean), Cond.methodLink RX11 110 yX4_lowest, Cond.static yX4_lowest, Cond.code yX4_lowest cX4_lowest 1 (some .int), Cond.methodLink RX11 114 yX4_highest, Cond.static yX4_highest, Cond.code yX4_highest cX4_highest 1 (some .int), Cond.methodLink RX11 118 yX4_change, Cond.instanceMethod yX4_change, Cond.selects RX4 yX4_change yX4_change, Cond.code yX4_change cX4_change 4 (some .int), Cond.constant RX4 53 (-2000000000), Cond.fieldLink RX4 54 "ChangeBowler$Numbers" "done" "I", Cond.fieldLink RX4 60 "ChangeBowler$Numbers" "undone" "I", Cond.methodLink RX4 57 yX4_dropOldest, Cond.instanceMethod yX4_dropOldest, Cond.selects RX4 yX4_dropOldest yX4_dropOldest, Cond.code yX4_dropOldest cX4_dropOldest 2 none, Cond.methodLink RL 21 yX12_edge]
def wsL_law_r11 : List Cond := [Cond.instanceMethod yX12_edge, Cond.selects RX12 yX12_edge yX12_edge, Cond.code yX12_edge cX12_edge 5 (some .int), Cond.constantLong RX12 150 (2), Cond.constant RX12 152 (-2000000000), Cond.constantLong RX12 157 (500), Cond.constantLong RX12 159 (-9), Cond.constantLong RX12 161 (9), Cond.methodLink RX12 146 yX12_isBowler, Cond.instanceMethod yX12_isBowler, Cond.selects RX12 yX12_isBowler yX12_isBowler, Cond.code yX12_isBowler cX12_isBowler 2 (some .boolean), Cond.methodLink RX12 153 yX12_becomes, Cond.instanceMethod yX12_becomes, Cond.selects RX12 yX12_becomes yX12_becomes, Cond.code yX12_becomes cX12_becomes 5 (some .int), Cond.fieldLink RX12 127 "ChangeBowlerModel" "done" "I", Cond.fieldLink RX12 130 "ChangeBowlerModel" "keptMany" "I", Cond.methodLink RL 22 yX11_field, Cond.instanceMethod yX11_field, Cond.selects RX11 yX11_field yX11_field, Cond.code yX11_field cX11_field 5 (some .int), Cond.methodLink RL 25 yX12_field, Cond.instanceMethod yX12_field]
def wsL_law_r12 : List Cond := [Cond.selects RX12 yX12_field yX12_field, Cond.code yX12_field cX12_field 5 (some .int), Cond.constantLong RX12 163 (-200), Cond.constantLong RX12 165 (200), Cond.methodLink RL 26 yX11_set, Cond.instanceMethod yX11_set, Cond.selects RX11 yX11_set yX11_set, Cond.code yX11_set cX11_set 3 (some .int), Cond.fieldLink RX11 121 "ChangeBowler$Numbers" "field" "I", Cond.methodLink RL 30 yX12_set, Cond.instanceMethod yX12_set, Cond.selects RX12 yX12_set yX12_set, Cond.code yX12_set cX12_set 3 (some .int), Cond.constantLong RX12 167 (3), Cond.fieldLink RX12 169 "ChangeBowlerModel" "fieldSet" "I", Cond.methodLink RL 31 yX11_feed, Cond.instanceMethod yX11_feed, Cond.selects RX11 yX11_feed yX11_feed, Cond.code yX11_feed cX11_feed 3 (some .int), Cond.fieldLink RX11 124 "ChangeBowler$Reader" "size" "I", Cond.methodLink RX11 127 yX7_take, Cond.instanceMethod yX7_take, Cond.selects RX7 yX7_take yX7_take, Cond.code yX7_take cX7_take 4 (some .int)]
def wsL_law_r13 : List Cond := [Cond.fieldLink RX7 25 "ChangeBowler$Reader" "size" "I", Cond.methodLink RL 35 yX12_feed, Cond.instanceMethod yX12_feed, Cond.selects RX12 yX12_feed yX12_feed, Cond.code yX12_feed cX12_feed 4 (some .int), Cond.constantLong RX12 172 (4), Cond.fieldLink RX12 174 "ChangeBowlerModel" "tapeMany" "I", Cond.methodLink RL 36 yX11_order, Cond.instanceMethod yX11_order, Cond.selects RX11 yX11_order yX11_order, Cond.code yX11_order cX11_order 2 (some .int), Cond.fieldLink RX11 134 "ChangeBowler$Book" "size" "I", Cond.fieldLink RX11 135 "ChangeBowler$Order" "size" "I", Cond.methodLink RX11 130 yX7_readOrder, Cond.instanceMethod yX7_readOrder, Cond.selects RX7 yX7_readOrder yX7_readOrder, Cond.code yX7_readOrder cX7_readOrder 6 (some .int), Cond.fieldLink RX7 29 "ChangeBowler$Reader" "at" "I", Cond.fieldLink RX7 60 "ChangeBowler$Order" "size" "I", Cond.fieldLink RX7 61 "ChangeBowler$Order" "overs" "I", Cond.fieldLink RX7 64 "ChangeBowler$Order" "rain" "I", Cond.fieldLink RX7 67 "ChangeBowler$Order" "sorts" "[I", Cond.methodLink RX7 68 arraycopyName, Cond.native arraycopyName]
def wsL_law_r14 : List Cond := [Cond.static arraycopyName, Cond.initialized "java/lang/System", Cond.methodLink RX7 47 yX7_begin, Cond.instanceMethod yX7_begin, Cond.selects RX7 yX7_begin yX7_begin, Cond.code yX7_begin cX7_begin 1 none, Cond.fieldLink RX7 32 "ChangeBowler$Reader" "fault" "I", Cond.methodLink RX7 35 yX7_sign, Cond.instanceMethod yX7_sign, Cond.selects RX7 yX7_sign yX7_sign, Cond.code yX7_sign cX7_sign 1 (some .int), Cond.methodLink RX7 43 yX7_fail, Cond.instanceMethod yX7_fail, Cond.selects RX7 yX7_fail yX7_fail, Cond.code yX7_fail cX7_fail 2 none, Cond.methodLink RX7 50 yX7_skip, Cond.instanceMethod yX7_skip, Cond.selects RX7 yX7_skip yX7_skip, Cond.code yX7_skip cX7_skip 2 (some .boolean), Cond.methodLink RX7 53 yX7_number, Cond.instanceMethod yX7_number, Cond.selects RX7 yX7_number yX7_number, Cond.code yX7_number cX7_number 4 (some .int), Cond.methodLink RX7 39 yX7_isDigit]
def wsL_law_r15 : List Cond := [Cond.static yX7_isDigit, Cond.code yX7_isDigit cX7_isDigit 1 (some .boolean), Cond.methodLink RX7 57 yX7_end, Cond.instanceMethod yX7_end, Cond.selects RX7 yX7_end yX7_end, Cond.code yX7_end cX7_end 1 (some .int), Cond.methodLink RL 40 yX12_order, Cond.instanceMethod yX12_order, Cond.selects RX12 yX12_order yX12_order, Cond.code yX12_order cX12_order 5 (some .int), Cond.fieldLink RX12 183 "ChangeBowlerModel" "base" "I", Cond.fieldLink RX12 177 "ChangeBowlerModel" "at" "I", Cond.fieldLink RX12 180 "ChangeBowlerModel" "ends" "I", Cond.fieldLink RX12 186 "ChangeBowlerModel" "fault" "I", Cond.fieldLink RX12 231 "ChangeBowlerModel" "rain" "I", Cond.fieldLink RX12 234 "ChangeBowlerModel" "booked" "I", Cond.methodLink RX12 189 yX12_byteAt, Cond.instanceMethod yX12_byteAt, Cond.selects RX12 yX12_byteAt yX12_byteAt, Cond.code yX12_byteAt cX12_byteAt 1 (some .int), Cond.methodLink RX12 214 yX12_wrong, Cond.instanceMethod yX12_wrong, Cond.selects RX12 yX12_wrong yX12_wrong, Cond.code yX12_wrong cX12_wrong 1 (some .int)]
def wsL_law_r16 : List Cond := [Cond.methodLink RX12 196 yX12_takes, Cond.instanceMethod yX12_takes, Cond.selects RX12 yX12_takes yX12_takes, Cond.code yX12_takes cX12_takes 2 (some .boolean), Cond.methodLink RX12 227 yX12_numberRead, Cond.instanceMethod yX12_numberRead, Cond.selects RX12 yX12_numberRead yX12_numberRead, Cond.code yX12_numberRead cX12_numberRead 6 (some .int), Cond.methodLink RL 41 yX11_text, Cond.instanceMethod yX11_text, Cond.selects RX11 yX11_text yX11_text, Cond.code yX11_text cX11_text 3 (some .int), Cond.methodLink RX11 136 yX7_readText, Cond.instanceMethod yX7_readText, Cond.selects RX7 yX7_readText yX7_readText, Cond.code yX7_readText cX7_readText 3 (some .int), Cond.methodLink RX7 74 yX10_begin, Cond.instanceMethod yX10_begin, Cond.selects RX10 yX10_begin yX10_begin, Cond.code yX10_begin cX10_begin 1 none, Cond.fieldLink RX10 19 "ChangeBowler$Text" "length" "I", Cond.fieldLink RX10 23 "ChangeBowler$Text" "named" "I", Cond.methodLink RX7 75 yX7_readLine, Cond.instanceMethod yX7_readLine]
def wsL_law_r17 : List Cond := [Cond.selects RX7 yX7_readLine yX7_readLine, Cond.code yX7_readLine cX7_readLine 2 none, Cond.fieldLink RX7 89 "ChangeBowler$Text" "length" "I", Cond.fieldLink RX7 92 "ChangeBowler$Text" "code" "[I", Cond.methodLink RX7 82 yX7_part, Cond.instanceMethod yX7_part, Cond.selects RX7 yX7_part yX7_part, Cond.code yX7_part cX7_part 5 none, Cond.methodLink RX7 95 yX7_operand, Cond.instanceMethod yX7_operand, Cond.selects RX7 yX7_operand yX7_operand, Cond.methodLink RX7 98 yX7_levelOf, Cond.static yX7_levelOf, Cond.code yX7_levelOf cX7_levelOf 1 (some .int), Cond.methodLink RX7 86 yX10_add, Cond.instanceMethod yX10_add, Cond.selects RX10 yX10_add yX10_add, Cond.code yX10_add cX10_add 2 none, Cond.code yX7_operand cX7_operand 3 none, Cond.methodLink RX7 101 yX7_nameOf, Cond.static yX7_nameOf, Cond.code yX7_nameOf cX7_nameOf 1 (some .int), Cond.methodLink RX7 78 yX10_copyFrom, Cond.instanceMethod yX10_copyFrom]
def wsL_law_r18 : List Cond := [Cond.selects RX10 yX10_copyFrom yX10_copyFrom, Cond.code yX10_copyFrom cX10_copyFrom 2 none, Cond.methodLink RX10 26 arraycopyName, Cond.methodLink RX11 140 yX5_forget, Cond.instanceMethod yX5_forget, Cond.selects RX5 yX5_forget yX5_forget, Cond.code yX5_forget cX5_forget 2 none, Cond.fieldLink RX5 54 "ChangeBowler$Odds" "asked" "I", Cond.fieldLink RX5 57 "ChangeBowler$Odds" "NAME_BITS" "[I", Cond.methodLink RX5 60 yX10_uses, Cond.instanceMethod yX10_uses, Cond.selects RX10 yX10_uses yX10_uses, Cond.code yX10_uses cX10_uses 2 (some .boolean), Cond.methodLink RL 44 yX12_text, Cond.instanceMethod yX12_text, Cond.selects RX12 yX12_text yX12_text, Cond.code yX12_text cX12_text 5 (some .int), Cond.methodLink RX12 224 yX12_workOut, Cond.instanceMethod yX12_workOut, Cond.selects RX12 yX12_workOut yX12_workOut, Cond.code yX12_workOut cX12_workOut 8 (some .int), Cond.fieldLink RX12 211 "ChangeBowlerModel" "opened" "I", Cond.methodLink RX12 217 yX12_either, Cond.instanceMethod yX12_either]
def wsL_law_r19 : List Cond := [Cond.selects RX12 yX12_either yX12_either, Cond.code yX12_either cX12_either 3 (some .int), Cond.methodLink RX12 193 yX12_both, Cond.instanceMethod yX12_both, Cond.selects RX12 yX12_both yX12_both, Cond.code yX12_both cX12_both 3 (some .int), Cond.methodLink RX12 199 yX12_compared, Cond.instanceMethod yX12_compared, Cond.selects RX12 yX12_compared yX12_compared, Cond.code yX12_compared cX12_compared 4 (some .int), Cond.methodLink RX12 202 yX12_sums, Cond.instanceMethod yX12_sums, Cond.selects RX12 yX12_sums yX12_sums, Cond.code yX12_one cX12_one 5 (some .int), Cond.methodLink RX12 208 yX12_one, Cond.instanceMethod yX12_one, Cond.selects RX12 yX12_one yX12_one, Cond.methodLink RX12 220 yX12_nameOf, Cond.static yX12_nameOf, Cond.code yX12_nameOf cX12_nameOf 1 (some .int), Cond.code yX12_product cX12_product 4 (some .int), Cond.code yX12_sums cX12_sums 4 (some .int), Cond.methodLink RX12 205 yX12_product, Cond.instanceMethod yX12_product]
def wsL_law_r20 : List Cond := [Cond.selects RX12 yX12_product yX12_product, Cond.methodLink RL 45 yX11_of, Cond.instanceMethod yX11_of, Cond.selects RX11 yX11_of yX11_of, Cond.code yX11_of cX11_of 2 (some .int), Cond.fieldLink RX11 143 "ChangeBowler$Order" "overs" "I", Cond.fieldLink RX11 146 "ChangeBowler$Order" "rain" "I", Cond.methodLink RX11 149 yX6_sortAt, Cond.instanceMethod yX6_sortAt, Cond.selects RX6 yX6_sortAt yX6_sortAt, Cond.code yX6_sortAt cX6_sortAt 2 (some .int), Cond.methodLink RL 48 yX12_of, Cond.instanceMethod yX12_of, Cond.selects RX12 yX12_of yX12_of, Cond.code yX12_of cX12_of 2 (some .int), Cond.methodLink RL 49 yX11_over, Cond.instanceMethod yX11_over, Cond.selects RX11 yX11_over yX11_over, Cond.code yX11_over cX11_over 7 (some .int), Cond.methodLink RX11 156 yX5_lay, Cond.instanceMethod yX5_lay, Cond.selects RX5 yX5_lay yX5_lay, Cond.code yX5_lay cX5_lay 7 none, Cond.methodLink RX5 49 Lib.Math.max.name]
def wsL_law_r21 : List Cond := [Cond.static Lib.Math.max.name, Cond.initialized "java/lang/Math", Cond.code Lib.Math.max.name Lib.Math.max.code 2 (some .int), Cond.methodLink RX5 36 yX4_edgeIn, Cond.instanceMethod yX4_edgeIn, Cond.selects RX4 yX4_edgeIn yX4_edgeIn, Cond.code yX4_edgeIn cX4_edgeIn 4 (some .int), Cond.methodLink RX4 34 yX4_at, Cond.instanceMethod yX4_at, Cond.selects RX4 yX4_at yX4_at, Cond.code yX4_at cX4_at 2 (some .int), Cond.methodLink RX5 42 yX4_runsIn, Cond.instanceMethod yX4_runsIn, Cond.selects RX4 yX4_runsIn yX4_runsIn, Cond.code yX4_runsIn cX4_runsIn 4 (some .int), Cond.methodLink RX5 45 yX4_freshness, Cond.instanceMethod yX4_freshness, Cond.selects RX4 yX4_freshness yX4_freshness, Cond.code yX4_freshness cX4_freshness 3 (some .int), Cond.methodLink RX4 47 Lib.Math.max.name, Cond.methodLink RX11 160 yX5_runsOf, Cond.instanceMethod yX5_runsOf, Cond.selects RX5 yX5_runsOf yX5_runsOf, Cond.code yX5_runsOf cX5_runsOf 5 (some .int)]
def wsL_law_r22 : List Cond := [Cond.methodLink RX11 163 yX4_oversOf, Cond.instanceMethod yX4_oversOf, Cond.selects RX4 yX4_oversOf yX4_oversOf, Cond.code yX4_oversOf cX4_oversOf 2 (some .int), Cond.methodLink RX11 166 yX5_outOf, Cond.instanceMethod yX5_outOf, Cond.selects RX5 yX5_outOf yX5_outOf, Cond.code yX5_outOf cX5_outOf 11 (some .int), Cond.fieldLink RX5 66 "ChangeBowler$Text" "length" "I", Cond.constant RX5 69 (-1640531527), Cond.methodLink RX5 78 Lib.Math.min.name, Cond.static Lib.Math.min.name, Cond.code Lib.Math.min.name Lib.Math.min.code 2 (some .int), Cond.methodLink RX5 70 yX10_say, Cond.instanceMethod yX10_say, Cond.selects RX10 yX10_say yX10_say, Cond.code yX10_say cX10_say 7 none, Cond.methodLink RX5 74 yX10_worked, Cond.instanceMethod yX10_worked, Cond.selects RX10 yX10_worked yX10_worked, Cond.code yX10_worked cX10_worked 5 (some .int), Cond.methodLink RX10 32 Lib.Math.max.name, Cond.methodLink RX10 38 yX10_joined, Cond.static yX10_joined]
def wsL_law_r23 : List Cond := [Cond.code yX10_joined cX10_joined 3 (some .int), Cond.methodLink RL 52 yX12_over, Cond.instanceMethod yX12_over, Cond.selects RX12 yX12_over yX12_over, Cond.code yX12_over cX12_over 6 (some .int), Cond.fieldLink RX12 240 "ChangeBowlerModel" "did" "I", Cond.fieldLink RX12 237 "ChangeBowlerModel" "out" "I", Cond.methodLink RX12 256 yX12_begin, Cond.instanceMethod yX12_begin, Cond.selects RX12 yX12_begin yX12_begin, Cond.code yX12_begin cX12_begin 2 none, Cond.fieldLink RX12 243 "ChangeBowlerModel" "last" "I", Cond.methodLink RX12 259 yX12_outBy, Cond.instanceMethod yX12_outBy, Cond.selects RX12 yX12_outBy yX12_outBy, Cond.code yX12_outBy cX12_outBy 5 (some .int), Cond.methodLink RX12 252 yX12_textGives, Cond.instanceMethod yX12_textGives, Cond.selects RX12 yX12_textGives yX12_textGives, Cond.code yX12_textGives cX12_textGives 6 (some .int), Cond.methodLink RX12 246 yX12_leftOf, Cond.instanceMethod yX12_leftOf, Cond.selects RX12 yX12_leftOf yX12_leftOf, Cond.code yX12_leftOf cX12_leftOf 2 (some .int)]
def wsL_law_r24 : List Cond := [Cond.methodLink RX12 262 yX12_runsBy, Cond.instanceMethod yX12_runsBy, Cond.selects RX12 yX12_runsBy yX12_runsBy, Cond.code yX12_runsBy cX12_runsBy 4 (some .int), Cond.methodLink RL 53 yX11_rule, Cond.instanceMethod yX11_rule, Cond.selects RX11 yX11_rule yX11_rule, Cond.code yX11_rule cX11_rule 4 (some .int), Cond.fieldLink RX11 173 "ChangeBowler$Rules" "size" "I", Cond.methodLink RX11 170 yX8_rowIsRight, Cond.static yX8_rowIsRight, Cond.code yX8_rowIsRight cX8_rowIsRight 3 (some .boolean), Cond.constant RX8 24 (99999999), Cond.methodLink RX11 174 yX8_make, Cond.instanceMethod yX8_make, Cond.selects RX8 yX8_make yX8_make, Cond.code yX8_make cX8_make 4 (some .int), Cond.fieldLink RX8 32 "ChangeBowler$Rules" "size" "I", Cond.methodLink RL 56 yX12_rule, Cond.instanceMethod yX12_rule, Cond.selects RX12 yX12_rule yX12_rule, Cond.code yX12_rule cX12_rule 7 (some .int), Cond.constantLong RX12 268 (6), Cond.constantLong RX12 270 (44444444)]
def wsL_law_r25 : List Cond := [Cond.constantLong RX12 272 (12), Cond.fieldLink RX12 265 "ChangeBowlerModel" "rules" "I", Cond.methodLink RL 57 yX11_puts, Cond.instanceMethod yX11_puts, Cond.selects RX11 yX11_puts yX11_puts, Cond.code yX11_puts cX11_puts 6 (some .int), Cond.methodLink RX11 177 yX11_noRule, Cond.instanceMethod yX11_noRule, Cond.selects RX11 yX11_noRule yX11_noRule, Cond.code yX11_noRule cX11_noRule 2 (some .boolean), Cond.methodLink RX11 180 yX2_outs, Cond.instanceMethod yX2_outs, Cond.selects RX2 yX2_outs yX2_outs, Cond.code yX2_outs cX2_outs 4 (some .int), Cond.fieldLink RX2 18 "ChangeBowler$Book" "size" "I", Cond.methodLink RX11 183 yX8_kindOf, Cond.instanceMethod yX8_kindOf, Cond.selects RX8 yX8_kindOf yX8_kindOf, Cond.code yX8_kindOf cX8_kindOf 2 (some .int), Cond.methodLink RX11 186 yX2_attackAhead, Cond.instanceMethod yX2_attackAhead, Cond.selects RX2 yX2_attackAhead yX2_attackAhead, Cond.code yX2_attackAhead cX2_attackAhead 5 (some .int), Cond.methodLink RX2 28 yX4_freshAttack]
def wsL_law_r26 : List Cond := [Cond.instanceMethod yX4_freshAttack, Cond.selects RX4 yX4_freshAttack yX4_freshAttack, Cond.code yX4_freshAttack cX4_freshAttack 3 (some .int), Cond.methodLink RX4 38 yX4_oversOf, Cond.methodLink RX4 41 yX0_withLeft, Cond.static yX0_withLeft, Cond.initialized RX0, Cond.code yX0_withLeft cX0_withLeft 4 (some .int), Cond.methodLink RX2 32 yX0_after, Cond.static yX0_after, Cond.code yX0_after cX0_after 5 (some .int), Cond.methodLink RX0 26 Lib.Math.min.name, Cond.methodLink RX0 31 Lib.Math.max.name, Cond.methodLink RX0 23 yX0_steps, Cond.static yX0_steps, Cond.code yX0_steps cX0_steps 2 (some .int), Cond.methodLink RX0 34 yX0_withSteps, Cond.static yX0_withSteps, Cond.code yX0_withSteps cX0_withSteps 4 (some .int), Cond.methodLink RX0 11 yX0_left, Cond.static yX0_left, Cond.code yX0_left cX0_left 2 (some .int), Cond.methodLink RX0 38 yX0_withLeft, Cond.methodLink RX11 190 yX6_ended]
def wsL_law_r27 : List Cond := [Cond.instanceMethod yX6_ended, Cond.selects RX6 yX6_ended yX6_ended, Cond.code yX6_ended cX6_ended 4 (some .boolean), Cond.methodLink RX6 22 yX0_first, Cond.static yX0_first, Cond.code yX0_first cX0_first 2 (some .int), Cond.methodLink RX0 19 yX0_mayBowl, Cond.static yX0_mayBowl, Cond.code yX0_mayBowl cX0_mayBowl 2 (some .boolean), Cond.methodLink RX0 15 yX0_last, Cond.static yX0_last, Cond.code yX0_last cX0_last 1 (some .int), Cond.methodLink RX11 193 yX1_seek, Cond.instanceMethod yX1_seek, Cond.selects RX1 yX1_seek yX1_seek, Cond.code yX1_seek cX1_seek 4 none, Cond.fieldLink RX1 44 "ChangeBowler$Order" "sorts" "[I", Cond.fieldLink RX1 47 "ChangeBowler$Order" "size" "I", Cond.methodLink RX1 50 yX1_seekFor, Cond.instanceMethod yX1_seekFor, Cond.selects RX1 yX1_seekFor yX1_seekFor, Cond.code yX1_seekFor cX1_seekFor 7 none, Cond.fieldLink RX1 58 "ChangeBowler$Best" "nodes" "I", Cond.methodLink RX1 54 yX1_grow]
def wsL_law_r28 : List Cond := [Cond.instanceMethod yX1_grow, Cond.selects RX1 yX1_grow yX1_grow, Cond.code yX1_grow cX1_grow 9 none, Cond.fieldLink RX1 85 "ChangeBowler$Order" "overs" "I", Cond.methodLink RX1 88 Lib.Math.min.name, Cond.methodLink RX1 93 Lib.Math.max.name, Cond.fieldLink RX1 96 "ChangeBowler$Odds" "ball" "LChangeBowler$Text;", Cond.fieldLink RX1 68 "ChangeBowler$Best" "levels" "I", Cond.fieldLink RX1 107 "ChangeBowler$Best" "exact" "Z", Cond.fieldLink RX1 65 "ChangeBowler$Best" "start" "I", Cond.constant RX1 114 (134217727), Cond.methodLink RX1 104 yX10_uses, Cond.methodLink RX1 111 yX1_add, Cond.instanceMethod yX1_add, Cond.selects RX1 yX1_add yX1_add, Cond.code yX1_add cX1_add 5 (some .int), Cond.methodLink RX1 71 yX1_trimmed, Cond.instanceMethod yX1_trimmed, Cond.selects RX1 yX1_trimmed yX1_trimmed, Cond.code yX1_trimmed cX1_trimmed 7 (some .int), Cond.methodLink RX1 123 yX0_left, Cond.methodLink RX1 126 yX0_last, Cond.methodLink RX1 129 yX0_withLeft, Cond.methodLink RX1 133 yX0_withSteps]
def wsL_law_r29 : List Cond := [Cond.methodLink RX1 77 yX1_slotFor, Cond.instanceMethod yX1_slotFor, Cond.selects RX1 yX1_slotFor yX1_slotFor, Cond.code yX1_slotFor cX1_slotFor 5 (some .int), Cond.constant RX1 122 (-1640531527), Cond.methodLink RX1 81 yX1_isTaken, Cond.instanceMethod yX1_isTaken, Cond.selects RX1 yX1_isTaken yX1_isTaken, Cond.code yX1_isTaken cX1_isTaken 3 (some .boolean), Cond.methodLink RX1 115 yX0_mayBowl, Cond.methodLink RX1 119 yX0_after, Cond.methodLink RX1 61 yX1_judge, Cond.instanceMethod yX1_judge, Cond.selects RX1 yX1_judge yX1_judge, Cond.code yX1_judge cX1_judge 18 none, Cond.methodLink RX1 136 yX0_steps, Cond.methodLink RX1 139 yX5_runsOf, Cond.methodLink RX1 142 yX5_outOf, Cond.methodLink RX1 146 yX6_meanOf, Cond.instanceMethod yX6_meanOf, Cond.selects RX6 yX6_meanOf yX6_meanOf, Cond.code yX6_meanOf cX6_meanOf 6 (some .int), Cond.fieldLink RX6 28 "ChangeBowler$Order" "rain" "I", Cond.methodLink RX11 197 yX3_putOn]
def wsL_law_r30 : List Cond := [Cond.instanceMethod yX3_putOn, Cond.selects RX3 yX3_putOn yX3_putOn, Cond.code yX3_putOn cX3_putOn 5 (some .int), Cond.methodLink RX3 41 yX8_kindOf, Cond.methodLink RX3 47 yX3_turn, Cond.instanceMethod yX3_turn, Cond.selects RX3 yX3_turn yX3_turn, Cond.code yX3_turn cX3_turn 5 (some .int), Cond.methodLink RX3 72 yX8_turnOf, Cond.instanceMethod yX8_turnOf, Cond.selects RX8 yX8_turnOf yX8_turnOf, Cond.code yX8_turnOf cX8_turnOf 6 (some .int), Cond.methodLink RX3 75 yX0_mayBowl, Cond.methodLink RX3 67 yX0_first, Cond.methodLink RX3 51 yX1_nodeOf, Cond.instanceMethod yX1_nodeOf, Cond.selects RX1 yX1_nodeOf yX1_nodeOf, Cond.code yX1_nodeOf cX1_nodeOf 5 (some .int), Cond.methodLink RX3 57 yX1_whomAt, Cond.instanceMethod yX1_whomAt, Cond.selects RX1 yX1_whomAt yX1_whomAt, Cond.code yX1_whomAt cX1_whomAt 3 (some .int), Cond.methodLink RX3 60 yX3_greatest, Cond.instanceMethod yX3_greatest]
def wsL_law_r31 : List Cond := [Cond.selects RX3 yX3_greatest yX3_greatest, Cond.code yX3_greatest cX3_greatest 9 (some .int), Cond.methodLink RX3 85 yX3_rating, Cond.instanceMethod yX3_rating, Cond.selects RX3 yX3_rating yX3_rating, Cond.code yX3_rating cX3_rating 10 (some .int), Cond.methodLink RX3 89 yX6_sortAt, Cond.methodLink RX3 94 yX0_steps, Cond.methodLink RX3 97 yX0_left, Cond.methodLink RX3 100 yX5_outOf, Cond.methodLink RX3 106 yX5_runsOf, Cond.methodLink RX3 109 yX10_say, Cond.methodLink RX3 79 yX8_numberOf, Cond.instanceMethod yX8_numberOf, Cond.selects RX8 yX8_numberOf yX8_numberOf, Cond.code yX8_numberOf cX8_numberOf 2 (some .int), Cond.methodLink RX3 115 yX10_sayChance, Cond.instanceMethod yX10_sayChance, Cond.selects RX10 yX10_sayChance yX10_sayChance, Cond.code yX10_sayChance cX10_sayChance 3 none, Cond.methodLink RX3 119 yX10_worked, Cond.methodLink RX3 64 yX3_withoutKept, Cond.instanceMethod yX3_withoutKept, Cond.selects RX3 yX3_withoutKept yX3_withoutKept]
def wsL_law_r32 : List Cond := [Cond.code yX3_withoutKept cX3_withoutKept 6 (some .int), Cond.methodLink RX3 82 yX0_withLeft, Cond.methodLink RL 60 yX12_puts, Cond.instanceMethod yX12_puts, Cond.selects RX12 yX12_puts yX12_puts, Cond.code yX12_puts cX12_puts 2 (some .int), Cond.methodLink RX12 331 yX12_isRule, Cond.instanceMethod yX12_isRule, Cond.selects RX12 yX12_isRule yX12_isRule, Cond.code yX12_isRule cX12_isRule 2 (some .boolean), Cond.methodLink RX12 334 yX12_goThroughBook, Cond.instanceMethod yX12_goThroughBook, Cond.selects RX12 yX12_goThroughBook yX12_goThroughBook, Cond.code yX12_goThroughBook cX12_goThroughBook 4 none, Cond.methodLink RX12 296 yX12_goes, Cond.instanceMethod yX12_goes, Cond.selects RX12 yX12_goes yX12_goes, Cond.code yX12_goes cX12_goes 5 (some .int), Cond.methodLink RX12 338 yX12_isBig, Cond.instanceMethod yX12_isBig, Cond.selects RX12 yX12_isBig yX12_isBig, Cond.code yX12_isBig cX12_isBig 1 (some .boolean), Cond.methodLink RX12 307 yX12_isEnded, Cond.instanceMethod yX12_isEnded]
def wsL_law_r33 : List Cond := [Cond.selects RX12 yX12_isEnded yX12_isEnded, Cond.code yX12_isEnded cX12_isEnded 2 (some .boolean), Cond.methodLink RX12 249 yX12_mayBowl, Cond.instanceMethod yX12_mayBowl, Cond.selects RX12 yX12_mayBowl yX12_mayBowl, Cond.code yX12_mayBowl cX12_mayBowl 2 (some .boolean), Cond.methodLink RX12 341 yX12_forgets, Cond.instanceMethod yX12_forgets, Cond.selects RX12 yX12_forgets yX12_forgets, Cond.code yX12_forgets cX12_forgets 1 none, Cond.fieldLink RX12 291 "ChangeBowlerModel" "keptStamp" "I", Cond.methodLink RX12 321 yX12_putsOn, Cond.instanceMethod yX12_putsOn, Cond.selects RX12 yX12_putsOn yX12_putsOn, Cond.code yX12_putsOn cX12_putsOn 7 (some .int), Cond.fieldLink RX12 283 "ChangeBowlerModel" "whom" "I", Cond.methodLink RX12 277 yX12_turnOf, Cond.instanceMethod yX12_turnOf, Cond.selects RX12 yX12_turnOf yX12_turnOf, Cond.code yX12_turnOf cX12_turnOf 4 (some .int), Cond.methodLink RX12 274 yX12_leastBut, Cond.instanceMethod yX12_leastBut, Cond.selects RX12 yX12_leastBut yX12_leastBut, Cond.code yX12_leastBut cX12_leastBut 3 (some .int)]
def wsL_law_r34 : List Cond := [Cond.methodLink RX12 280 yX12_bestFrom, Cond.instanceMethod yX12_bestFrom, Cond.selects RX12 yX12_bestFrom yX12_bestFrom, Cond.code yX12_bestFrom cX12_bestFrom 8 (some .int), Cond.constant RX12 317 (2000000000), Cond.methodLink RX12 311 yX12_stateNumber, Cond.instanceMethod yX12_stateNumber, Cond.selects RX12 yX12_stateNumber yX12_stateNumber, Cond.code yX12_stateNumber cX12_stateNumber 3 (some .int), Cond.methodLink RX12 314 yX12_spot, Cond.instanceMethod yX12_spot, Cond.selects RX12 yX12_spot yX12_spot, Cond.code yX12_spot cX12_spot 5 (some .int), Cond.constant RX12 294 (40503), Cond.constant RX12 295 (65535), Cond.methodLink RX12 318 yX12_meanWith, Cond.instanceMethod yX12_meanWith, Cond.selects RX12 yX12_meanWith yX12_meanWith, Cond.code yX12_meanWith cX12_meanWith 8 (some .int), Cond.constantLong RX12 289 (1000), Cond.methodLink RX12 300 yX12_goesBack, Cond.instanceMethod yX12_goesBack, Cond.selects RX12 yX12_goesBack yX12_goesBack, Cond.code yX12_goesBack cX12_goesBack 6 none]
def wsL_law_r35 : List Cond := [Cond.methodLink RX12 304 yX12_mixed, Cond.static yX12_mixed, Cond.code yX12_mixed cX12_mixed 3 (some .int), Cond.methodLink RX12 286 yX12_worthBy, Cond.instanceMethod yX12_worthBy, Cond.selects RX12 yX12_worthBy yX12_worthBy, Cond.code yX12_worthBy cX12_worthBy 4 (some .int), Cond.methodLink RL 61 yX11_mean, Cond.instanceMethod yX11_mean, Cond.selects RX11 yX11_mean yX11_mean, Cond.code yX11_mean cX11_mean 2 (some .int), Cond.methodLink RX11 201 yX11_makeReady, Cond.instanceMethod yX11_makeReady, Cond.selects RX11 yX11_makeReady yX11_makeReady, Cond.code yX11_makeReady cX11_makeReady 2 none, Cond.methodLink RX11 204 yX4_freshAttack, Cond.methodLink RX11 208 yX3_meanFrom, Cond.instanceMethod yX3_meanFrom, Cond.selects RX3 yX3_meanFrom yX3_meanFrom, Cond.code yX3_meanFrom cX3_meanFrom 9 (some .int), Cond.methodLink RX3 123 yX6_ended, Cond.methodLink RX3 127 yX3_putOn, Cond.methodLink RX3 130 yX0_after, Cond.methodLink RX3 133 yX3_meanFrom]
def wsL_law_r36 : List Cond := [Cond.methodLink RX3 136 yX3_runsBy, Cond.instanceMethod yX3_runsBy, Cond.selects RX3 yX3_runsBy yX3_runsBy, Cond.code yX3_runsBy cX3_runsBy 4 (some .int), Cond.methodLink RX3 139 yX3_outBy, Cond.instanceMethod yX3_outBy, Cond.selects RX3 yX3_outBy yX3_outBy, Cond.code yX3_outBy cX3_outBy 5 (some .int), Cond.methodLink RX3 142 yX6_meanOf, Cond.methodLink RL 64 yX12_mean, Cond.instanceMethod yX12_mean, Cond.selects RX12 yX12_mean yX12_mean, Cond.code yX12_mean cX12_mean 2 (some .int), Cond.methodLink RX12 324 yX12_meanFrom, Cond.instanceMethod yX12_meanFrom, Cond.selects RX12 yX12_meanFrom yX12_meanFrom, Cond.code yX12_meanFrom cX12_meanFrom 9 (some .int), Cond.methodLink RL 65 yX11_likely, Cond.instanceMethod yX11_likely, Cond.selects RX11 yX11_likely yX11_likely, Cond.code yX11_likely cX11_likely 3 (some .int), Cond.methodLink RX11 211 yX3_likelyFrom, Cond.instanceMethod yX3_likelyFrom, Cond.selects RX3 yX3_likelyFrom yX3_likelyFrom]
def wsL_law_r37 : List Cond := [Cond.code yX3_likelyFrom cX3_likelyFrom 14 (some .int), Cond.constant RX3 145 (1000000), Cond.fieldLink RX3 149 "ChangeBowler$Order" "rain" "I", Cond.methodLink RX3 146 yX3_likelyFrom, Cond.methodLink RL 68 yX12_likely, Cond.instanceMethod yX12_likely, Cond.selects RX12 yX12_likely yX12_likely, Cond.code yX12_likely cX12_likely 3 (some .int), Cond.constantLong RX12 344 (999), Cond.methodLink RX12 328 yX12_likelyFrom, Cond.instanceMethod yX12_likelyFrom, Cond.selects RX12 yX12_likelyFrom yX12_likelyFrom, Cond.code yX12_likelyFrom cX12_likelyFrom 10 (some .int), Cond.constant RX12 327 (1000000), Cond.methodLink RL 69 yX11_best, Cond.instanceMethod yX11_best, Cond.selects RX11 yX11_best yX11_best, Cond.code yX11_best cX11_best 5 (some .int), Cond.methodLink RX11 215 yX1_valueAt, Cond.instanceMethod yX1_valueAt, Cond.selects RX1 yX1_valueAt yX1_valueAt, Cond.code yX1_valueAt cX1_valueAt 3 (some .int), Cond.methodLink RX11 218 yX1_whomAt, Cond.methodLink RL 72 yX12_best]
def wsL_law_r38 : List Cond := [Cond.instanceMethod yX12_best, Cond.selects RX12 yX12_best yX12_best, Cond.code yX12_best cX12_best 3 (some .int), Cond.methodLink RL 73 yX11_worth, Cond.instanceMethod yX11_worth, Cond.selects RX11 yX11_worth yX11_worth, Cond.code yX11_worth cX11_worth 7 (some .int), Cond.methodLink RX11 221 yX0_withLeft, Cond.methodLink RX11 226 yX11_bestOf, Cond.instanceMethod yX11_bestOf, Cond.selects RX11 yX11_bestOf yX11_bestOf, Cond.code yX11_bestOf cX11_bestOf 3 (some .int), Cond.methodLink RL 76 yX12_worth, Cond.instanceMethod yX12_worth, Cond.selects RX12 yX12_worth yX12_worth, Cond.code yX12_worth cX12_worth 5 (some .int), Cond.methodLink RX12 346 yX12_bestNow, Cond.instanceMethod yX12_bestNow, Cond.selects RX12 yX12_bestNow yX12_bestNow, Cond.code yX12_bestNow cX12_bestNow 1 (some .int), Cond.methodLink RL 77 yX11_fielded, Cond.instanceMethod yX11_fielded, Cond.selects RX11 yX11_fielded yX11_fielded, Cond.code yX11_fielded cX11_fielded 8 (some .int)]
def wsL_law_r39 : List Cond := [Cond.methodLink RL 80 yX12_fielded, Cond.instanceMethod yX12_fielded, Cond.selects RX12 yX12_fielded yX12_fielded, Cond.code yX12_fielded cX12_fielded 9 (some .int), Cond.methodLink RL 81 yX11_kept, Cond.instanceMethod yX11_kept, Cond.selects RX11 yX11_kept yX11_kept, Cond.code yX11_kept cX11_kept 5 (some .int), Cond.methodLink RX11 229 yX1_nodeOf, Cond.methodLink RX11 232 yX0_after, Cond.methodLink RL 84 yX12_kept, Cond.instanceMethod yX12_kept, Cond.selects RX12 yX12_kept yX12_kept, Cond.code yX12_kept cX12_kept 4 (some .int), Cond.methodLink RL 85 yX11_theirs, Cond.instanceMethod yX11_theirs, Cond.selects RX11 yX11_theirs yX11_theirs, Cond.code yX11_theirs cX11_theirs 2 (some .int), Cond.methodLink RX11 235 yX11_turnOrder, Cond.instanceMethod yX11_turnOrder, Cond.selects RX11 yX11_turnOrder yX11_turnOrder, Cond.code yX11_turnOrder cX11_turnOrder 9 (some .int), Cond.methodLink RX11 328 yX6_sortDown, Cond.instanceMethod yX6_sortDown]
def wsL_law_r40 : List Cond := [Cond.selects RX6 yX6_sortDown yX6_sortDown, Cond.code yX6_sortDown cX6_sortDown 5 none, Cond.methodLink RX11 332 yX1_seekFor, Cond.methodLink RX11 336 yX6_digits, Cond.static yX6_digits, Cond.code yX6_digits cX6_digits 4 (some .int), Cond.methodLink RX11 340 yX6_turnOn, Cond.static yX6_turnOn, Cond.code yX6_turnOn cX6_turnOn 7 (some .int), Cond.methodLink RX6 31 Lib.Math.min.name, Cond.methodLink RX6 37 yX6_swap, Cond.static yX6_swap, Cond.code yX6_swap cX6_swap 4 none, Cond.methodLink RL 88 yX12_theirs, Cond.instanceMethod yX12_theirs, Cond.selects RX12 yX12_theirs yX12_theirs, Cond.code yX12_theirs cX12_theirs 3 (some .int), Cond.fieldLink RX12 349 "ChangeBowlerModel" "theirMean" "I", Cond.fieldLink RX12 352 "ChangeBowlerModel" "theirDigits" "I", Cond.methodLink RX12 355 yX12_orders, Cond.instanceMethod yX12_orders, Cond.selects RX12 yX12_orders yX12_orders, Cond.code yX12_orders cX12_orders 6 none, Cond.methodLink RL 89 yX11_learn]
def wsL_law_r41 : List Cond := [Cond.instanceMethod yX11_learn, Cond.selects RX11 yX11_learn yX11_learn, Cond.code yX11_learn cX11_learn 5 (some .int), Cond.methodLink RX11 238 Lib.Math.min.name, Cond.methodLink RL 92 yX12_learn, Cond.instanceMethod yX12_learn, Cond.selects RX12 yX12_learn yX12_learn, Cond.code yX12_learn cX12_learn 6 (some .int), Cond.constantLong RX12 359 (9999), Cond.methodLink RL 93 yX11_book, Cond.instanceMethod yX11_book, Cond.selects RX11 yX11_book yX11_book, Cond.code yX11_book cX11_book 3 (some .int), Cond.methodLink RX11 243 yX11_mayBeBooked, Cond.instanceMethod yX11_mayBeBooked, Cond.selects RX11 yX11_mayBeBooked yX11_mayBeBooked, Cond.code yX11_mayBeBooked cX11_mayBeBooked 4 (some .boolean), Cond.methodLink RX11 325 yX0_mayBowl, Cond.methodLink RX11 246 yX2_write, Cond.instanceMethod yX2_write, Cond.selects RX2 yX2_write yX2_write, Cond.code yX2_write cX2_write 3 (some .int), Cond.methodLink RL 96 yX12_book, Cond.instanceMethod yX12_book]
def wsL_law_r42 : List Cond := [Cond.selects RX12 yX12_book yX12_book, Cond.code yX12_book cX12_book 3 (some .int), Cond.methodLink RL 97 yX11_books, Cond.instanceMethod yX11_books, Cond.selects RX11 yX11_books yX11_books, Cond.code yX11_books cX11_books 6 (some .int), Cond.methodLink RX11 249 yX11_noShelf, Cond.static yX11_noShelf, Cond.code yX11_noShelf cX11_noShelf 1 (some .boolean), Cond.methodLink RX11 252 yX9_isEmpty, Cond.instanceMethod yX9_isEmpty, Cond.selects RX9 yX9_isEmpty yX9_isEmpty, Cond.code yX9_isEmpty cX9_isEmpty 2 (some .boolean), Cond.methodLink RX9 29 yX9_isNone, Cond.static yX9_isNone, Cond.code yX9_isNone cX9_isNone 1 (some .boolean), Cond.methodLink RX11 255 yX9_sortOf, Cond.instanceMethod yX9_sortOf, Cond.selects RX9 yX9_sortOf yX9_sortOf, Cond.code yX9_sortOf cX9_sortOf 2 (some .int), Cond.methodLink RX9 33 yX9_isEmpty, Cond.methodLink RX11 258 yX9_lengthOf, Cond.instanceMethod yX9_lengthOf, Cond.selects RX9 yX9_lengthOf yX9_lengthOf]
def wsL_law_r43 : List Cond := [Cond.code yX9_lengthOf cX9_lengthOf 2 (some .int), Cond.methodLink RX9 36 yX9_sortOf, Cond.methodLink RX11 261 yX9_elementAt, Cond.instanceMethod yX9_elementAt, Cond.selects RX9 yX9_elementAt yX9_elementAt, Cond.code yX9_elementAt cX9_elementAt 3 (some .long), Cond.constantLong RX9 55 (-9223372036854775808), Cond.methodLink RX9 49 yX9_refusal, Cond.instanceMethod yX9_refusal, Cond.selects RX9 yX9_refusal yX9_refusal, Cond.code yX9_refusal cX9_refusal 3 (some .int), Cond.methodLink RX9 46 yX9_lengthOf, Cond.methodLink RL 100 yX12_books, Cond.instanceMethod yX12_books, Cond.selects RX12 yX12_books yX12_books, Cond.code yX12_books cX12_books 6 (some .int), Cond.constantLong RX12 364 (-1), Cond.methodLink RX12 361 yX12_isShelf, Cond.static yX12_isShelf, Cond.code yX12_isShelf cX12_isShelf 1 (some .boolean), Cond.constantLong RX12 400 (5), Cond.methodLink RX12 366 yX12_book, Cond.methodLink RL 101 yX11_close, Cond.instanceMethod yX11_close]
def wsL_law_r44 : List Cond := [Cond.selects RX11 yX11_close yX11_close, Cond.code yX11_close cX11_close 2 (some .int), Cond.methodLink RL 104 yX12_close, Cond.instanceMethod yX12_close, Cond.selects RX12 yX12_close yX12_close, Cond.code yX12_close cX12_close 2 (some .int), Cond.methodLink RL 105 yX11_cost, Cond.instanceMethod yX11_cost, Cond.selects RX11 yX11_cost yX11_cost, Cond.code yX11_cost cX11_cost 2 (some .int), Cond.methodLink RX11 265 yX11_costOf, Cond.instanceMethod yX11_costOf, Cond.selects RX11 yX11_costOf yX11_costOf, Cond.code yX11_costOf cX11_costOf 12 (some .int), Cond.methodLink RX11 343 yX2_bowlerAt, Cond.instanceMethod yX2_bowlerAt, Cond.selects RX2 yX2_bowlerAt yX2_bowlerAt, Cond.code yX2_bowlerAt cX2_bowlerAt 2 (some .int), Cond.methodLink RX11 346 yX0_steps, Cond.methodLink RX11 349 yX2_leftAhead, Cond.instanceMethod yX2_leftAhead, Cond.selects RX2 yX2_leftAhead yX2_leftAhead, Cond.code yX2_leftAhead cX2_leftAhead 6 (some .int), Cond.methodLink RX2 22 yX4_oversOf]
def wsL_law_r45 : List Cond := [Cond.methodLink RX11 353 yX6_meanOf, Cond.methodLink RL 108 yX12_cost, Cond.instanceMethod yX12_cost, Cond.selects RX12 yX12_cost yX12_cost, Cond.code yX12_cost cX12_cost 2 (some .int), Cond.methodLink RX12 369 yX12_costOf, Cond.instanceMethod yX12_costOf, Cond.selects RX12 yX12_costOf yX12_costOf, Cond.code yX12_costOf cX12_costOf 3 (some .int), Cond.methodLink RL 109 yX11_lost, Cond.instanceMethod yX11_lost, Cond.selects RX11 yX11_lost yX11_lost, Cond.code yX11_lost cX11_lost 7 (some .int), Cond.methodLink RL 112 yX12_lost, Cond.instanceMethod yX12_lost, Cond.selects RX12 yX12_lost yX12_lost, Cond.code yX12_lost cX12_lost 7 (some .int), Cond.methodLink RL 113 yX11_game, Cond.instanceMethod yX11_game, Cond.selects RX11 yX11_game yX11_game, Cond.code yX11_game cX11_game 3 (some .int), Cond.methodLink RX11 268 yX3_play, Cond.instanceMethod yX3_play, Cond.selects RX3 yX3_play yX3_play]
def wsL_law_r46 : List Cond := [Cond.code yX3_play cX3_play 12 (some .int), Cond.fieldLink RX3 153 "ChangeBowler$Captain" "played" "I", Cond.methodLink RX3 156 yX3_drawn, Cond.static yX3_drawn, Cond.code yX3_drawn cX3_drawn 1 (some .int), Cond.constant RX3 162 (1103515245), Cond.methodLink RX3 159 yX3_lot, Cond.static yX3_lot, Cond.code yX3_lot cX3_lot 1 (some .int), Cond.methodLink RL 116 yX12_game, Cond.instanceMethod yX12_game, Cond.selects RX12 yX12_game yX12_game, Cond.code yX12_game cX12_game 10 (some .int), Cond.fieldLink RX12 372 "ChangeBowlerModel" "played" "I", Cond.constant RX12 375 (1103515245), Cond.methodLink RL 117 yX11_led, Cond.instanceMethod yX11_led, Cond.selects RX11 yX11_led yX11_led, Cond.code yX11_led cX11_led 3 (some .int), Cond.fieldLink RX11 271 "ChangeBowler$Captain" "played" "I", Cond.methodLink RX11 274 yX3_ledAt, Cond.instanceMethod yX3_ledAt, Cond.selects RX3 yX3_ledAt yX3_ledAt, Cond.code yX3_ledAt cX3_ledAt 3 (some .int)]
def wsL_law_r47 : List Cond := [Cond.methodLink RL 120 yX12_led, Cond.instanceMethod yX12_led, Cond.selects RX12 yX12_led yX12_led, Cond.code yX12_led cX12_led 3 (some .int), Cond.methodLink RL 121 yX11_undo, Cond.instanceMethod yX11_undo, Cond.selects RX11 yX11_undo yX11_undo, Cond.code yX11_undo cX11_undo 1 (some .int), Cond.fieldLink RX11 277 "ChangeBowler$Numbers" "done" "I", Cond.methodLink RX11 280 yX4_stepBack, Cond.instanceMethod yX4_stepBack, Cond.selects RX4 yX4_stepBack yX4_stepBack, Cond.code yX4_stepBack cX4_stepBack 1 (some .int), Cond.methodLink RL 124 yX12_undo, Cond.instanceMethod yX12_undo, Cond.selects RX12 yX12_undo yX12_undo, Cond.code yX12_undo cX12_undo 1 (some .int), Cond.methodLink RL 125 yX11_redo, Cond.instanceMethod yX11_redo, Cond.selects RX11 yX11_redo yX11_redo, Cond.code yX11_redo cX11_redo 1 (some .int), Cond.fieldLink RX11 283 "ChangeBowler$Numbers" "undone" "I", Cond.methodLink RX11 286 yX4_stepAgain, Cond.instanceMethod yX4_stepAgain]
def wsL_law_r48 : List Cond := [Cond.selects RX4 yX4_stepAgain yX4_stepAgain, Cond.code yX4_stepAgain cX4_stepAgain 1 (some .int), Cond.methodLink RL 128 yX12_redo, Cond.instanceMethod yX12_redo, Cond.selects RX12 yX12_redo yX12_redo, Cond.code yX12_redo cX12_redo 1 (some .int), Cond.methodLink RL 129 yX11_act, Cond.instanceMethod yX11_act, Cond.selects RX11 yX11_act yX11_act, Cond.code yX11_act cX11_act 4 (some .int), Cond.fieldLink RX11 289 "ChangeBowler$Rules" "ran" "I", Cond.methodLink RX11 292 yX8_runBody, Cond.instanceMethod yX8_runBody, Cond.selects RX8 yX8_runBody yX8_runBody, Cond.code yX8_runBody cX8_runBody 9 (some .int), Cond.fieldLink RX8 36 "ChangeBowler$Rules" "BODIES" "[I", Cond.methodLink RX8 39 yX8_bodyOf, Cond.instanceMethod yX8_bodyOf, Cond.selects RX8 yX8_bodyOf yX8_bodyOf, Cond.methodLink RX8 28 yX8_above, Cond.static yX8_above, Cond.code yX8_above cX8_above 1 (some .int), Cond.fieldLink RX8 25 "ChangeBowler$Rules" "ABOVE" "[I", Cond.code yX8_bodyOf cX8_bodyOf 8 (some .int)]
def wsL_law_r49 : List Cond := [Cond.fieldLink RX8 43 "ChangeBowler$Rules" "ran" "I", Cond.methodLink RX8 46 yX8_kindOf, Cond.methodLink RX8 49 yX8_runBody, Cond.methodLink RL 132 yX12_act, Cond.instanceMethod yX12_act, Cond.selects RX12 yX12_act yX12_act, Cond.code yX12_act cX12_act 4 (some .int), Cond.fieldLink RX12 376 "ChangeBowlerModel" "ran" "I", Cond.fieldLink RX12 391 "ChangeBowlerModel" "ownKind" "I", Cond.fieldLink RX12 385 "ChangeBowlerModel" "ownNumber" "I", Cond.methodLink RX12 382 yX12_putsAs, Cond.instanceMethod yX12_putsAs, Cond.selects RX12 yX12_putsAs yX12_putsAs, Cond.code yX12_putsAs cX12_putsAs 3 (some .int), Cond.methodLink RX12 379 yX12_begins, Cond.instanceMethod yX12_begins, Cond.selects RX12 yX12_begins yX12_begins, Cond.code yX12_begins cX12_begins 2 none, Cond.methodLink RX12 388 yX12_holdsAs, Cond.instanceMethod yX12_holdsAs, Cond.selects RX12 yX12_holdsAs yX12_holdsAs, Cond.code yX12_holdsAs cX12_holdsAs 4 (some .int), Cond.methodLink RX12 394 yX12_givesAs, Cond.instanceMethod yX12_givesAs]
def wsL_law_r50 : List Cond := [Cond.selects RX12 yX12_givesAs yX12_givesAs, Cond.code yX12_givesAs cX12_givesAs 4 (some .int), Cond.methodLink RX12 397 yX12_tellsAs, Cond.instanceMethod yX12_tellsAs, Cond.selects RX12 yX12_tellsAs yX12_tellsAs, Cond.code yX12_tellsAs cX12_tellsAs 4 (some .int), Cond.methodLink RL 133 yX11_trace, Cond.instanceMethod yX11_trace, Cond.selects RX11 yX11_trace yX11_trace, Cond.code yX11_trace cX11_trace 2 (some .int), Cond.methodLink RX11 295 yX8_traceAt, Cond.instanceMethod yX8_traceAt, Cond.selects RX8 yX8_traceAt yX8_traceAt, Cond.code yX8_traceAt cX8_traceAt 2 (some .int), Cond.methodLink RL 136 yX12_trace, Cond.instanceMethod yX12_trace, Cond.selects RX12 yX12_trace yX12_trace, Cond.code yX12_trace cX12_trace 2 (some .int), Cond.methodLink RL 137 yX11_keep, Cond.instanceMethod yX11_keep, Cond.selects RX11 yX11_keep yX11_keep, Cond.code yX11_keep cX11_keep 3 (some .int), Cond.methodLink RX11 298 yX9_hold, Cond.instanceMethod yX9_hold]
def wsL_law_r51 : List Cond := [Cond.selects RX9 yX9_hold yX9_hold, Cond.code yX9_hold cX9_hold 3 none, Cond.fieldLink RX9 40 "ChangeBowler$Rules" "size" "I", Cond.methodLink RL 140 yX12_keep, Cond.instanceMethod yX12_keep, Cond.selects RX12 yX12_keep yX12_keep, Cond.code yX12_keep cX12_keep 3 (some .int), Cond.methodLink RL 141 yX11_row, Cond.instanceMethod yX11_row, Cond.selects RX11 yX11_row yX11_row, Cond.code yX11_row cX11_row 4 (some .int), Cond.methodLink RX11 302 yX9_lay, Cond.instanceMethod yX9_lay, Cond.selects RX9 yX9_lay yX9_lay, Cond.code yX9_lay cX9_lay 5 none, Cond.methodLink RL 144 yX12_row, Cond.instanceMethod yX12_row, Cond.selects RX12 yX12_row yX12_row, Cond.code yX12_row cX12_row 5 (some .int), Cond.methodLink RL 147 yX11_put, Cond.instanceMethod yX11_put, Cond.selects RX11 yX11_put yX11_put, Cond.code yX11_put cX11_put 6 (some .int), Cond.methodLink RX11 304 yX9_refusal]
def wsL_law_r52 : List Cond := [Cond.methodLink RX11 307 yX9_write, Cond.instanceMethod yX9_write, Cond.selects RX9 yX9_write yX9_write, Cond.code yX9_write cX9_write 5 none, Cond.methodLink RX9 57 yX9_cut, Cond.static yX9_cut, Cond.code yX9_cut cX9_cut 3 (some .long), Cond.methodLink RL 151 yX12_put, Cond.instanceMethod yX12_put, Cond.selects RX12 yX12_put yX12_put, Cond.code yX12_put cX12_put 6 (some .int), Cond.methodLink RX12 402 yX12_refusal, Cond.instanceMethod yX12_refusal, Cond.selects RX12 yX12_refusal yX12_refusal, Cond.code yX12_refusal cX12_refusal 3 (some .int), Cond.methodLink RX12 405 yX12_asSort, Cond.static yX12_asSort, Cond.code yX12_asSort cX12_asSort 3 (some .long), Cond.methodLink RL 152 yX11_element, Cond.instanceMethod yX11_element, Cond.selects RX11 yX11_element yX11_element, Cond.code yX11_element cX11_element 3 (some .long), Cond.constantLong RX11 312 (-9223372036854775808), Cond.methodLink RL 156 yX12_element]
def wsL_law_r53 : List Cond := [Cond.instanceMethod yX12_element, Cond.selects RX12 yX12_element yX12_element, Cond.code yX12_element cX12_element 3 (some .long), Cond.constantLong RX12 411 (-9223372036854775808), Cond.methodLink RL 157 yX11_shift, Cond.instanceMethod yX11_shift, Cond.selects RX11 yX11_shift yX11_shift, Cond.code yX11_shift cX11_shift 7 (some .int), Cond.methodLink RX11 314 yX9_move, Cond.instanceMethod yX9_move, Cond.selects RX9 yX9_move yX9_move, Cond.code yX9_move cX9_move 6 none, Cond.methodLink RX9 61 arraycopyName, Cond.methodLink RL 161 yX12_shift, Cond.instanceMethod yX12_shift, Cond.selects RX12 yX12_shift yX12_shift, Cond.code yX12_shift cX12_shift 7 (some .int), Cond.methodLink RL 162 yX11_taken, Cond.instanceMethod yX11_taken, Cond.selects RX11 yX11_taken yX11_taken, Cond.code yX11_taken cX11_taken 4 (some .int), Cond.methodLink RX11 318 yX9_ruleOn, Cond.instanceMethod yX9_ruleOn, Cond.selects RX9 yX9_ruleOn yX9_ruleOn]
def wsL_law_r54 : List Cond := [Cond.code yX9_ruleOn cX9_ruleOn 2 (some .int), Cond.methodLink RX11 321 yX8_isUnder, Cond.static yX8_isUnder, Cond.code yX8_isUnder cX8_isUnder 4 (some .boolean), Cond.methodLink RL 165 yX12_taken, Cond.instanceMethod yX12_taken, Cond.selects RX12 yX12_taken yX12_taken, Cond.code yX12_taken cX12_taken 4 (some .int), Cond.methodLink RX12 413 yX12_kindOf, Cond.instanceMethod yX12_kindOf, Cond.selects RX12 yX12_kindOf yX12_kindOf, Cond.code yX12_kindOf cX12_kindOf 2 (some .int), Cond.methodLink RX12 416 yX12_above, Cond.static yX12_above, Cond.code yX12_above cX12_above 1 (some .int), Cond.methodLink RL 166 yX11_count, Cond.instanceMethod yX11_count, Cond.selects RX11 yX11_count yX11_count, Cond.code yX11_count cX11_count 2 (some .int), Cond.methodLink RL 169 yX12_count, Cond.instanceMethod yX12_count, Cond.selects RX12 yX12_count yX12_count, Cond.code yX12_count cX12_count 2 (some .int)]
def wsL_law : List Cond := (wsL_law_r1 ++ (wsL_law_r2 ++ (wsL_law_r3 ++ (wsL_law_r4 ++ (wsL_law_r5 ++ (wsL_law_r6 ++ (wsL_law_r7 ++ (wsL_law_r8 ++ (wsL_law_r9 ++ (wsL_law_r10 ++ (wsL_law_r11 ++ (wsL_law_r12 ++ (wsL_law_r13 ++ (wsL_law_r14 ++ (wsL_law_r15 ++ (wsL_law_r16 ++ (wsL_law_r17 ++ (wsL_law_r18 ++ (wsL_law_r19 ++ (wsL_law_r20 ++ (wsL_law_r21 ++ (wsL_law_r22 ++ (wsL_law_r23 ++ (wsL_law_r24 ++ (wsL_law_r25 ++ (wsL_law_r26 ++ (wsL_law_r27 ++ (wsL_law_r28 ++ (wsL_law_r29 ++ (wsL_law_r30 ++ (wsL_law_r31 ++ (wsL_law_r32 ++ (wsL_law_r33 ++ (wsL_law_r34 ++ (wsL_law_r35 ++ (wsL_law_r36 ++ (wsL_law_r37 ++ (wsL_law_r38 ++ (wsL_law_r39 ++ (wsL_law_r40 ++ (wsL_law_r41 ++ (wsL_law_r42 ++ (wsL_law_r43 ++ (wsL_law_r44 ++ (wsL_law_r45 ++ (wsL_law_r46 ++ (wsL_law_r47 ++ (wsL_law_r48 ++ (wsL_law_r49 ++ (wsL_law_r50 ++ (wsL_law_r51 ++ (wsL_law_r52 ++ (wsL_law_r53 ++ wsL_law_r54))))))))))))))))))))))))))))))))))))))))))))))))))))) ++ wsX110 ++ wsX120 ++ wsX40 ++ wsX70 ++ wsX60 ++ wsX100 ++ wsX50 ++ wsX10 ++ wsX80 ++ wsX30 ++ wsX20 ++ wsX90 ++ ([] : List Cond)
theorem inlX1 : ∀ w ∈ wsX10, w ∈ wsL_law := fun _ h => List.mem_append_left _ (List.mem_append_left _ (List.mem_append_left _ (List.mem_append_left _ (List.mem_append_left _ (List.mem_append_right _ h)))))
theorem inlX2 : ∀ w ∈ wsX20, w ∈ wsL_law := fun _ h => List.mem_append_left _ (List.mem_append_left _ (List.mem_append_right _ h))
theorem inlX3 : ∀ w ∈ wsX30, w ∈ wsL_law := fun _ h => List.mem_append_left _ (List.mem_append_left _ (List.mem_append_left _ (List.mem_append_right _ h)))
theorem inlX4 : ∀ w ∈ wsX40, w ∈ wsL_law := fun _ h => List.mem_append_left _ (List.mem_append_left _ (List.mem_append_left _ (List.mem_append_left _ (List.mem_append_left _ (List.mem_append_left _ (List.mem_append_left _ (List.mem_append_left _ (List.mem_append_left _ (List.mem_append_left _ (List.mem_append_right _ h))))))))))
theorem inlX5 : ∀ w ∈ wsX50, w ∈ wsL_law := fun _ h => List.mem_append_left _ (List.mem_append_left _ (List.mem_append_left _ (List.mem_append_left _ (List.mem_append_left _ (List.mem_append_left _ (List.mem_append_right _ h))))))
theorem inlX6 : ∀ w ∈ wsX60, w ∈ wsL_law := fun _ h => List.mem_append_left _ (List.mem_append_left _ (List.mem_append_left _ (List.mem_append_left _ (List.mem_append_left _ (List.mem_append_left _ (List.mem_append_left _ (List.mem_append_left _ (List.mem_append_right _ h))))))))
theorem inlX7 : ∀ w ∈ wsX70, w ∈ wsL_law := fun _ h => List.mem_append_left _ (List.mem_append_left _ (List.mem_append_left _ (List.mem_append_left _ (List.mem_append_left _ (List.mem_append_left _ (List.mem_append_left _ (List.mem_append_left _ (List.mem_append_left _ (List.mem_append_right _ h)))))))))
theorem inlX8 : ∀ w ∈ wsX80, w ∈ wsL_law := fun _ h => List.mem_append_left _ (List.mem_append_left _ (List.mem_append_left _ (List.mem_append_left _ (List.mem_append_right _ h))))
theorem inlX9 : ∀ w ∈ wsX90, w ∈ wsL_law := fun _ h => List.mem_append_left _ (List.mem_append_right _ h)
theorem inlX10 : ∀ w ∈ wsX100, w ∈ wsL_law := fun _ h => List.mem_append_left _ (List.mem_append_left _ (List.mem_append_left _ (List.mem_append_left _ (List.mem_append_left _ (List.mem_append_left _ (List.mem_append_left _ (List.mem_append_right _ h)))))))
theorem inlX11 : ∀ w ∈ wsX110, w ∈ wsL_law := fun _ h => List.mem_append_left _ (List.mem_append_left _ (List.mem_append_left _ (List.mem_append_left _ (List.mem_append_left _ (List.mem_append_left _ (List.mem_append_left _ (List.mem_append_left _ (List.mem_append_left _ (List.mem_append_left _ (List.mem_append_left _ (List.mem_append_left _ (List.mem_append_right _ h))))))))))))
theorem inlX12 : ∀ w ∈ wsX120, w ∈ wsL_law := fun _ h => List.mem_append_left _ (List.mem_append_left _ (List.mem_append_left _ (List.mem_append_left _ (List.mem_append_left _ (List.mem_append_left _ (List.mem_append_left _ (List.mem_append_left _ (List.mem_append_left _ (List.mem_append_left _ (List.mem_append_left _ (List.mem_append_right _ h)))))))))))
abbrev vwCl : List vw_C := [(RX1, TX1, 13), (RX2, TX2, 3), (RX3, TX3, 9), (RX4, TX4, 10), (RX5, TX5, 8), (RX6, TX6, 4), (RX7, TX7, 6), (RX8, TX8, 6), (RX9, TX9, 5), (RX10, TX10, 5), (RX11, TX11, 12), (RX12, TX12, 62)]
end
section
/-! MY LAYER: one world for everything that the law has made; a state is two functions, σ (numbers, int rows) and τ (long rows), by cell -/
def jup (σ : Nat → Nat → Int32) (i k : Nat) (v : Int32) : Nat → Nat → Int32 := va_up σ i (upd (σ i) k v)
def jupL (τ : Nat → Nat → Int64) (i k : Nat) (v : Int64) : Nat → Nat → Int64 := va_up τ i (vp_updL (τ i) k v)
theorem jup_s {σ : Nat → Nat → Int32} {i k : Nat} {v : Int32} : jup σ i k v i k = v := by simp [jup, va_up, upd]
theorem jup_k {σ : Nat → Nat → Int32} {i k k' : Nat} {v : Int32} (h : k' ≠ k) : jup σ i k v i k' = σ i k' := by simp [jup, va_up, upd, h]
theorem jup_n {σ : Nat → Nat → Int32} {i j k : Nat} {v : Int32} (h : j ≠ i) : jup σ i k v j = σ j := by simp [jup, va_up, h]
theorem jupL_s {τ : Nat → Nat → Int64} {i k : Nat} {v : Int64} : jupL τ i k v i k = v := by simp [jupL, va_up, vp_updL]
theorem jupL_k {τ : Nat → Nat → Int64} {i k k' : Nat} {v : Int64} (h : k' ≠ k) : jupL τ i k v i k' = τ i k' := by simp [jupL, va_up, vp_updL, h]
theorem jupL_n {τ : Nat → Nat → Int64} {i j k : Nat} {v : Int64} (h : j ≠ i) : jupL τ i k v j = τ j := by simp [jupL, va_up, h]
/-- the world: the cells of the class's object and of the reference, by number; numbers and int rows in σ, long rows in τ -/
def jw (cI cL : ClassId) (ad : Nat → Nat) (σ : Nat → Nat → Int32) (τ : Nat → Nat → Int64) : va_W := [(ad 0, .inr (10, [.ref (ad 2), .ref (ad 9), .ref (ad 16), .ref (ad 18), .ref (ad 22), .ref (ad 26), .ref (ad 31), .ref (ad 38), .ref (ad 43), .ref (ad 47), .ref (ad 50), .ref (ad 1)])),
  (ad 1, .inl (cI, 8, .inl (σ 1))),
  (ad 2, .inr (3, [.int (σ 2 0), .int (σ 2 1), .int (σ 2 2), .int (σ 2 3), .ref (ad 3), .ref (ad 4), .ref (ad 5), .ref (ad 6), .ref (ad 7), .ref (ad 8)])),
  (ad 3, .inl (cI, 68, .inl (σ 3))),
  (ad 4, .inl (cI, 4, .inl (σ 4))),
  (ad 5, .inl (cI, 4, .inl (σ 5))),
  (ad 6, .inl (cI, 40, .inl (σ 6))),
  (ad 7, .inl (cI, 40, .inl (σ 7))),
  (ad 8, .inl (cI, 40, .inl (σ 8))),
  (ad 9, .inr (6, [.int (σ 9 0), .int (σ 9 1), .int (σ 9 2), .ref (ad 10), .ref (ad 11), .ref (ad 12)])),
  (ad 10, .inl (cI, 80, .inl (σ 10))),
  (ad 11, .inl (cI, 8, .inl (σ 11))),
  (ad 12, .inr (9, [.int (σ 12 0), .int (σ 12 1), .ref (ad 13), .ref (ad 14), .ref (ad 15)])),
  (ad 13, .inl (cI, 160, .inl (σ 13))),
  (ad 14, .inl (cI, 8, .inl (σ 14))),
  (ad 15, .inl (cI, 160, .inl (σ 15))),
  (ad 16, .inr (5, [.int (σ 16 0), .int (σ 16 1), .int (σ 16 2), .ref (ad 17)])),
  (ad 17, .inl (cI, 8, .inl (σ 17))),
  (ad 18, .inr (9, [.int (σ 18 0), .int (σ 18 1), .ref (ad 19), .ref (ad 20), .ref (ad 21)])),
  (ad 19, .inl (cI, 160, .inl (σ 19))),
  (ad 20, .inl (cI, 8, .inl (σ 20))),
  (ad 21, .inl (cI, 160, .inl (σ 21))),
  (ad 22, .inr (9, [.int (σ 22 0), .int (σ 22 1), .ref (ad 23), .ref (ad 24), .ref (ad 25)])),
  (ad 23, .inl (cI, 160, .inl (σ 23))),
  (ad 24, .inl (cI, 8, .inl (σ 24))),
  (ad 25, .inl (cI, 160, .inl (σ 25))),
  (ad 26, .inr (4, [.ref (ad 22), .ref (ad 2), .ref (ad 27), .ref (ad 28), .ref (ad 29), .ref (ad 30), .int (σ 26 6), .int (σ 26 7)])),
  (ad 27, .inl (cI, 64, .inl (σ 27))),
  (ad 28, .inl (cI, 64, .inl (σ 28))),
  (ad 29, .inl (cI, 4096, .inl (σ 29))),
  (ad 30, .inl (cI, 4096, .inl (σ 30))),
  (ad 31, .inr (0, [.ref (ad 26), .ref (ad 16), .ref (ad 32), .ref (ad 33), .ref (ad 34), .ref (ad 35), .ref (ad 36), .ref (ad 37), .int (σ 31 8), .int (σ 31 9), .int (σ 31 10), .int (σ 31 11), .int (σ 31 12)])),
  (ad 32, .inl (cI, 350, .inl (σ 32))),
  (ad 33, .inl (cI, 1400, .inl (σ 33))),
  (ad 34, .inl (cI, 3159, .inl (σ 34))),
  (ad 35, .inl (cI, 3159, .inl (σ 35))),
  (ad 36, .inl (cI, 1024, .inl (σ 36))),
  (ad 37, .inl (cI, 350, .inl (σ 37))),
  (ad 38, .inr (7, [.int (σ 38 0), .int (σ 38 1), .ref (ad 39), .ref (ad 40), .ref (ad 41), .ref (ad 42)])),
  (ad 39, .inl (cI, 20, .inl (σ 39))),
  (ad 40, .inl (cI, 20, .inl (σ 40))),
  (ad 41, .inl (cI, 20, .inl (σ 41))),
  (ad 42, .inl (cI, 24, .inl (σ 42))),
  (ad 43, .inr (2, [.ref (ad 38), .ref (ad 26), .ref (ad 31), .ref (ad 16), .ref (ad 18), .ref (ad 44), .ref (ad 45), .ref (ad 46), .int (σ 43 8)])),
  (ad 44, .inl (cI, 8, .inl (σ 44))),
  (ad 45, .inl (cI, 8, .inl (σ 45))),
  (ad 46, .inl (cI, 8, .inl (σ 46))),
  (ad 47, .inr (1, [.int (σ 47 0), .ref (ad 48), .ref (ad 49)])),
  (ad 48, .inl (cI, 12, .inl (σ 48))),
  (ad 49, .inl (cI, 12, .inl (σ 49))),
  (ad 50, .inr (8, [.ref (ad 38), .ref (ad 51), .ref (ad 52), .ref (ad 53), .ref (ad 54)])),
  (ad 51, .inl (cI, 6, .inl (σ 51))),
  (ad 52, .inl (cI, 6, .inl (σ 52))),
  (ad 53, .inl (cI, 6, .inl (σ 53))),
  (ad 54, .inl (cL, 360, .inr (.inl (τ 54)))),
  (ad 55, .inr (11, [.ref (ad 56), .ref (ad 57), .ref (ad 58), .ref (ad 59), .int (σ 55 4), .int (σ 55 5), .int (σ 55 6), .ref (ad 60), .ref (ad 61), .int (σ 55 9), .int (σ 55 10), .ref (ad 62), .int (σ 55 12), .int (σ 55 13), .ref (ad 63), .int (σ 55 15), .ref (ad 64), .ref (ad 65), .int (σ 55 18), .int (σ 55 19), .int (σ 55 20), .int (σ 55 21), .int (σ 55 22), .ref (ad 66), .ref (ad 67), .int (σ 55 25), .int (σ 55 26), .int (σ 55 27), .ref (ad 68), .ref (ad 69), .int (σ 55 30), .int (σ 55 31), .int (σ 55 32), .ref (ad 70), .ref (ad 71), .ref (ad 72), .ref (ad 73), .int (σ 55 37), .ref (ad 74), .ref (ad 75), .ref (ad 76), .ref (ad 77), .int (σ 55 42), .ref (ad 78), .ref (ad 79), .int (σ 55 45), .int (σ 55 46), .int (σ 55 47), .ref (ad 80), .ref (ad 81), .int (σ 55 50), .ref (ad 82), .ref (ad 83), .ref (ad 84), .ref (ad 85), .int (σ 55 55), .int (σ 55 56), .int (σ 55 57), .ref (ad 86), .ref (ad 87), .ref (ad 88), .ref (ad 89)])),
  (ad 56, .inl (cI, 68, .inl (σ 56))),
  (ad 57, .inl (cI, 40, .inl (σ 57))),
  (ad 58, .inl (cI, 40, .inl (σ 58))),
  (ad 59, .inl (cI, 40, .inl (σ 59))),
  (ad 60, .inl (cI, 4, .inl (σ 60))),
  (ad 61, .inl (cI, 4, .inl (σ 61))),
  (ad 62, .inl (cI, 8, .inl (σ 62))),
  (ad 63, .inl (cI, 80, .inl (σ 63))),
  (ad 64, .inl (cI, 160, .inl (σ 64))),
  (ad 65, .inl (cI, 2, .inl (σ 65))),
  (ad 66, .inl (cI, 8, .inl (σ 66))),
  (ad 67, .inl (cI, 8, .inl (σ 67))),
  (ad 68, .inl (cI, 4, .inl (σ 68))),
  (ad 69, .inl (cI, 4, .inl (σ 69))),
  (ad 70, .inl (cI, 20, .inl (σ 70))),
  (ad 71, .inl (cI, 20, .inl (σ 71))),
  (ad 72, .inl (cI, 160, .inl (σ 72))),
  (ad 73, .inl (cI, 20, .inl (σ 73))),
  (ad 74, .inl (cI, 65536, .inl (σ 74))),
  (ad 75, .inl (cI, 65536, .inl (σ 75))),
  (ad 76, .inl (cI, 65536, .inl (σ 76))),
  (ad 77, .inl (cI, 65536, .inl (σ 77))),
  (ad 78, .inl (cI, 65536, .inl (σ 78))),
  (ad 79, .inl (cI, 5, .inl (σ 79))),
  (ad 80, .inl (cI, 12, .inl (σ 80))),
  (ad 81, .inl (cI, 12, .inl (σ 81))),
  (ad 82, .inl (cI, 12, .inl (σ 82))),
  (ad 83, .inl (cI, 12, .inl (σ 83))),
  (ad 84, .inl (cI, 12, .inl (σ 84))),
  (ad 85, .inl (cI, 24, .inl (σ 85))),
  (ad 86, .inl (cI, 6, .inl (σ 86))),
  (ad 87, .inl (cI, 6, .inl (σ 87))),
  (ad 88, .inl (cL, 360, .inr (.inl (τ 88)))),
  (ad 89, .inl (cL, 60, .inr (.inl (τ 89))))]
def jn : Nat := 90
section CELLS
variable (cI cL : ClassId) (ad : Nat → Nat) (σ : Nat → Nat → Int32) (τ : Nat → Nat → Int64)
theorem jc_0 : (jw cI cL ad σ τ)[0]? = some (ad 0, .inr (10, [.ref (ad 2), .ref (ad 9), .ref (ad 16), .ref (ad 18), .ref (ad 22), .ref (ad 26), .ref (ad 31), .ref (ad 38), .ref (ad 43), .ref (ad 47), .ref (ad 50), .ref (ad 1)])) := rfl
theorem jc_1 : (jw cI cL ad σ τ)[1]? = some (ad 1, .inl (cI, 8, .inl (σ 1))) := rfl
theorem jc_2 : (jw cI cL ad σ τ)[2]? = some (ad 2, .inr (3, [.int (σ 2 0), .int (σ 2 1), .int (σ 2 2), .int (σ 2 3), .ref (ad 3), .ref (ad 4), .ref (ad 5), .ref (ad 6), .ref (ad 7), .ref (ad 8)])) := rfl
theorem jc_3 : (jw cI cL ad σ τ)[3]? = some (ad 3, .inl (cI, 68, .inl (σ 3))) := rfl
theorem jc_4 : (jw cI cL ad σ τ)[4]? = some (ad 4, .inl (cI, 4, .inl (σ 4))) := rfl
theorem jc_5 : (jw cI cL ad σ τ)[5]? = some (ad 5, .inl (cI, 4, .inl (σ 5))) := rfl
theorem jc_6 : (jw cI cL ad σ τ)[6]? = some (ad 6, .inl (cI, 40, .inl (σ 6))) := rfl
theorem jc_7 : (jw cI cL ad σ τ)[7]? = some (ad 7, .inl (cI, 40, .inl (σ 7))) := rfl
theorem jc_8 : (jw cI cL ad σ τ)[8]? = some (ad 8, .inl (cI, 40, .inl (σ 8))) := rfl
theorem jc_9 : (jw cI cL ad σ τ)[9]? = some (ad 9, .inr (6, [.int (σ 9 0), .int (σ 9 1), .int (σ 9 2), .ref (ad 10), .ref (ad 11), .ref (ad 12)])) := rfl
theorem jc_10 : (jw cI cL ad σ τ)[10]? = some (ad 10, .inl (cI, 80, .inl (σ 10))) := rfl
theorem jc_11 : (jw cI cL ad σ τ)[11]? = some (ad 11, .inl (cI, 8, .inl (σ 11))) := rfl
theorem jc_12 : (jw cI cL ad σ τ)[12]? = some (ad 12, .inr (9, [.int (σ 12 0), .int (σ 12 1), .ref (ad 13), .ref (ad 14), .ref (ad 15)])) := rfl
theorem jc_13 : (jw cI cL ad σ τ)[13]? = some (ad 13, .inl (cI, 160, .inl (σ 13))) := rfl
theorem jc_14 : (jw cI cL ad σ τ)[14]? = some (ad 14, .inl (cI, 8, .inl (σ 14))) := rfl
theorem jc_15 : (jw cI cL ad σ τ)[15]? = some (ad 15, .inl (cI, 160, .inl (σ 15))) := rfl
theorem jc_16 : (jw cI cL ad σ τ)[16]? = some (ad 16, .inr (5, [.int (σ 16 0), .int (σ 16 1), .int (σ 16 2), .ref (ad 17)])) := rfl
theorem jc_17 : (jw cI cL ad σ τ)[17]? = some (ad 17, .inl (cI, 8, .inl (σ 17))) := rfl
theorem jc_18 : (jw cI cL ad σ τ)[18]? = some (ad 18, .inr (9, [.int (σ 18 0), .int (σ 18 1), .ref (ad 19), .ref (ad 20), .ref (ad 21)])) := rfl
theorem jc_19 : (jw cI cL ad σ τ)[19]? = some (ad 19, .inl (cI, 160, .inl (σ 19))) := rfl
theorem jc_20 : (jw cI cL ad σ τ)[20]? = some (ad 20, .inl (cI, 8, .inl (σ 20))) := rfl
theorem jc_21 : (jw cI cL ad σ τ)[21]? = some (ad 21, .inl (cI, 160, .inl (σ 21))) := rfl
theorem jc_22 : (jw cI cL ad σ τ)[22]? = some (ad 22, .inr (9, [.int (σ 22 0), .int (σ 22 1), .ref (ad 23), .ref (ad 24), .ref (ad 25)])) := rfl
theorem jc_23 : (jw cI cL ad σ τ)[23]? = some (ad 23, .inl (cI, 160, .inl (σ 23))) := rfl
theorem jc_24 : (jw cI cL ad σ τ)[24]? = some (ad 24, .inl (cI, 8, .inl (σ 24))) := rfl
theorem jc_25 : (jw cI cL ad σ τ)[25]? = some (ad 25, .inl (cI, 160, .inl (σ 25))) := rfl
theorem jc_26 : (jw cI cL ad σ τ)[26]? = some (ad 26, .inr (4, [.ref (ad 22), .ref (ad 2), .ref (ad 27), .ref (ad 28), .ref (ad 29), .ref (ad 30), .int (σ 26 6), .int (σ 26 7)])) := rfl
theorem jc_27 : (jw cI cL ad σ τ)[27]? = some (ad 27, .inl (cI, 64, .inl (σ 27))) := rfl
theorem jc_28 : (jw cI cL ad σ τ)[28]? = some (ad 28, .inl (cI, 64, .inl (σ 28))) := rfl
theorem jc_29 : (jw cI cL ad σ τ)[29]? = some (ad 29, .inl (cI, 4096, .inl (σ 29))) := rfl
theorem jc_30 : (jw cI cL ad σ τ)[30]? = some (ad 30, .inl (cI, 4096, .inl (σ 30))) := rfl
theorem jc_31 : (jw cI cL ad σ τ)[31]? = some (ad 31, .inr (0, [.ref (ad 26), .ref (ad 16), .ref (ad 32), .ref (ad 33), .ref (ad 34), .ref (ad 35), .ref (ad 36), .ref (ad 37), .int (σ 31 8), .int (σ 31 9), .int (σ 31 10), .int (σ 31 11), .int (σ 31 12)])) := rfl
theorem jc_32 : (jw cI cL ad σ τ)[32]? = some (ad 32, .inl (cI, 350, .inl (σ 32))) := rfl
theorem jc_33 : (jw cI cL ad σ τ)[33]? = some (ad 33, .inl (cI, 1400, .inl (σ 33))) := rfl
theorem jc_34 : (jw cI cL ad σ τ)[34]? = some (ad 34, .inl (cI, 3159, .inl (σ 34))) := rfl
theorem jc_35 : (jw cI cL ad σ τ)[35]? = some (ad 35, .inl (cI, 3159, .inl (σ 35))) := rfl
theorem jc_36 : (jw cI cL ad σ τ)[36]? = some (ad 36, .inl (cI, 1024, .inl (σ 36))) := rfl
theorem jc_37 : (jw cI cL ad σ τ)[37]? = some (ad 37, .inl (cI, 350, .inl (σ 37))) := rfl
theorem jc_38 : (jw cI cL ad σ τ)[38]? = some (ad 38, .inr (7, [.int (σ 38 0), .int (σ 38 1), .ref (ad 39), .ref (ad 40), .ref (ad 41), .ref (ad 42)])) := rfl
theorem jc_39 : (jw cI cL ad σ τ)[39]? = some (ad 39, .inl (cI, 20, .inl (σ 39))) := rfl
theorem jc_40 : (jw cI cL ad σ τ)[40]? = some (ad 40, .inl (cI, 20, .inl (σ 40))) := rfl
theorem jc_41 : (jw cI cL ad σ τ)[41]? = some (ad 41, .inl (cI, 20, .inl (σ 41))) := rfl
theorem jc_42 : (jw cI cL ad σ τ)[42]? = some (ad 42, .inl (cI, 24, .inl (σ 42))) := rfl
theorem jc_43 : (jw cI cL ad σ τ)[43]? = some (ad 43, .inr (2, [.ref (ad 38), .ref (ad 26), .ref (ad 31), .ref (ad 16), .ref (ad 18), .ref (ad 44), .ref (ad 45), .ref (ad 46), .int (σ 43 8)])) := rfl
theorem jc_44 : (jw cI cL ad σ τ)[44]? = some (ad 44, .inl (cI, 8, .inl (σ 44))) := rfl
theorem jc_45 : (jw cI cL ad σ τ)[45]? = some (ad 45, .inl (cI, 8, .inl (σ 45))) := rfl
theorem jc_46 : (jw cI cL ad σ τ)[46]? = some (ad 46, .inl (cI, 8, .inl (σ 46))) := rfl
theorem jc_47 : (jw cI cL ad σ τ)[47]? = some (ad 47, .inr (1, [.int (σ 47 0), .ref (ad 48), .ref (ad 49)])) := rfl
theorem jc_48 : (jw cI cL ad σ τ)[48]? = some (ad 48, .inl (cI, 12, .inl (σ 48))) := rfl
theorem jc_49 : (jw cI cL ad σ τ)[49]? = some (ad 49, .inl (cI, 12, .inl (σ 49))) := rfl
theorem jc_50 : (jw cI cL ad σ τ)[50]? = some (ad 50, .inr (8, [.ref (ad 38), .ref (ad 51), .ref (ad 52), .ref (ad 53), .ref (ad 54)])) := rfl
theorem jc_51 : (jw cI cL ad σ τ)[51]? = some (ad 51, .inl (cI, 6, .inl (σ 51))) := rfl
theorem jc_52 : (jw cI cL ad σ τ)[52]? = some (ad 52, .inl (cI, 6, .inl (σ 52))) := rfl
theorem jc_53 : (jw cI cL ad σ τ)[53]? = some (ad 53, .inl (cI, 6, .inl (σ 53))) := rfl
theorem jc_54 : (jw cI cL ad σ τ)[54]? = some (ad 54, .inl (cL, 360, .inr (.inl (τ 54)))) := rfl
theorem jc_55 : (jw cI cL ad σ τ)[55]? = some (ad 55, .inr (11, [.ref (ad 56), .ref (ad 57), .ref (ad 58), .ref (ad 59), .int (σ 55 4), .int (σ 55 5), .int (σ 55 6), .ref (ad 60), .ref (ad 61), .int (σ 55 9), .int (σ 55 10), .ref (ad 62), .int (σ 55 12), .int (σ 55 13), .ref (ad 63), .int (σ 55 15), .ref (ad 64), .ref (ad 65), .int (σ 55 18), .int (σ 55 19), .int (σ 55 20), .int (σ 55 21), .int (σ 55 22), .ref (ad 66), .ref (ad 67), .int (σ 55 25), .int (σ 55 26), .int (σ 55 27), .ref (ad 68), .ref (ad 69), .int (σ 55 30), .int (σ 55 31), .int (σ 55 32), .ref (ad 70), .ref (ad 71), .ref (ad 72), .ref (ad 73), .int (σ 55 37), .ref (ad 74), .ref (ad 75), .ref (ad 76), .ref (ad 77), .int (σ 55 42), .ref (ad 78), .ref (ad 79), .int (σ 55 45), .int (σ 55 46), .int (σ 55 47), .ref (ad 80), .ref (ad 81), .int (σ 55 50), .ref (ad 82), .ref (ad 83), .ref (ad 84), .ref (ad 85), .int (σ 55 55), .int (σ 55 56), .int (σ 55 57), .ref (ad 86), .ref (ad 87), .ref (ad 88), .ref (ad 89)])) := rfl
theorem jc_56 : (jw cI cL ad σ τ)[56]? = some (ad 56, .inl (cI, 68, .inl (σ 56))) := rfl
theorem jc_57 : (jw cI cL ad σ τ)[57]? = some (ad 57, .inl (cI, 40, .inl (σ 57))) := rfl
theorem jc_58 : (jw cI cL ad σ τ)[58]? = some (ad 58, .inl (cI, 40, .inl (σ 58))) := rfl
theorem jc_59 : (jw cI cL ad σ τ)[59]? = some (ad 59, .inl (cI, 40, .inl (σ 59))) := rfl
theorem jc_60 : (jw cI cL ad σ τ)[60]? = some (ad 60, .inl (cI, 4, .inl (σ 60))) := rfl
theorem jc_61 : (jw cI cL ad σ τ)[61]? = some (ad 61, .inl (cI, 4, .inl (σ 61))) := rfl
theorem jc_62 : (jw cI cL ad σ τ)[62]? = some (ad 62, .inl (cI, 8, .inl (σ 62))) := rfl
theorem jc_63 : (jw cI cL ad σ τ)[63]? = some (ad 63, .inl (cI, 80, .inl (σ 63))) := rfl
theorem jc_64 : (jw cI cL ad σ τ)[64]? = some (ad 64, .inl (cI, 160, .inl (σ 64))) := rfl
theorem jc_65 : (jw cI cL ad σ τ)[65]? = some (ad 65, .inl (cI, 2, .inl (σ 65))) := rfl
theorem jc_66 : (jw cI cL ad σ τ)[66]? = some (ad 66, .inl (cI, 8, .inl (σ 66))) := rfl
theorem jc_67 : (jw cI cL ad σ τ)[67]? = some (ad 67, .inl (cI, 8, .inl (σ 67))) := rfl
theorem jc_68 : (jw cI cL ad σ τ)[68]? = some (ad 68, .inl (cI, 4, .inl (σ 68))) := rfl
theorem jc_69 : (jw cI cL ad σ τ)[69]? = some (ad 69, .inl (cI, 4, .inl (σ 69))) := rfl
theorem jc_70 : (jw cI cL ad σ τ)[70]? = some (ad 70, .inl (cI, 20, .inl (σ 70))) := rfl
theorem jc_71 : (jw cI cL ad σ τ)[71]? = some (ad 71, .inl (cI, 20, .inl (σ 71))) := rfl
theorem jc_72 : (jw cI cL ad σ τ)[72]? = some (ad 72, .inl (cI, 160, .inl (σ 72))) := rfl
theorem jc_73 : (jw cI cL ad σ τ)[73]? = some (ad 73, .inl (cI, 20, .inl (σ 73))) := rfl
theorem jc_74 : (jw cI cL ad σ τ)[74]? = some (ad 74, .inl (cI, 65536, .inl (σ 74))) := rfl
theorem jc_75 : (jw cI cL ad σ τ)[75]? = some (ad 75, .inl (cI, 65536, .inl (σ 75))) := rfl
theorem jc_76 : (jw cI cL ad σ τ)[76]? = some (ad 76, .inl (cI, 65536, .inl (σ 76))) := rfl
theorem jc_77 : (jw cI cL ad σ τ)[77]? = some (ad 77, .inl (cI, 65536, .inl (σ 77))) := rfl
theorem jc_78 : (jw cI cL ad σ τ)[78]? = some (ad 78, .inl (cI, 65536, .inl (σ 78))) := rfl
theorem jc_79 : (jw cI cL ad σ τ)[79]? = some (ad 79, .inl (cI, 5, .inl (σ 79))) := rfl
theorem jc_80 : (jw cI cL ad σ τ)[80]? = some (ad 80, .inl (cI, 12, .inl (σ 80))) := rfl
theorem jc_81 : (jw cI cL ad σ τ)[81]? = some (ad 81, .inl (cI, 12, .inl (σ 81))) := rfl
theorem jc_82 : (jw cI cL ad σ τ)[82]? = some (ad 82, .inl (cI, 12, .inl (σ 82))) := rfl
theorem jc_83 : (jw cI cL ad σ τ)[83]? = some (ad 83, .inl (cI, 12, .inl (σ 83))) := rfl
theorem jc_84 : (jw cI cL ad σ τ)[84]? = some (ad 84, .inl (cI, 12, .inl (σ 84))) := rfl
theorem jc_85 : (jw cI cL ad σ τ)[85]? = some (ad 85, .inl (cI, 24, .inl (σ 85))) := rfl
theorem jc_86 : (jw cI cL ad σ τ)[86]? = some (ad 86, .inl (cI, 6, .inl (σ 86))) := rfl
theorem jc_87 : (jw cI cL ad σ τ)[87]? = some (ad 87, .inl (cI, 6, .inl (σ 87))) := rfl
theorem jc_88 : (jw cI cL ad σ τ)[88]? = some (ad 88, .inl (cL, 360, .inr (.inl (τ 88)))) := rfl
theorem jc_89 : (jw cI cL ad σ τ)[89]? = some (ad 89, .inl (cL, 60, .inr (.inl (τ 89)))) := rfl
theorem ja_1 (k : Nat) (v : Int32) : (jw cI cL ad σ τ).set 1 (ad 1, .inl (cI, 8, .inl (upd (σ 1) k v))) = jw cI cL ad (jup σ 1 k v) τ := rfl
theorem jp_2_0 (v : Int32) : (jw cI cL ad σ τ).set 2 (ad 2, .inr (3, ([.int (σ 2 0), .int (σ 2 1), .int (σ 2 2), .int (σ 2 3), .ref (ad 3), .ref (ad 4), .ref (ad 5), .ref (ad 6), .ref (ad 7), .ref (ad 8)] : List Value).set 0 (.int v))) = jw cI cL ad (jup σ 2 0 v) τ := rfl
theorem jp_2_1 (v : Int32) : (jw cI cL ad σ τ).set 2 (ad 2, .inr (3, ([.int (σ 2 0), .int (σ 2 1), .int (σ 2 2), .int (σ 2 3), .ref (ad 3), .ref (ad 4), .ref (ad 5), .ref (ad 6), .ref (ad 7), .ref (ad 8)] : List Value).set 1 (.int v))) = jw cI cL ad (jup σ 2 1 v) τ := rfl
theorem jp_2_2 (v : Int32) : (jw cI cL ad σ τ).set 2 (ad 2, .inr (3, ([.int (σ 2 0), .int (σ 2 1), .int (σ 2 2), .int (σ 2 3), .ref (ad 3), .ref (ad 4), .ref (ad 5), .ref (ad 6), .ref (ad 7), .ref (ad 8)] : List Value).set 2 (.int v))) = jw cI cL ad (jup σ 2 2 v) τ := rfl
theorem jp_2_3 (v : Int32) : (jw cI cL ad σ τ).set 2 (ad 2, .inr (3, ([.int (σ 2 0), .int (σ 2 1), .int (σ 2 2), .int (σ 2 3), .ref (ad 3), .ref (ad 4), .ref (ad 5), .ref (ad 6), .ref (ad 7), .ref (ad 8)] : List Value).set 3 (.int v))) = jw cI cL ad (jup σ 2 3 v) τ := rfl
theorem ja_3 (k : Nat) (v : Int32) : (jw cI cL ad σ τ).set 3 (ad 3, .inl (cI, 68, .inl (upd (σ 3) k v))) = jw cI cL ad (jup σ 3 k v) τ := rfl
theorem ja_4 (k : Nat) (v : Int32) : (jw cI cL ad σ τ).set 4 (ad 4, .inl (cI, 4, .inl (upd (σ 4) k v))) = jw cI cL ad (jup σ 4 k v) τ := rfl
theorem ja_5 (k : Nat) (v : Int32) : (jw cI cL ad σ τ).set 5 (ad 5, .inl (cI, 4, .inl (upd (σ 5) k v))) = jw cI cL ad (jup σ 5 k v) τ := rfl
theorem ja_6 (k : Nat) (v : Int32) : (jw cI cL ad σ τ).set 6 (ad 6, .inl (cI, 40, .inl (upd (σ 6) k v))) = jw cI cL ad (jup σ 6 k v) τ := rfl
theorem ja_7 (k : Nat) (v : Int32) : (jw cI cL ad σ τ).set 7 (ad 7, .inl (cI, 40, .inl (upd (σ 7) k v))) = jw cI cL ad (jup σ 7 k v) τ := rfl
theorem ja_8 (k : Nat) (v : Int32) : (jw cI cL ad σ τ).set 8 (ad 8, .inl (cI, 40, .inl (upd (σ 8) k v))) = jw cI cL ad (jup σ 8 k v) τ := rfl
theorem jp_9_0 (v : Int32) : (jw cI cL ad σ τ).set 9 (ad 9, .inr (6, ([.int (σ 9 0), .int (σ 9 1), .int (σ 9 2), .ref (ad 10), .ref (ad 11), .ref (ad 12)] : List Value).set 0 (.int v))) = jw cI cL ad (jup σ 9 0 v) τ := rfl
theorem jp_9_1 (v : Int32) : (jw cI cL ad σ τ).set 9 (ad 9, .inr (6, ([.int (σ 9 0), .int (σ 9 1), .int (σ 9 2), .ref (ad 10), .ref (ad 11), .ref (ad 12)] : List Value).set 1 (.int v))) = jw cI cL ad (jup σ 9 1 v) τ := rfl
theorem jp_9_2 (v : Int32) : (jw cI cL ad σ τ).set 9 (ad 9, .inr (6, ([.int (σ 9 0), .int (σ 9 1), .int (σ 9 2), .ref (ad 10), .ref (ad 11), .ref (ad 12)] : List Value).set 2 (.int v))) = jw cI cL ad (jup σ 9 2 v) τ := rfl
theorem ja_10 (k : Nat) (v : Int32) : (jw cI cL ad σ τ).set 10 (ad 10, .inl (cI, 80, .inl (upd (σ 10) k v))) = jw cI cL ad (jup σ 10 k v) τ := rfl
theorem ja_11 (k : Nat) (v : Int32) : (jw cI cL ad σ τ).set 11 (ad 11, .inl (cI, 8, .inl (upd (σ 11) k v))) = jw cI cL ad (jup σ 11 k v) τ := rfl
theorem jp_12_0 (v : Int32) : (jw cI cL ad σ τ).set 12 (ad 12, .inr (9, ([.int (σ 12 0), .int (σ 12 1), .ref (ad 13), .ref (ad 14), .ref (ad 15)] : List Value).set 0 (.int v))) = jw cI cL ad (jup σ 12 0 v) τ := rfl
theorem jp_12_1 (v : Int32) : (jw cI cL ad σ τ).set 12 (ad 12, .inr (9, ([.int (σ 12 0), .int (σ 12 1), .ref (ad 13), .ref (ad 14), .ref (ad 15)] : List Value).set 1 (.int v))) = jw cI cL ad (jup σ 12 1 v) τ := rfl
theorem ja_13 (k : Nat) (v : Int32) : (jw cI cL ad σ τ).set 13 (ad 13, .inl (cI, 160, .inl (upd (σ 13) k v))) = jw cI cL ad (jup σ 13 k v) τ := rfl
theorem ja_14 (k : Nat) (v : Int32) : (jw cI cL ad σ τ).set 14 (ad 14, .inl (cI, 8, .inl (upd (σ 14) k v))) = jw cI cL ad (jup σ 14 k v) τ := rfl
theorem ja_15 (k : Nat) (v : Int32) : (jw cI cL ad σ τ).set 15 (ad 15, .inl (cI, 160, .inl (upd (σ 15) k v))) = jw cI cL ad (jup σ 15 k v) τ := rfl
theorem jp_16_0 (v : Int32) : (jw cI cL ad σ τ).set 16 (ad 16, .inr (5, ([.int (σ 16 0), .int (σ 16 1), .int (σ 16 2), .ref (ad 17)] : List Value).set 0 (.int v))) = jw cI cL ad (jup σ 16 0 v) τ := rfl
theorem jp_16_1 (v : Int32) : (jw cI cL ad σ τ).set 16 (ad 16, .inr (5, ([.int (σ 16 0), .int (σ 16 1), .int (σ 16 2), .ref (ad 17)] : List Value).set 1 (.int v))) = jw cI cL ad (jup σ 16 1 v) τ := rfl
theorem jp_16_2 (v : Int32) : (jw cI cL ad σ τ).set 16 (ad 16, .inr (5, ([.int (σ 16 0), .int (σ 16 1), .int (σ 16 2), .ref (ad 17)] : List Value).set 2 (.int v))) = jw cI cL ad (jup σ 16 2 v) τ := rfl
theorem ja_17 (k : Nat) (v : Int32) : (jw cI cL ad σ τ).set 17 (ad 17, .inl (cI, 8, .inl (upd (σ 17) k v))) = jw cI cL ad (jup σ 17 k v) τ := rfl
theorem jp_18_0 (v : Int32) : (jw cI cL ad σ τ).set 18 (ad 18, .inr (9, ([.int (σ 18 0), .int (σ 18 1), .ref (ad 19), .ref (ad 20), .ref (ad 21)] : List Value).set 0 (.int v))) = jw cI cL ad (jup σ 18 0 v) τ := rfl
theorem jp_18_1 (v : Int32) : (jw cI cL ad σ τ).set 18 (ad 18, .inr (9, ([.int (σ 18 0), .int (σ 18 1), .ref (ad 19), .ref (ad 20), .ref (ad 21)] : List Value).set 1 (.int v))) = jw cI cL ad (jup σ 18 1 v) τ := rfl
theorem ja_19 (k : Nat) (v : Int32) : (jw cI cL ad σ τ).set 19 (ad 19, .inl (cI, 160, .inl (upd (σ 19) k v))) = jw cI cL ad (jup σ 19 k v) τ := rfl
theorem ja_20 (k : Nat) (v : Int32) : (jw cI cL ad σ τ).set 20 (ad 20, .inl (cI, 8, .inl (upd (σ 20) k v))) = jw cI cL ad (jup σ 20 k v) τ := rfl
theorem ja_21 (k : Nat) (v : Int32) : (jw cI cL ad σ τ).set 21 (ad 21, .inl (cI, 160, .inl (upd (σ 21) k v))) = jw cI cL ad (jup σ 21 k v) τ := rfl
theorem jp_22_0 (v : Int32) : (jw cI cL ad σ τ).set 22 (ad 22, .inr (9, ([.int (σ 22 0), .int (σ 22 1), .ref (ad 23), .ref (ad 24), .ref (ad 25)] : List Value).set 0 (.int v))) = jw cI cL ad (jup σ 22 0 v) τ := rfl
theorem jp_22_1 (v : Int32) : (jw cI cL ad σ τ).set 22 (ad 22, .inr (9, ([.int (σ 22 0), .int (σ 22 1), .ref (ad 23), .ref (ad 24), .ref (ad 25)] : List Value).set 1 (.int v))) = jw cI cL ad (jup σ 22 1 v) τ := rfl
theorem ja_23 (k : Nat) (v : Int32) : (jw cI cL ad σ τ).set 23 (ad 23, .inl (cI, 160, .inl (upd (σ 23) k v))) = jw cI cL ad (jup σ 23 k v) τ := rfl
theorem ja_24 (k : Nat) (v : Int32) : (jw cI cL ad σ τ).set 24 (ad 24, .inl (cI, 8, .inl (upd (σ 24) k v))) = jw cI cL ad (jup σ 24 k v) τ := rfl
theorem ja_25 (k : Nat) (v : Int32) : (jw cI cL ad σ τ).set 25 (ad 25, .inl (cI, 160, .inl (upd (σ 25) k v))) = jw cI cL ad (jup σ 25 k v) τ := rfl
theorem jp_26_6 (v : Int32) : (jw cI cL ad σ τ).set 26 (ad 26, .inr (4, ([.ref (ad 22), .ref (ad 2), .ref (ad 27), .ref (ad 28), .ref (ad 29), .ref (ad 30), .int (σ 26 6), .int (σ 26 7)] : List Value).set 6 (.int v))) = jw cI cL ad (jup σ 26 6 v) τ := rfl
theorem jp_26_7 (v : Int32) : (jw cI cL ad σ τ).set 26 (ad 26, .inr (4, ([.ref (ad 22), .ref (ad 2), .ref (ad 27), .ref (ad 28), .ref (ad 29), .ref (ad 30), .int (σ 26 6), .int (σ 26 7)] : List Value).set 7 (.int v))) = jw cI cL ad (jup σ 26 7 v) τ := rfl
theorem ja_27 (k : Nat) (v : Int32) : (jw cI cL ad σ τ).set 27 (ad 27, .inl (cI, 64, .inl (upd (σ 27) k v))) = jw cI cL ad (jup σ 27 k v) τ := rfl
theorem ja_28 (k : Nat) (v : Int32) : (jw cI cL ad σ τ).set 28 (ad 28, .inl (cI, 64, .inl (upd (σ 28) k v))) = jw cI cL ad (jup σ 28 k v) τ := rfl
theorem ja_29 (k : Nat) (v : Int32) : (jw cI cL ad σ τ).set 29 (ad 29, .inl (cI, 4096, .inl (upd (σ 29) k v))) = jw cI cL ad (jup σ 29 k v) τ := rfl
theorem ja_30 (k : Nat) (v : Int32) : (jw cI cL ad σ τ).set 30 (ad 30, .inl (cI, 4096, .inl (upd (σ 30) k v))) = jw cI cL ad (jup σ 30 k v) τ := rfl
theorem jp_31_8 (v : Int32) : (jw cI cL ad σ τ).set 31 (ad 31, .inr (0, ([.ref (ad 26), .ref (ad 16), .ref (ad 32), .ref (ad 33), .ref (ad 34), .ref (ad 35), .ref (ad 36), .ref (ad 37), .int (σ 31 8), .int (σ 31 9), .int (σ 31 10), .int (σ 31 11), .int (σ 31 12)] : List Value).set 8 (.int v))) = jw cI cL ad (jup σ 31 8 v) τ := rfl
theorem jp_31_9 (v : Int32) : (jw cI cL ad σ τ).set 31 (ad 31, .inr (0, ([.ref (ad 26), .ref (ad 16), .ref (ad 32), .ref (ad 33), .ref (ad 34), .ref (ad 35), .ref (ad 36), .ref (ad 37), .int (σ 31 8), .int (σ 31 9), .int (σ 31 10), .int (σ 31 11), .int (σ 31 12)] : List Value).set 9 (.int v))) = jw cI cL ad (jup σ 31 9 v) τ := rfl
theorem jp_31_10 (v : Int32) : (jw cI cL ad σ τ).set 31 (ad 31, .inr (0, ([.ref (ad 26), .ref (ad 16), .ref (ad 32), .ref (ad 33), .ref (ad 34), .ref (ad 35), .ref (ad 36), .ref (ad 37), .int (σ 31 8), .int (σ 31 9), .int (σ 31 10), .int (σ 31 11), .int (σ 31 12)] : List Value).set 10 (.int v))) = jw cI cL ad (jup σ 31 10 v) τ := rfl
theorem jp_31_11 (v : Int32) : (jw cI cL ad σ τ).set 31 (ad 31, .inr (0, ([.ref (ad 26), .ref (ad 16), .ref (ad 32), .ref (ad 33), .ref (ad 34), .ref (ad 35), .ref (ad 36), .ref (ad 37), .int (σ 31 8), .int (σ 31 9), .int (σ 31 10), .int (σ 31 11), .int (σ 31 12)] : List Value).set 11 (.int v))) = jw cI cL ad (jup σ 31 11 v) τ := rfl
theorem jp_31_12 (v : Int32) : (jw cI cL ad σ τ).set 31 (ad 31, .inr (0, ([.ref (ad 26), .ref (ad 16), .ref (ad 32), .ref (ad 33), .ref (ad 34), .ref (ad 35), .ref (ad 36), .ref (ad 37), .int (σ 31 8), .int (σ 31 9), .int (σ 31 10), .int (σ 31 11), .int (σ 31 12)] : List Value).set 12 (.int v))) = jw cI cL ad (jup σ 31 12 v) τ := rfl
theorem ja_32 (k : Nat) (v : Int32) : (jw cI cL ad σ τ).set 32 (ad 32, .inl (cI, 350, .inl (upd (σ 32) k v))) = jw cI cL ad (jup σ 32 k v) τ := rfl
theorem ja_33 (k : Nat) (v : Int32) : (jw cI cL ad σ τ).set 33 (ad 33, .inl (cI, 1400, .inl (upd (σ 33) k v))) = jw cI cL ad (jup σ 33 k v) τ := rfl
theorem ja_34 (k : Nat) (v : Int32) : (jw cI cL ad σ τ).set 34 (ad 34, .inl (cI, 3159, .inl (upd (σ 34) k v))) = jw cI cL ad (jup σ 34 k v) τ := rfl
theorem ja_35 (k : Nat) (v : Int32) : (jw cI cL ad σ τ).set 35 (ad 35, .inl (cI, 3159, .inl (upd (σ 35) k v))) = jw cI cL ad (jup σ 35 k v) τ := rfl
theorem ja_36 (k : Nat) (v : Int32) : (jw cI cL ad σ τ).set 36 (ad 36, .inl (cI, 1024, .inl (upd (σ 36) k v))) = jw cI cL ad (jup σ 36 k v) τ := rfl
theorem ja_37 (k : Nat) (v : Int32) : (jw cI cL ad σ τ).set 37 (ad 37, .inl (cI, 350, .inl (upd (σ 37) k v))) = jw cI cL ad (jup σ 37 k v) τ := rfl
theorem jp_38_0 (v : Int32) : (jw cI cL ad σ τ).set 38 (ad 38, .inr (7, ([.int (σ 38 0), .int (σ 38 1), .ref (ad 39), .ref (ad 40), .ref (ad 41), .ref (ad 42)] : List Value).set 0 (.int v))) = jw cI cL ad (jup σ 38 0 v) τ := rfl
theorem jp_38_1 (v : Int32) : (jw cI cL ad σ τ).set 38 (ad 38, .inr (7, ([.int (σ 38 0), .int (σ 38 1), .ref (ad 39), .ref (ad 40), .ref (ad 41), .ref (ad 42)] : List Value).set 1 (.int v))) = jw cI cL ad (jup σ 38 1 v) τ := rfl
theorem ja_39 (k : Nat) (v : Int32) : (jw cI cL ad σ τ).set 39 (ad 39, .inl (cI, 20, .inl (upd (σ 39) k v))) = jw cI cL ad (jup σ 39 k v) τ := rfl
theorem ja_40 (k : Nat) (v : Int32) : (jw cI cL ad σ τ).set 40 (ad 40, .inl (cI, 20, .inl (upd (σ 40) k v))) = jw cI cL ad (jup σ 40 k v) τ := rfl
theorem ja_41 (k : Nat) (v : Int32) : (jw cI cL ad σ τ).set 41 (ad 41, .inl (cI, 20, .inl (upd (σ 41) k v))) = jw cI cL ad (jup σ 41 k v) τ := rfl
theorem ja_42 (k : Nat) (v : Int32) : (jw cI cL ad σ τ).set 42 (ad 42, .inl (cI, 24, .inl (upd (σ 42) k v))) = jw cI cL ad (jup σ 42 k v) τ := rfl
theorem jp_43_8 (v : Int32) : (jw cI cL ad σ τ).set 43 (ad 43, .inr (2, ([.ref (ad 38), .ref (ad 26), .ref (ad 31), .ref (ad 16), .ref (ad 18), .ref (ad 44), .ref (ad 45), .ref (ad 46), .int (σ 43 8)] : List Value).set 8 (.int v))) = jw cI cL ad (jup σ 43 8 v) τ := rfl
theorem ja_44 (k : Nat) (v : Int32) : (jw cI cL ad σ τ).set 44 (ad 44, .inl (cI, 8, .inl (upd (σ 44) k v))) = jw cI cL ad (jup σ 44 k v) τ := rfl
theorem ja_45 (k : Nat) (v : Int32) : (jw cI cL ad σ τ).set 45 (ad 45, .inl (cI, 8, .inl (upd (σ 45) k v))) = jw cI cL ad (jup σ 45 k v) τ := rfl
theorem ja_46 (k : Nat) (v : Int32) : (jw cI cL ad σ τ).set 46 (ad 46, .inl (cI, 8, .inl (upd (σ 46) k v))) = jw cI cL ad (jup σ 46 k v) τ := rfl
theorem jp_47_0 (v : Int32) : (jw cI cL ad σ τ).set 47 (ad 47, .inr (1, ([.int (σ 47 0), .ref (ad 48), .ref (ad 49)] : List Value).set 0 (.int v))) = jw cI cL ad (jup σ 47 0 v) τ := rfl
theorem ja_48 (k : Nat) (v : Int32) : (jw cI cL ad σ τ).set 48 (ad 48, .inl (cI, 12, .inl (upd (σ 48) k v))) = jw cI cL ad (jup σ 48 k v) τ := rfl
theorem ja_49 (k : Nat) (v : Int32) : (jw cI cL ad σ τ).set 49 (ad 49, .inl (cI, 12, .inl (upd (σ 49) k v))) = jw cI cL ad (jup σ 49 k v) τ := rfl
theorem ja_51 (k : Nat) (v : Int32) : (jw cI cL ad σ τ).set 51 (ad 51, .inl (cI, 6, .inl (upd (σ 51) k v))) = jw cI cL ad (jup σ 51 k v) τ := rfl
theorem ja_52 (k : Nat) (v : Int32) : (jw cI cL ad σ τ).set 52 (ad 52, .inl (cI, 6, .inl (upd (σ 52) k v))) = jw cI cL ad (jup σ 52 k v) τ := rfl
theorem ja_53 (k : Nat) (v : Int32) : (jw cI cL ad σ τ).set 53 (ad 53, .inl (cI, 6, .inl (upd (σ 53) k v))) = jw cI cL ad (jup σ 53 k v) τ := rfl
theorem ja_54 (k : Nat) (v : Int64) : (jw cI cL ad σ τ).set 54 (ad 54, .inl (cL, 360, .inr (.inl (vp_updL (τ 54) k v)))) = jw cI cL ad σ (jupL τ 54 k v) := rfl
theorem jp_55_4 (v : Int32) : (jw cI cL ad σ τ).set 55 (ad 55, .inr (11, ([.ref (ad 56), .ref (ad 57), .ref (ad 58), .ref (ad 59), .int (σ 55 4), .int (σ 55 5), .int (σ 55 6), .ref (ad 60), .ref (ad 61), .int (σ 55 9), .int (σ 55 10), .ref (ad 62), .int (σ 55 12), .int (σ 55 13), .ref (ad 63), .int (σ 55 15), .ref (ad 64), .ref (ad 65), .int (σ 55 18), .int (σ 55 19), .int (σ 55 20), .int (σ 55 21), .int (σ 55 22), .ref (ad 66), .ref (ad 67), .int (σ 55 25), .int (σ 55 26), .int (σ 55 27), .ref (ad 68), .ref (ad 69), .int (σ 55 30), .int (σ 55 31), .int (σ 55 32), .ref (ad 70), .ref (ad 71), .ref (ad 72), .ref (ad 73), .int (σ 55 37), .ref (ad 74), .ref (ad 75), .ref (ad 76), .ref (ad 77), .int (σ 55 42), .ref (ad 78), .ref (ad 79), .int (σ 55 45), .int (σ 55 46), .int (σ 55 47), .ref (ad 80), .ref (ad 81), .int (σ 55 50), .ref (ad 82), .ref (ad 83), .ref (ad 84), .ref (ad 85), .int (σ 55 55), .int (σ 55 56), .int (σ 55 57), .ref (ad 86), .ref (ad 87), .ref (ad 88), .ref (ad 89)] : List Value).set 4 (.int v))) = jw cI cL ad (jup σ 55 4 v) τ := rfl
theorem jp_55_5 (v : Int32) : (jw cI cL ad σ τ).set 55 (ad 55, .inr (11, ([.ref (ad 56), .ref (ad 57), .ref (ad 58), .ref (ad 59), .int (σ 55 4), .int (σ 55 5), .int (σ 55 6), .ref (ad 60), .ref (ad 61), .int (σ 55 9), .int (σ 55 10), .ref (ad 62), .int (σ 55 12), .int (σ 55 13), .ref (ad 63), .int (σ 55 15), .ref (ad 64), .ref (ad 65), .int (σ 55 18), .int (σ 55 19), .int (σ 55 20), .int (σ 55 21), .int (σ 55 22), .ref (ad 66), .ref (ad 67), .int (σ 55 25), .int (σ 55 26), .int (σ 55 27), .ref (ad 68), .ref (ad 69), .int (σ 55 30), .int (σ 55 31), .int (σ 55 32), .ref (ad 70), .ref (ad 71), .ref (ad 72), .ref (ad 73), .int (σ 55 37), .ref (ad 74), .ref (ad 75), .ref (ad 76), .ref (ad 77), .int (σ 55 42), .ref (ad 78), .ref (ad 79), .int (σ 55 45), .int (σ 55 46), .int (σ 55 47), .ref (ad 80), .ref (ad 81), .int (σ 55 50), .ref (ad 82), .ref (ad 83), .ref (ad 84), .ref (ad 85), .int (σ 55 55), .int (σ 55 56), .int (σ 55 57), .ref (ad 86), .ref (ad 87), .ref (ad 88), .ref (ad 89)] : List Value).set 5 (.int v))) = jw cI cL ad (jup σ 55 5 v) τ := rfl
theorem jp_55_6 (v : Int32) : (jw cI cL ad σ τ).set 55 (ad 55, .inr (11, ([.ref (ad 56), .ref (ad 57), .ref (ad 58), .ref (ad 59), .int (σ 55 4), .int (σ 55 5), .int (σ 55 6), .ref (ad 60), .ref (ad 61), .int (σ 55 9), .int (σ 55 10), .ref (ad 62), .int (σ 55 12), .int (σ 55 13), .ref (ad 63), .int (σ 55 15), .ref (ad 64), .ref (ad 65), .int (σ 55 18), .int (σ 55 19), .int (σ 55 20), .int (σ 55 21), .int (σ 55 22), .ref (ad 66), .ref (ad 67), .int (σ 55 25), .int (σ 55 26), .int (σ 55 27), .ref (ad 68), .ref (ad 69), .int (σ 55 30), .int (σ 55 31), .int (σ 55 32), .ref (ad 70), .ref (ad 71), .ref (ad 72), .ref (ad 73), .int (σ 55 37), .ref (ad 74), .ref (ad 75), .ref (ad 76), .ref (ad 77), .int (σ 55 42), .ref (ad 78), .ref (ad 79), .int (σ 55 45), .int (σ 55 46), .int (σ 55 47), .ref (ad 80), .ref (ad 81), .int (σ 55 50), .ref (ad 82), .ref (ad 83), .ref (ad 84), .ref (ad 85), .int (σ 55 55), .int (σ 55 56), .int (σ 55 57), .ref (ad 86), .ref (ad 87), .ref (ad 88), .ref (ad 89)] : List Value).set 6 (.int v))) = jw cI cL ad (jup σ 55 6 v) τ := rfl
theorem jp_55_9 (v : Int32) : (jw cI cL ad σ τ).set 55 (ad 55, .inr (11, ([.ref (ad 56), .ref (ad 57), .ref (ad 58), .ref (ad 59), .int (σ 55 4), .int (σ 55 5), .int (σ 55 6), .ref (ad 60), .ref (ad 61), .int (σ 55 9), .int (σ 55 10), .ref (ad 62), .int (σ 55 12), .int (σ 55 13), .ref (ad 63), .int (σ 55 15), .ref (ad 64), .ref (ad 65), .int (σ 55 18), .int (σ 55 19), .int (σ 55 20), .int (σ 55 21), .int (σ 55 22), .ref (ad 66), .ref (ad 67), .int (σ 55 25), .int (σ 55 26), .int (σ 55 27), .ref (ad 68), .ref (ad 69), .int (σ 55 30), .int (σ 55 31), .int (σ 55 32), .ref (ad 70), .ref (ad 71), .ref (ad 72), .ref (ad 73), .int (σ 55 37), .ref (ad 74), .ref (ad 75), .ref (ad 76), .ref (ad 77), .int (σ 55 42), .ref (ad 78), .ref (ad 79), .int (σ 55 45), .int (σ 55 46), .int (σ 55 47), .ref (ad 80), .ref (ad 81), .int (σ 55 50), .ref (ad 82), .ref (ad 83), .ref (ad 84), .ref (ad 85), .int (σ 55 55), .int (σ 55 56), .int (σ 55 57), .ref (ad 86), .ref (ad 87), .ref (ad 88), .ref (ad 89)] : List Value).set 9 (.int v))) = jw cI cL ad (jup σ 55 9 v) τ := rfl
theorem jp_55_10 (v : Int32) : (jw cI cL ad σ τ).set 55 (ad 55, .inr (11, ([.ref (ad 56), .ref (ad 57), .ref (ad 58), .ref (ad 59), .int (σ 55 4), .int (σ 55 5), .int (σ 55 6), .ref (ad 60), .ref (ad 61), .int (σ 55 9), .int (σ 55 10), .ref (ad 62), .int (σ 55 12), .int (σ 55 13), .ref (ad 63), .int (σ 55 15), .ref (ad 64), .ref (ad 65), .int (σ 55 18), .int (σ 55 19), .int (σ 55 20), .int (σ 55 21), .int (σ 55 22), .ref (ad 66), .ref (ad 67), .int (σ 55 25), .int (σ 55 26), .int (σ 55 27), .ref (ad 68), .ref (ad 69), .int (σ 55 30), .int (σ 55 31), .int (σ 55 32), .ref (ad 70), .ref (ad 71), .ref (ad 72), .ref (ad 73), .int (σ 55 37), .ref (ad 74), .ref (ad 75), .ref (ad 76), .ref (ad 77), .int (σ 55 42), .ref (ad 78), .ref (ad 79), .int (σ 55 45), .int (σ 55 46), .int (σ 55 47), .ref (ad 80), .ref (ad 81), .int (σ 55 50), .ref (ad 82), .ref (ad 83), .ref (ad 84), .ref (ad 85), .int (σ 55 55), .int (σ 55 56), .int (σ 55 57), .ref (ad 86), .ref (ad 87), .ref (ad 88), .ref (ad 89)] : List Value).set 10 (.int v))) = jw cI cL ad (jup σ 55 10 v) τ := rfl
theorem jp_55_12 (v : Int32) : (jw cI cL ad σ τ).set 55 (ad 55, .inr (11, ([.ref (ad 56), .ref (ad 57), .ref (ad 58), .ref (ad 59), .int (σ 55 4), .int (σ 55 5), .int (σ 55 6), .ref (ad 60), .ref (ad 61), .int (σ 55 9), .int (σ 55 10), .ref (ad 62), .int (σ 55 12), .int (σ 55 13), .ref (ad 63), .int (σ 55 15), .ref (ad 64), .ref (ad 65), .int (σ 55 18), .int (σ 55 19), .int (σ 55 20), .int (σ 55 21), .int (σ 55 22), .ref (ad 66), .ref (ad 67), .int (σ 55 25), .int (σ 55 26), .int (σ 55 27), .ref (ad 68), .ref (ad 69), .int (σ 55 30), .int (σ 55 31), .int (σ 55 32), .ref (ad 70), .ref (ad 71), .ref (ad 72), .ref (ad 73), .int (σ 55 37), .ref (ad 74), .ref (ad 75), .ref (ad 76), .ref (ad 77), .int (σ 55 42), .ref (ad 78), .ref (ad 79), .int (σ 55 45), .int (σ 55 46), .int (σ 55 47), .ref (ad 80), .ref (ad 81), .int (σ 55 50), .ref (ad 82), .ref (ad 83), .ref (ad 84), .ref (ad 85), .int (σ 55 55), .int (σ 55 56), .int (σ 55 57), .ref (ad 86), .ref (ad 87), .ref (ad 88), .ref (ad 89)] : List Value).set 12 (.int v))) = jw cI cL ad (jup σ 55 12 v) τ := rfl
theorem jp_55_13 (v : Int32) : (jw cI cL ad σ τ).set 55 (ad 55, .inr (11, ([.ref (ad 56), .ref (ad 57), .ref (ad 58), .ref (ad 59), .int (σ 55 4), .int (σ 55 5), .int (σ 55 6), .ref (ad 60), .ref (ad 61), .int (σ 55 9), .int (σ 55 10), .ref (ad 62), .int (σ 55 12), .int (σ 55 13), .ref (ad 63), .int (σ 55 15), .ref (ad 64), .ref (ad 65), .int (σ 55 18), .int (σ 55 19), .int (σ 55 20), .int (σ 55 21), .int (σ 55 22), .ref (ad 66), .ref (ad 67), .int (σ 55 25), .int (σ 55 26), .int (σ 55 27), .ref (ad 68), .ref (ad 69), .int (σ 55 30), .int (σ 55 31), .int (σ 55 32), .ref (ad 70), .ref (ad 71), .ref (ad 72), .ref (ad 73), .int (σ 55 37), .ref (ad 74), .ref (ad 75), .ref (ad 76), .ref (ad 77), .int (σ 55 42), .ref (ad 78), .ref (ad 79), .int (σ 55 45), .int (σ 55 46), .int (σ 55 47), .ref (ad 80), .ref (ad 81), .int (σ 55 50), .ref (ad 82), .ref (ad 83), .ref (ad 84), .ref (ad 85), .int (σ 55 55), .int (σ 55 56), .int (σ 55 57), .ref (ad 86), .ref (ad 87), .ref (ad 88), .ref (ad 89)] : List Value).set 13 (.int v))) = jw cI cL ad (jup σ 55 13 v) τ := rfl
theorem jp_55_15 (v : Int32) : (jw cI cL ad σ τ).set 55 (ad 55, .inr (11, ([.ref (ad 56), .ref (ad 57), .ref (ad 58), .ref (ad 59), .int (σ 55 4), .int (σ 55 5), .int (σ 55 6), .ref (ad 60), .ref (ad 61), .int (σ 55 9), .int (σ 55 10), .ref (ad 62), .int (σ 55 12), .int (σ 55 13), .ref (ad 63), .int (σ 55 15), .ref (ad 64), .ref (ad 65), .int (σ 55 18), .int (σ 55 19), .int (σ 55 20), .int (σ 55 21), .int (σ 55 22), .ref (ad 66), .ref (ad 67), .int (σ 55 25), .int (σ 55 26), .int (σ 55 27), .ref (ad 68), .ref (ad 69), .int (σ 55 30), .int (σ 55 31), .int (σ 55 32), .ref (ad 70), .ref (ad 71), .ref (ad 72), .ref (ad 73), .int (σ 55 37), .ref (ad 74), .ref (ad 75), .ref (ad 76), .ref (ad 77), .int (σ 55 42), .ref (ad 78), .ref (ad 79), .int (σ 55 45), .int (σ 55 46), .int (σ 55 47), .ref (ad 80), .ref (ad 81), .int (σ 55 50), .ref (ad 82), .ref (ad 83), .ref (ad 84), .ref (ad 85), .int (σ 55 55), .int (σ 55 56), .int (σ 55 57), .ref (ad 86), .ref (ad 87), .ref (ad 88), .ref (ad 89)] : List Value).set 15 (.int v))) = jw cI cL ad (jup σ 55 15 v) τ := rfl
theorem jp_55_18 (v : Int32) : (jw cI cL ad σ τ).set 55 (ad 55, .inr (11, ([.ref (ad 56), .ref (ad 57), .ref (ad 58), .ref (ad 59), .int (σ 55 4), .int (σ 55 5), .int (σ 55 6), .ref (ad 60), .ref (ad 61), .int (σ 55 9), .int (σ 55 10), .ref (ad 62), .int (σ 55 12), .int (σ 55 13), .ref (ad 63), .int (σ 55 15), .ref (ad 64), .ref (ad 65), .int (σ 55 18), .int (σ 55 19), .int (σ 55 20), .int (σ 55 21), .int (σ 55 22), .ref (ad 66), .ref (ad 67), .int (σ 55 25), .int (σ 55 26), .int (σ 55 27), .ref (ad 68), .ref (ad 69), .int (σ 55 30), .int (σ 55 31), .int (σ 55 32), .ref (ad 70), .ref (ad 71), .ref (ad 72), .ref (ad 73), .int (σ 55 37), .ref (ad 74), .ref (ad 75), .ref (ad 76), .ref (ad 77), .int (σ 55 42), .ref (ad 78), .ref (ad 79), .int (σ 55 45), .int (σ 55 46), .int (σ 55 47), .ref (ad 80), .ref (ad 81), .int (σ 55 50), .ref (ad 82), .ref (ad 83), .ref (ad 84), .ref (ad 85), .int (σ 55 55), .int (σ 55 56), .int (σ 55 57), .ref (ad 86), .ref (ad 87), .ref (ad 88), .ref (ad 89)] : List Value).set 18 (.int v))) = jw cI cL ad (jup σ 55 18 v) τ := rfl
theorem jp_55_19 (v : Int32) : (jw cI cL ad σ τ).set 55 (ad 55, .inr (11, ([.ref (ad 56), .ref (ad 57), .ref (ad 58), .ref (ad 59), .int (σ 55 4), .int (σ 55 5), .int (σ 55 6), .ref (ad 60), .ref (ad 61), .int (σ 55 9), .int (σ 55 10), .ref (ad 62), .int (σ 55 12), .int (σ 55 13), .ref (ad 63), .int (σ 55 15), .ref (ad 64), .ref (ad 65), .int (σ 55 18), .int (σ 55 19), .int (σ 55 20), .int (σ 55 21), .int (σ 55 22), .ref (ad 66), .ref (ad 67), .int (σ 55 25), .int (σ 55 26), .int (σ 55 27), .ref (ad 68), .ref (ad 69), .int (σ 55 30), .int (σ 55 31), .int (σ 55 32), .ref (ad 70), .ref (ad 71), .ref (ad 72), .ref (ad 73), .int (σ 55 37), .ref (ad 74), .ref (ad 75), .ref (ad 76), .ref (ad 77), .int (σ 55 42), .ref (ad 78), .ref (ad 79), .int (σ 55 45), .int (σ 55 46), .int (σ 55 47), .ref (ad 80), .ref (ad 81), .int (σ 55 50), .ref (ad 82), .ref (ad 83), .ref (ad 84), .ref (ad 85), .int (σ 55 55), .int (σ 55 56), .int (σ 55 57), .ref (ad 86), .ref (ad 87), .ref (ad 88), .ref (ad 89)] : List Value).set 19 (.int v))) = jw cI cL ad (jup σ 55 19 v) τ := rfl
theorem jp_55_20 (v : Int32) : (jw cI cL ad σ τ).set 55 (ad 55, .inr (11, ([.ref (ad 56), .ref (ad 57), .ref (ad 58), .ref (ad 59), .int (σ 55 4), .int (σ 55 5), .int (σ 55 6), .ref (ad 60), .ref (ad 61), .int (σ 55 9), .int (σ 55 10), .ref (ad 62), .int (σ 55 12), .int (σ 55 13), .ref (ad 63), .int (σ 55 15), .ref (ad 64), .ref (ad 65), .int (σ 55 18), .int (σ 55 19), .int (σ 55 20), .int (σ 55 21), .int (σ 55 22), .ref (ad 66), .ref (ad 67), .int (σ 55 25), .int (σ 55 26), .int (σ 55 27), .ref (ad 68), .ref (ad 69), .int (σ 55 30), .int (σ 55 31), .int (σ 55 32), .ref (ad 70), .ref (ad 71), .ref (ad 72), .ref (ad 73), .int (σ 55 37), .ref (ad 74), .ref (ad 75), .ref (ad 76), .ref (ad 77), .int (σ 55 42), .ref (ad 78), .ref (ad 79), .int (σ 55 45), .int (σ 55 46), .int (σ 55 47), .ref (ad 80), .ref (ad 81), .int (σ 55 50), .ref (ad 82), .ref (ad 83), .ref (ad 84), .ref (ad 85), .int (σ 55 55), .int (σ 55 56), .int (σ 55 57), .ref (ad 86), .ref (ad 87), .ref (ad 88), .ref (ad 89)] : List Value).set 20 (.int v))) = jw cI cL ad (jup σ 55 20 v) τ := rfl
theorem jp_55_21 (v : Int32) : (jw cI cL ad σ τ).set 55 (ad 55, .inr (11, ([.ref (ad 56), .ref (ad 57), .ref (ad 58), .ref (ad 59), .int (σ 55 4), .int (σ 55 5), .int (σ 55 6), .ref (ad 60), .ref (ad 61), .int (σ 55 9), .int (σ 55 10), .ref (ad 62), .int (σ 55 12), .int (σ 55 13), .ref (ad 63), .int (σ 55 15), .ref (ad 64), .ref (ad 65), .int (σ 55 18), .int (σ 55 19), .int (σ 55 20), .int (σ 55 21), .int (σ 55 22), .ref (ad 66), .ref (ad 67), .int (σ 55 25), .int (σ 55 26), .int (σ 55 27), .ref (ad 68), .ref (ad 69), .int (σ 55 30), .int (σ 55 31), .int (σ 55 32), .ref (ad 70), .ref (ad 71), .ref (ad 72), .ref (ad 73), .int (σ 55 37), .ref (ad 74), .ref (ad 75), .ref (ad 76), .ref (ad 77), .int (σ 55 42), .ref (ad 78), .ref (ad 79), .int (σ 55 45), .int (σ 55 46), .int (σ 55 47), .ref (ad 80), .ref (ad 81), .int (σ 55 50), .ref (ad 82), .ref (ad 83), .ref (ad 84), .ref (ad 85), .int (σ 55 55), .int (σ 55 56), .int (σ 55 57), .ref (ad 86), .ref (ad 87), .ref (ad 88), .ref (ad 89)] : List Value).set 21 (.int v))) = jw cI cL ad (jup σ 55 21 v) τ := rfl
theorem jp_55_22 (v : Int32) : (jw cI cL ad σ τ).set 55 (ad 55, .inr (11, ([.ref (ad 56), .ref (ad 57), .ref (ad 58), .ref (ad 59), .int (σ 55 4), .int (σ 55 5), .int (σ 55 6), .ref (ad 60), .ref (ad 61), .int (σ 55 9), .int (σ 55 10), .ref (ad 62), .int (σ 55 12), .int (σ 55 13), .ref (ad 63), .int (σ 55 15), .ref (ad 64), .ref (ad 65), .int (σ 55 18), .int (σ 55 19), .int (σ 55 20), .int (σ 55 21), .int (σ 55 22), .ref (ad 66), .ref (ad 67), .int (σ 55 25), .int (σ 55 26), .int (σ 55 27), .ref (ad 68), .ref (ad 69), .int (σ 55 30), .int (σ 55 31), .int (σ 55 32), .ref (ad 70), .ref (ad 71), .ref (ad 72), .ref (ad 73), .int (σ 55 37), .ref (ad 74), .ref (ad 75), .ref (ad 76), .ref (ad 77), .int (σ 55 42), .ref (ad 78), .ref (ad 79), .int (σ 55 45), .int (σ 55 46), .int (σ 55 47), .ref (ad 80), .ref (ad 81), .int (σ 55 50), .ref (ad 82), .ref (ad 83), .ref (ad 84), .ref (ad 85), .int (σ 55 55), .int (σ 55 56), .int (σ 55 57), .ref (ad 86), .ref (ad 87), .ref (ad 88), .ref (ad 89)] : List Value).set 22 (.int v))) = jw cI cL ad (jup σ 55 22 v) τ := rfl
theorem jp_55_25 (v : Int32) : (jw cI cL ad σ τ).set 55 (ad 55, .inr (11, ([.ref (ad 56), .ref (ad 57), .ref (ad 58), .ref (ad 59), .int (σ 55 4), .int (σ 55 5), .int (σ 55 6), .ref (ad 60), .ref (ad 61), .int (σ 55 9), .int (σ 55 10), .ref (ad 62), .int (σ 55 12), .int (σ 55 13), .ref (ad 63), .int (σ 55 15), .ref (ad 64), .ref (ad 65), .int (σ 55 18), .int (σ 55 19), .int (σ 55 20), .int (σ 55 21), .int (σ 55 22), .ref (ad 66), .ref (ad 67), .int (σ 55 25), .int (σ 55 26), .int (σ 55 27), .ref (ad 68), .ref (ad 69), .int (σ 55 30), .int (σ 55 31), .int (σ 55 32), .ref (ad 70), .ref (ad 71), .ref (ad 72), .ref (ad 73), .int (σ 55 37), .ref (ad 74), .ref (ad 75), .ref (ad 76), .ref (ad 77), .int (σ 55 42), .ref (ad 78), .ref (ad 79), .int (σ 55 45), .int (σ 55 46), .int (σ 55 47), .ref (ad 80), .ref (ad 81), .int (σ 55 50), .ref (ad 82), .ref (ad 83), .ref (ad 84), .ref (ad 85), .int (σ 55 55), .int (σ 55 56), .int (σ 55 57), .ref (ad 86), .ref (ad 87), .ref (ad 88), .ref (ad 89)] : List Value).set 25 (.int v))) = jw cI cL ad (jup σ 55 25 v) τ := rfl
theorem jp_55_26 (v : Int32) : (jw cI cL ad σ τ).set 55 (ad 55, .inr (11, ([.ref (ad 56), .ref (ad 57), .ref (ad 58), .ref (ad 59), .int (σ 55 4), .int (σ 55 5), .int (σ 55 6), .ref (ad 60), .ref (ad 61), .int (σ 55 9), .int (σ 55 10), .ref (ad 62), .int (σ 55 12), .int (σ 55 13), .ref (ad 63), .int (σ 55 15), .ref (ad 64), .ref (ad 65), .int (σ 55 18), .int (σ 55 19), .int (σ 55 20), .int (σ 55 21), .int (σ 55 22), .ref (ad 66), .ref (ad 67), .int (σ 55 25), .int (σ 55 26), .int (σ 55 27), .ref (ad 68), .ref (ad 69), .int (σ 55 30), .int (σ 55 31), .int (σ 55 32), .ref (ad 70), .ref (ad 71), .ref (ad 72), .ref (ad 73), .int (σ 55 37), .ref (ad 74), .ref (ad 75), .ref (ad 76), .ref (ad 77), .int (σ 55 42), .ref (ad 78), .ref (ad 79), .int (σ 55 45), .int (σ 55 46), .int (σ 55 47), .ref (ad 80), .ref (ad 81), .int (σ 55 50), .ref (ad 82), .ref (ad 83), .ref (ad 84), .ref (ad 85), .int (σ 55 55), .int (σ 55 56), .int (σ 55 57), .ref (ad 86), .ref (ad 87), .ref (ad 88), .ref (ad 89)] : List Value).set 26 (.int v))) = jw cI cL ad (jup σ 55 26 v) τ := rfl
theorem jp_55_27 (v : Int32) : (jw cI cL ad σ τ).set 55 (ad 55, .inr (11, ([.ref (ad 56), .ref (ad 57), .ref (ad 58), .ref (ad 59), .int (σ 55 4), .int (σ 55 5), .int (σ 55 6), .ref (ad 60), .ref (ad 61), .int (σ 55 9), .int (σ 55 10), .ref (ad 62), .int (σ 55 12), .int (σ 55 13), .ref (ad 63), .int (σ 55 15), .ref (ad 64), .ref (ad 65), .int (σ 55 18), .int (σ 55 19), .int (σ 55 20), .int (σ 55 21), .int (σ 55 22), .ref (ad 66), .ref (ad 67), .int (σ 55 25), .int (σ 55 26), .int (σ 55 27), .ref (ad 68), .ref (ad 69), .int (σ 55 30), .int (σ 55 31), .int (σ 55 32), .ref (ad 70), .ref (ad 71), .ref (ad 72), .ref (ad 73), .int (σ 55 37), .ref (ad 74), .ref (ad 75), .ref (ad 76), .ref (ad 77), .int (σ 55 42), .ref (ad 78), .ref (ad 79), .int (σ 55 45), .int (σ 55 46), .int (σ 55 47), .ref (ad 80), .ref (ad 81), .int (σ 55 50), .ref (ad 82), .ref (ad 83), .ref (ad 84), .ref (ad 85), .int (σ 55 55), .int (σ 55 56), .int (σ 55 57), .ref (ad 86), .ref (ad 87), .ref (ad 88), .ref (ad 89)] : List Value).set 27 (.int v))) = jw cI cL ad (jup σ 55 27 v) τ := rfl
theorem jp_55_30 (v : Int32) : (jw cI cL ad σ τ).set 55 (ad 55, .inr (11, ([.ref (ad 56), .ref (ad 57), .ref (ad 58), .ref (ad 59), .int (σ 55 4), .int (σ 55 5), .int (σ 55 6), .ref (ad 60), .ref (ad 61), .int (σ 55 9), .int (σ 55 10), .ref (ad 62), .int (σ 55 12), .int (σ 55 13), .ref (ad 63), .int (σ 55 15), .ref (ad 64), .ref (ad 65), .int (σ 55 18), .int (σ 55 19), .int (σ 55 20), .int (σ 55 21), .int (σ 55 22), .ref (ad 66), .ref (ad 67), .int (σ 55 25), .int (σ 55 26), .int (σ 55 27), .ref (ad 68), .ref (ad 69), .int (σ 55 30), .int (σ 55 31), .int (σ 55 32), .ref (ad 70), .ref (ad 71), .ref (ad 72), .ref (ad 73), .int (σ 55 37), .ref (ad 74), .ref (ad 75), .ref (ad 76), .ref (ad 77), .int (σ 55 42), .ref (ad 78), .ref (ad 79), .int (σ 55 45), .int (σ 55 46), .int (σ 55 47), .ref (ad 80), .ref (ad 81), .int (σ 55 50), .ref (ad 82), .ref (ad 83), .ref (ad 84), .ref (ad 85), .int (σ 55 55), .int (σ 55 56), .int (σ 55 57), .ref (ad 86), .ref (ad 87), .ref (ad 88), .ref (ad 89)] : List Value).set 30 (.int v))) = jw cI cL ad (jup σ 55 30 v) τ := rfl
theorem jp_55_31 (v : Int32) : (jw cI cL ad σ τ).set 55 (ad 55, .inr (11, ([.ref (ad 56), .ref (ad 57), .ref (ad 58), .ref (ad 59), .int (σ 55 4), .int (σ 55 5), .int (σ 55 6), .ref (ad 60), .ref (ad 61), .int (σ 55 9), .int (σ 55 10), .ref (ad 62), .int (σ 55 12), .int (σ 55 13), .ref (ad 63), .int (σ 55 15), .ref (ad 64), .ref (ad 65), .int (σ 55 18), .int (σ 55 19), .int (σ 55 20), .int (σ 55 21), .int (σ 55 22), .ref (ad 66), .ref (ad 67), .int (σ 55 25), .int (σ 55 26), .int (σ 55 27), .ref (ad 68), .ref (ad 69), .int (σ 55 30), .int (σ 55 31), .int (σ 55 32), .ref (ad 70), .ref (ad 71), .ref (ad 72), .ref (ad 73), .int (σ 55 37), .ref (ad 74), .ref (ad 75), .ref (ad 76), .ref (ad 77), .int (σ 55 42), .ref (ad 78), .ref (ad 79), .int (σ 55 45), .int (σ 55 46), .int (σ 55 47), .ref (ad 80), .ref (ad 81), .int (σ 55 50), .ref (ad 82), .ref (ad 83), .ref (ad 84), .ref (ad 85), .int (σ 55 55), .int (σ 55 56), .int (σ 55 57), .ref (ad 86), .ref (ad 87), .ref (ad 88), .ref (ad 89)] : List Value).set 31 (.int v))) = jw cI cL ad (jup σ 55 31 v) τ := rfl
theorem jp_55_32 (v : Int32) : (jw cI cL ad σ τ).set 55 (ad 55, .inr (11, ([.ref (ad 56), .ref (ad 57), .ref (ad 58), .ref (ad 59), .int (σ 55 4), .int (σ 55 5), .int (σ 55 6), .ref (ad 60), .ref (ad 61), .int (σ 55 9), .int (σ 55 10), .ref (ad 62), .int (σ 55 12), .int (σ 55 13), .ref (ad 63), .int (σ 55 15), .ref (ad 64), .ref (ad 65), .int (σ 55 18), .int (σ 55 19), .int (σ 55 20), .int (σ 55 21), .int (σ 55 22), .ref (ad 66), .ref (ad 67), .int (σ 55 25), .int (σ 55 26), .int (σ 55 27), .ref (ad 68), .ref (ad 69), .int (σ 55 30), .int (σ 55 31), .int (σ 55 32), .ref (ad 70), .ref (ad 71), .ref (ad 72), .ref (ad 73), .int (σ 55 37), .ref (ad 74), .ref (ad 75), .ref (ad 76), .ref (ad 77), .int (σ 55 42), .ref (ad 78), .ref (ad 79), .int (σ 55 45), .int (σ 55 46), .int (σ 55 47), .ref (ad 80), .ref (ad 81), .int (σ 55 50), .ref (ad 82), .ref (ad 83), .ref (ad 84), .ref (ad 85), .int (σ 55 55), .int (σ 55 56), .int (σ 55 57), .ref (ad 86), .ref (ad 87), .ref (ad 88), .ref (ad 89)] : List Value).set 32 (.int v))) = jw cI cL ad (jup σ 55 32 v) τ := rfl
theorem jp_55_37 (v : Int32) : (jw cI cL ad σ τ).set 55 (ad 55, .inr (11, ([.ref (ad 56), .ref (ad 57), .ref (ad 58), .ref (ad 59), .int (σ 55 4), .int (σ 55 5), .int (σ 55 6), .ref (ad 60), .ref (ad 61), .int (σ 55 9), .int (σ 55 10), .ref (ad 62), .int (σ 55 12), .int (σ 55 13), .ref (ad 63), .int (σ 55 15), .ref (ad 64), .ref (ad 65), .int (σ 55 18), .int (σ 55 19), .int (σ 55 20), .int (σ 55 21), .int (σ 55 22), .ref (ad 66), .ref (ad 67), .int (σ 55 25), .int (σ 55 26), .int (σ 55 27), .ref (ad 68), .ref (ad 69), .int (σ 55 30), .int (σ 55 31), .int (σ 55 32), .ref (ad 70), .ref (ad 71), .ref (ad 72), .ref (ad 73), .int (σ 55 37), .ref (ad 74), .ref (ad 75), .ref (ad 76), .ref (ad 77), .int (σ 55 42), .ref (ad 78), .ref (ad 79), .int (σ 55 45), .int (σ 55 46), .int (σ 55 47), .ref (ad 80), .ref (ad 81), .int (σ 55 50), .ref (ad 82), .ref (ad 83), .ref (ad 84), .ref (ad 85), .int (σ 55 55), .int (σ 55 56), .int (σ 55 57), .ref (ad 86), .ref (ad 87), .ref (ad 88), .ref (ad 89)] : List Value).set 37 (.int v))) = jw cI cL ad (jup σ 55 37 v) τ := rfl
theorem jp_55_42 (v : Int32) : (jw cI cL ad σ τ).set 55 (ad 55, .inr (11, ([.ref (ad 56), .ref (ad 57), .ref (ad 58), .ref (ad 59), .int (σ 55 4), .int (σ 55 5), .int (σ 55 6), .ref (ad 60), .ref (ad 61), .int (σ 55 9), .int (σ 55 10), .ref (ad 62), .int (σ 55 12), .int (σ 55 13), .ref (ad 63), .int (σ 55 15), .ref (ad 64), .ref (ad 65), .int (σ 55 18), .int (σ 55 19), .int (σ 55 20), .int (σ 55 21), .int (σ 55 22), .ref (ad 66), .ref (ad 67), .int (σ 55 25), .int (σ 55 26), .int (σ 55 27), .ref (ad 68), .ref (ad 69), .int (σ 55 30), .int (σ 55 31), .int (σ 55 32), .ref (ad 70), .ref (ad 71), .ref (ad 72), .ref (ad 73), .int (σ 55 37), .ref (ad 74), .ref (ad 75), .ref (ad 76), .ref (ad 77), .int (σ 55 42), .ref (ad 78), .ref (ad 79), .int (σ 55 45), .int (σ 55 46), .int (σ 55 47), .ref (ad 80), .ref (ad 81), .int (σ 55 50), .ref (ad 82), .ref (ad 83), .ref (ad 84), .ref (ad 85), .int (σ 55 55), .int (σ 55 56), .int (σ 55 57), .ref (ad 86), .ref (ad 87), .ref (ad 88), .ref (ad 89)] : List Value).set 42 (.int v))) = jw cI cL ad (jup σ 55 42 v) τ := rfl
theorem jp_55_45 (v : Int32) : (jw cI cL ad σ τ).set 55 (ad 55, .inr (11, ([.ref (ad 56), .ref (ad 57), .ref (ad 58), .ref (ad 59), .int (σ 55 4), .int (σ 55 5), .int (σ 55 6), .ref (ad 60), .ref (ad 61), .int (σ 55 9), .int (σ 55 10), .ref (ad 62), .int (σ 55 12), .int (σ 55 13), .ref (ad 63), .int (σ 55 15), .ref (ad 64), .ref (ad 65), .int (σ 55 18), .int (σ 55 19), .int (σ 55 20), .int (σ 55 21), .int (σ 55 22), .ref (ad 66), .ref (ad 67), .int (σ 55 25), .int (σ 55 26), .int (σ 55 27), .ref (ad 68), .ref (ad 69), .int (σ 55 30), .int (σ 55 31), .int (σ 55 32), .ref (ad 70), .ref (ad 71), .ref (ad 72), .ref (ad 73), .int (σ 55 37), .ref (ad 74), .ref (ad 75), .ref (ad 76), .ref (ad 77), .int (σ 55 42), .ref (ad 78), .ref (ad 79), .int (σ 55 45), .int (σ 55 46), .int (σ 55 47), .ref (ad 80), .ref (ad 81), .int (σ 55 50), .ref (ad 82), .ref (ad 83), .ref (ad 84), .ref (ad 85), .int (σ 55 55), .int (σ 55 56), .int (σ 55 57), .ref (ad 86), .ref (ad 87), .ref (ad 88), .ref (ad 89)] : List Value).set 45 (.int v))) = jw cI cL ad (jup σ 55 45 v) τ := rfl
theorem jp_55_46 (v : Int32) : (jw cI cL ad σ τ).set 55 (ad 55, .inr (11, ([.ref (ad 56), .ref (ad 57), .ref (ad 58), .ref (ad 59), .int (σ 55 4), .int (σ 55 5), .int (σ 55 6), .ref (ad 60), .ref (ad 61), .int (σ 55 9), .int (σ 55 10), .ref (ad 62), .int (σ 55 12), .int (σ 55 13), .ref (ad 63), .int (σ 55 15), .ref (ad 64), .ref (ad 65), .int (σ 55 18), .int (σ 55 19), .int (σ 55 20), .int (σ 55 21), .int (σ 55 22), .ref (ad 66), .ref (ad 67), .int (σ 55 25), .int (σ 55 26), .int (σ 55 27), .ref (ad 68), .ref (ad 69), .int (σ 55 30), .int (σ 55 31), .int (σ 55 32), .ref (ad 70), .ref (ad 71), .ref (ad 72), .ref (ad 73), .int (σ 55 37), .ref (ad 74), .ref (ad 75), .ref (ad 76), .ref (ad 77), .int (σ 55 42), .ref (ad 78), .ref (ad 79), .int (σ 55 45), .int (σ 55 46), .int (σ 55 47), .ref (ad 80), .ref (ad 81), .int (σ 55 50), .ref (ad 82), .ref (ad 83), .ref (ad 84), .ref (ad 85), .int (σ 55 55), .int (σ 55 56), .int (σ 55 57), .ref (ad 86), .ref (ad 87), .ref (ad 88), .ref (ad 89)] : List Value).set 46 (.int v))) = jw cI cL ad (jup σ 55 46 v) τ := rfl
theorem jp_55_47 (v : Int32) : (jw cI cL ad σ τ).set 55 (ad 55, .inr (11, ([.ref (ad 56), .ref (ad 57), .ref (ad 58), .ref (ad 59), .int (σ 55 4), .int (σ 55 5), .int (σ 55 6), .ref (ad 60), .ref (ad 61), .int (σ 55 9), .int (σ 55 10), .ref (ad 62), .int (σ 55 12), .int (σ 55 13), .ref (ad 63), .int (σ 55 15), .ref (ad 64), .ref (ad 65), .int (σ 55 18), .int (σ 55 19), .int (σ 55 20), .int (σ 55 21), .int (σ 55 22), .ref (ad 66), .ref (ad 67), .int (σ 55 25), .int (σ 55 26), .int (σ 55 27), .ref (ad 68), .ref (ad 69), .int (σ 55 30), .int (σ 55 31), .int (σ 55 32), .ref (ad 70), .ref (ad 71), .ref (ad 72), .ref (ad 73), .int (σ 55 37), .ref (ad 74), .ref (ad 75), .ref (ad 76), .ref (ad 77), .int (σ 55 42), .ref (ad 78), .ref (ad 79), .int (σ 55 45), .int (σ 55 46), .int (σ 55 47), .ref (ad 80), .ref (ad 81), .int (σ 55 50), .ref (ad 82), .ref (ad 83), .ref (ad 84), .ref (ad 85), .int (σ 55 55), .int (σ 55 56), .int (σ 55 57), .ref (ad 86), .ref (ad 87), .ref (ad 88), .ref (ad 89)] : List Value).set 47 (.int v))) = jw cI cL ad (jup σ 55 47 v) τ := rfl
theorem jp_55_50 (v : Int32) : (jw cI cL ad σ τ).set 55 (ad 55, .inr (11, ([.ref (ad 56), .ref (ad 57), .ref (ad 58), .ref (ad 59), .int (σ 55 4), .int (σ 55 5), .int (σ 55 6), .ref (ad 60), .ref (ad 61), .int (σ 55 9), .int (σ 55 10), .ref (ad 62), .int (σ 55 12), .int (σ 55 13), .ref (ad 63), .int (σ 55 15), .ref (ad 64), .ref (ad 65), .int (σ 55 18), .int (σ 55 19), .int (σ 55 20), .int (σ 55 21), .int (σ 55 22), .ref (ad 66), .ref (ad 67), .int (σ 55 25), .int (σ 55 26), .int (σ 55 27), .ref (ad 68), .ref (ad 69), .int (σ 55 30), .int (σ 55 31), .int (σ 55 32), .ref (ad 70), .ref (ad 71), .ref (ad 72), .ref (ad 73), .int (σ 55 37), .ref (ad 74), .ref (ad 75), .ref (ad 76), .ref (ad 77), .int (σ 55 42), .ref (ad 78), .ref (ad 79), .int (σ 55 45), .int (σ 55 46), .int (σ 55 47), .ref (ad 80), .ref (ad 81), .int (σ 55 50), .ref (ad 82), .ref (ad 83), .ref (ad 84), .ref (ad 85), .int (σ 55 55), .int (σ 55 56), .int (σ 55 57), .ref (ad 86), .ref (ad 87), .ref (ad 88), .ref (ad 89)] : List Value).set 50 (.int v))) = jw cI cL ad (jup σ 55 50 v) τ := rfl
theorem jp_55_55 (v : Int32) : (jw cI cL ad σ τ).set 55 (ad 55, .inr (11, ([.ref (ad 56), .ref (ad 57), .ref (ad 58), .ref (ad 59), .int (σ 55 4), .int (σ 55 5), .int (σ 55 6), .ref (ad 60), .ref (ad 61), .int (σ 55 9), .int (σ 55 10), .ref (ad 62), .int (σ 55 12), .int (σ 55 13), .ref (ad 63), .int (σ 55 15), .ref (ad 64), .ref (ad 65), .int (σ 55 18), .int (σ 55 19), .int (σ 55 20), .int (σ 55 21), .int (σ 55 22), .ref (ad 66), .ref (ad 67), .int (σ 55 25), .int (σ 55 26), .int (σ 55 27), .ref (ad 68), .ref (ad 69), .int (σ 55 30), .int (σ 55 31), .int (σ 55 32), .ref (ad 70), .ref (ad 71), .ref (ad 72), .ref (ad 73), .int (σ 55 37), .ref (ad 74), .ref (ad 75), .ref (ad 76), .ref (ad 77), .int (σ 55 42), .ref (ad 78), .ref (ad 79), .int (σ 55 45), .int (σ 55 46), .int (σ 55 47), .ref (ad 80), .ref (ad 81), .int (σ 55 50), .ref (ad 82), .ref (ad 83), .ref (ad 84), .ref (ad 85), .int (σ 55 55), .int (σ 55 56), .int (σ 55 57), .ref (ad 86), .ref (ad 87), .ref (ad 88), .ref (ad 89)] : List Value).set 55 (.int v))) = jw cI cL ad (jup σ 55 55 v) τ := rfl
theorem jp_55_56 (v : Int32) : (jw cI cL ad σ τ).set 55 (ad 55, .inr (11, ([.ref (ad 56), .ref (ad 57), .ref (ad 58), .ref (ad 59), .int (σ 55 4), .int (σ 55 5), .int (σ 55 6), .ref (ad 60), .ref (ad 61), .int (σ 55 9), .int (σ 55 10), .ref (ad 62), .int (σ 55 12), .int (σ 55 13), .ref (ad 63), .int (σ 55 15), .ref (ad 64), .ref (ad 65), .int (σ 55 18), .int (σ 55 19), .int (σ 55 20), .int (σ 55 21), .int (σ 55 22), .ref (ad 66), .ref (ad 67), .int (σ 55 25), .int (σ 55 26), .int (σ 55 27), .ref (ad 68), .ref (ad 69), .int (σ 55 30), .int (σ 55 31), .int (σ 55 32), .ref (ad 70), .ref (ad 71), .ref (ad 72), .ref (ad 73), .int (σ 55 37), .ref (ad 74), .ref (ad 75), .ref (ad 76), .ref (ad 77), .int (σ 55 42), .ref (ad 78), .ref (ad 79), .int (σ 55 45), .int (σ 55 46), .int (σ 55 47), .ref (ad 80), .ref (ad 81), .int (σ 55 50), .ref (ad 82), .ref (ad 83), .ref (ad 84), .ref (ad 85), .int (σ 55 55), .int (σ 55 56), .int (σ 55 57), .ref (ad 86), .ref (ad 87), .ref (ad 88), .ref (ad 89)] : List Value).set 56 (.int v))) = jw cI cL ad (jup σ 55 56 v) τ := rfl
theorem jp_55_57 (v : Int32) : (jw cI cL ad σ τ).set 55 (ad 55, .inr (11, ([.ref (ad 56), .ref (ad 57), .ref (ad 58), .ref (ad 59), .int (σ 55 4), .int (σ 55 5), .int (σ 55 6), .ref (ad 60), .ref (ad 61), .int (σ 55 9), .int (σ 55 10), .ref (ad 62), .int (σ 55 12), .int (σ 55 13), .ref (ad 63), .int (σ 55 15), .ref (ad 64), .ref (ad 65), .int (σ 55 18), .int (σ 55 19), .int (σ 55 20), .int (σ 55 21), .int (σ 55 22), .ref (ad 66), .ref (ad 67), .int (σ 55 25), .int (σ 55 26), .int (σ 55 27), .ref (ad 68), .ref (ad 69), .int (σ 55 30), .int (σ 55 31), .int (σ 55 32), .ref (ad 70), .ref (ad 71), .ref (ad 72), .ref (ad 73), .int (σ 55 37), .ref (ad 74), .ref (ad 75), .ref (ad 76), .ref (ad 77), .int (σ 55 42), .ref (ad 78), .ref (ad 79), .int (σ 55 45), .int (σ 55 46), .int (σ 55 47), .ref (ad 80), .ref (ad 81), .int (σ 55 50), .ref (ad 82), .ref (ad 83), .ref (ad 84), .ref (ad 85), .int (σ 55 55), .int (σ 55 56), .int (σ 55 57), .ref (ad 86), .ref (ad 87), .ref (ad 88), .ref (ad 89)] : List Value).set 57 (.int v))) = jw cI cL ad (jup σ 55 57 v) τ := rfl
theorem ja_56 (k : Nat) (v : Int32) : (jw cI cL ad σ τ).set 56 (ad 56, .inl (cI, 68, .inl (upd (σ 56) k v))) = jw cI cL ad (jup σ 56 k v) τ := rfl
theorem ja_57 (k : Nat) (v : Int32) : (jw cI cL ad σ τ).set 57 (ad 57, .inl (cI, 40, .inl (upd (σ 57) k v))) = jw cI cL ad (jup σ 57 k v) τ := rfl
theorem ja_58 (k : Nat) (v : Int32) : (jw cI cL ad σ τ).set 58 (ad 58, .inl (cI, 40, .inl (upd (σ 58) k v))) = jw cI cL ad (jup σ 58 k v) τ := rfl
theorem ja_59 (k : Nat) (v : Int32) : (jw cI cL ad σ τ).set 59 (ad 59, .inl (cI, 40, .inl (upd (σ 59) k v))) = jw cI cL ad (jup σ 59 k v) τ := rfl
theorem ja_60 (k : Nat) (v : Int32) : (jw cI cL ad σ τ).set 60 (ad 60, .inl (cI, 4, .inl (upd (σ 60) k v))) = jw cI cL ad (jup σ 60 k v) τ := rfl
theorem ja_61 (k : Nat) (v : Int32) : (jw cI cL ad σ τ).set 61 (ad 61, .inl (cI, 4, .inl (upd (σ 61) k v))) = jw cI cL ad (jup σ 61 k v) τ := rfl
theorem ja_62 (k : Nat) (v : Int32) : (jw cI cL ad σ τ).set 62 (ad 62, .inl (cI, 8, .inl (upd (σ 62) k v))) = jw cI cL ad (jup σ 62 k v) τ := rfl
theorem ja_63 (k : Nat) (v : Int32) : (jw cI cL ad σ τ).set 63 (ad 63, .inl (cI, 80, .inl (upd (σ 63) k v))) = jw cI cL ad (jup σ 63 k v) τ := rfl
theorem ja_64 (k : Nat) (v : Int32) : (jw cI cL ad σ τ).set 64 (ad 64, .inl (cI, 160, .inl (upd (σ 64) k v))) = jw cI cL ad (jup σ 64 k v) τ := rfl
theorem ja_65 (k : Nat) (v : Int32) : (jw cI cL ad σ τ).set 65 (ad 65, .inl (cI, 2, .inl (upd (σ 65) k v))) = jw cI cL ad (jup σ 65 k v) τ := rfl
theorem ja_66 (k : Nat) (v : Int32) : (jw cI cL ad σ τ).set 66 (ad 66, .inl (cI, 8, .inl (upd (σ 66) k v))) = jw cI cL ad (jup σ 66 k v) τ := rfl
theorem ja_67 (k : Nat) (v : Int32) : (jw cI cL ad σ τ).set 67 (ad 67, .inl (cI, 8, .inl (upd (σ 67) k v))) = jw cI cL ad (jup σ 67 k v) τ := rfl
theorem ja_68 (k : Nat) (v : Int32) : (jw cI cL ad σ τ).set 68 (ad 68, .inl (cI, 4, .inl (upd (σ 68) k v))) = jw cI cL ad (jup σ 68 k v) τ := rfl
theorem ja_69 (k : Nat) (v : Int32) : (jw cI cL ad σ τ).set 69 (ad 69, .inl (cI, 4, .inl (upd (σ 69) k v))) = jw cI cL ad (jup σ 69 k v) τ := rfl
theorem ja_70 (k : Nat) (v : Int32) : (jw cI cL ad σ τ).set 70 (ad 70, .inl (cI, 20, .inl (upd (σ 70) k v))) = jw cI cL ad (jup σ 70 k v) τ := rfl
theorem ja_71 (k : Nat) (v : Int32) : (jw cI cL ad σ τ).set 71 (ad 71, .inl (cI, 20, .inl (upd (σ 71) k v))) = jw cI cL ad (jup σ 71 k v) τ := rfl
theorem ja_72 (k : Nat) (v : Int32) : (jw cI cL ad σ τ).set 72 (ad 72, .inl (cI, 160, .inl (upd (σ 72) k v))) = jw cI cL ad (jup σ 72 k v) τ := rfl
theorem ja_73 (k : Nat) (v : Int32) : (jw cI cL ad σ τ).set 73 (ad 73, .inl (cI, 20, .inl (upd (σ 73) k v))) = jw cI cL ad (jup σ 73 k v) τ := rfl
theorem ja_74 (k : Nat) (v : Int32) : (jw cI cL ad σ τ).set 74 (ad 74, .inl (cI, 65536, .inl (upd (σ 74) k v))) = jw cI cL ad (jup σ 74 k v) τ := rfl
theorem ja_75 (k : Nat) (v : Int32) : (jw cI cL ad σ τ).set 75 (ad 75, .inl (cI, 65536, .inl (upd (σ 75) k v))) = jw cI cL ad (jup σ 75 k v) τ := rfl
theorem ja_76 (k : Nat) (v : Int32) : (jw cI cL ad σ τ).set 76 (ad 76, .inl (cI, 65536, .inl (upd (σ 76) k v))) = jw cI cL ad (jup σ 76 k v) τ := rfl
theorem ja_77 (k : Nat) (v : Int32) : (jw cI cL ad σ τ).set 77 (ad 77, .inl (cI, 65536, .inl (upd (σ 77) k v))) = jw cI cL ad (jup σ 77 k v) τ := rfl
theorem ja_78 (k : Nat) (v : Int32) : (jw cI cL ad σ τ).set 78 (ad 78, .inl (cI, 65536, .inl (upd (σ 78) k v))) = jw cI cL ad (jup σ 78 k v) τ := rfl
theorem ja_79 (k : Nat) (v : Int32) : (jw cI cL ad σ τ).set 79 (ad 79, .inl (cI, 5, .inl (upd (σ 79) k v))) = jw cI cL ad (jup σ 79 k v) τ := rfl
theorem ja_80 (k : Nat) (v : Int32) : (jw cI cL ad σ τ).set 80 (ad 80, .inl (cI, 12, .inl (upd (σ 80) k v))) = jw cI cL ad (jup σ 80 k v) τ := rfl
theorem ja_81 (k : Nat) (v : Int32) : (jw cI cL ad σ τ).set 81 (ad 81, .inl (cI, 12, .inl (upd (σ 81) k v))) = jw cI cL ad (jup σ 81 k v) τ := rfl
theorem ja_82 (k : Nat) (v : Int32) : (jw cI cL ad σ τ).set 82 (ad 82, .inl (cI, 12, .inl (upd (σ 82) k v))) = jw cI cL ad (jup σ 82 k v) τ := rfl
theorem ja_83 (k : Nat) (v : Int32) : (jw cI cL ad σ τ).set 83 (ad 83, .inl (cI, 12, .inl (upd (σ 83) k v))) = jw cI cL ad (jup σ 83 k v) τ := rfl
theorem ja_84 (k : Nat) (v : Int32) : (jw cI cL ad σ τ).set 84 (ad 84, .inl (cI, 12, .inl (upd (σ 84) k v))) = jw cI cL ad (jup σ 84 k v) τ := rfl
theorem ja_85 (k : Nat) (v : Int32) : (jw cI cL ad σ τ).set 85 (ad 85, .inl (cI, 24, .inl (upd (σ 85) k v))) = jw cI cL ad (jup σ 85 k v) τ := rfl
theorem ja_86 (k : Nat) (v : Int32) : (jw cI cL ad σ τ).set 86 (ad 86, .inl (cI, 6, .inl (upd (σ 86) k v))) = jw cI cL ad (jup σ 86 k v) τ := rfl
theorem ja_87 (k : Nat) (v : Int32) : (jw cI cL ad σ τ).set 87 (ad 87, .inl (cI, 6, .inl (upd (σ 87) k v))) = jw cI cL ad (jup σ 87 k v) τ := rfl
theorem ja_88 (k : Nat) (v : Int64) : (jw cI cL ad σ τ).set 88 (ad 88, .inl (cL, 360, .inr (.inl (vp_updL (τ 88) k v)))) = jw cI cL ad σ (jupL τ 88 k v) := rfl
theorem ja_89 (k : Nat) (v : Int64) : (jw cI cL ad σ τ).set 89 (ad 89, .inl (cL, 60, .inr (.inl (vp_updL (τ 89) k v)))) = jw cI cL ad σ (jupL τ 89 k v) := rfl
end CELLS
abbrev jS : Type := (Nat → Nat → Int32) × (Nat → Nat → Int64)
/-- the addresses are apart -/
def jD (ad : Nat → Nat) : Prop := ∀ i j, i < jn → j < jn → ad i = ad j → i = j
def jA (ad : Nat → Nat) : Nat → Prop := fun q => ∃ i, i < jn ∧ q = ad i
abbrev jtys (cI cL : ClassId) : List (ClassId × FieldType) := [(cI, .int), (cL, .long)]
abbrev jK (D : va_G) (cI cL : ClassId) (U : State) : Prop := va_K D vwCl (jtys cI cL) U
abbrev jH (D : va_G) (cI cL : ClassId) (ad : Nat → Nat) (σ : Nat → Nat → Int32) (τ : Nat → Nat → Int64) (H : Heap) : Prop := va_P D vwCl (jw cI cL ad σ τ) H
theorem jw_map (cI cL : ClassId) (ad : Nat → Nat) (σ : Nat → Nat → Int32) (τ : Nat → Nat → Int64) : (jw cI cL ad σ τ).map Prod.fst = (List.range jn).map ad := rfl
theorem jw_at {cI cL : ClassId} {ad : Nat → Nat} {σ : Nat → Nat → Int32} {τ : Nat → Nat → Int64} {k : Nat} {q : Nat × va_E} (h : (jw cI cL ad σ τ)[k]? = some q) : k < jn ∧ q.1 = ad k := by
  have h1 : ((jw cI cL ad σ τ).map Prod.fst)[k]? = some q.1 := by rw [List.getElem?_map, h]; rfl
  rw [jw_map, List.getElem?_map] at h1
  have hk : k < jn := by
    have := (List.getElem?_eq_some_iff.mp h).1
    have hl : (jw cI cL ad σ τ).length = jn := rfl
    omega
  rw [List.getElem?_range hk] at h1
  exact ⟨hk, (Option.some.inj h1).symm⟩
theorem jD.D {ad : Nat → Nat} (hJ : jD ad) {A : Nat → Prop} (hA : ∀ q, jA ad q → A q) (cI cL : ClassId) (σ : Nat → Nat → Int32) (τ : Nat → Nat → Int64) : va_D A (jw cI cL ad σ τ) := by
  refine ⟨fun i j p q hi hj h => ?_, fun k q hk => ?_⟩
  · obtain ⟨h1, h2⟩ := jw_at hi
    obtain ⟨h3, h4⟩ := jw_at hj
    exact hJ i j h1 h3 (by rw [← h2, ← h4]; exact h)
  · obtain ⟨h1, h2⟩ := jw_at hk
    exact hA _ ⟨k, h1, h2⟩
theorem jall : wsL_law.all goodWord = true := by decide +kernel
theorem jgood {y : MethodName} {c : ByteArray} {n : Nat} {r : Option FieldType} {y2 : MethodName} {c2 : ByteArray} {n2 : Nat} {r2 : Option FieldType} (h : Cond.code y c n r ∈ wsL_law) : GoodIn (Cond.code y2 c2 n2 r2 :: wsL_law) (Cond.code y c n r :: wsL_law) := by
  intro w hw
  have hm : w ∈ wsL_law := by
    rcases List.mem_cons.mp hw with q | q
    · rw [q]; exact h
    · exact q
  exact ⟨List.mem_cons_of_mem _ hm, good_of_word (List.all_eq_true.mp jall w hm)⟩
theorem jgoodL {y : MethodName} {c : ByteArray} {n : Nat} {r : Option FieldType} (h : Cond.code y c n r ∈ wsL_law) : GoodIn wsL_law (Cond.code y c n r :: wsL_law) := by
  intro w hw
  have hm : w ∈ wsL_law := by
    rcases List.mem_cons.mp hw with q | q
    · rw [q]; exact h
    · exact q
  exact ⟨hm, good_of_word (List.all_eq_true.mp jall w hm)⟩
/-- a method's contract: from the world (σ, τ) it returns r, and the world (σ', τ') is behind it, with 'post r σ' τ'' -/
def jM (l : Launch) (y : MethodName) (cc : ByteArray) (maxL : Nat) (ret : Option FieldType) (rm : Room) (D : va_G) (cI cL : ClassId) (ad : Nat → Nat) (av : List Value) (σ : Nat → Nat → Int32) (τ : Nat → Nat → Int64) (post : Int32 → (Nat → Nat → Int32) → (Nat → Nat → Int64) → Prop) : Prop :=
  Met l y (Cond.code y cc maxL ret :: wsL_law) rm (va_Pc av (fun U => jH D cI cL ad σ τ U.heap ∧ jK D cI cL U)) (va_Qi (fun r (u : jS) => post r u.1 u.2) (fun (u : jS) t => jH D cI cL ad u.1 u.2 t.heap ∧ jK D cI cL t) (jA ad)) 0 0 (jA ad)
def jMl (l : Launch) (y : MethodName) (cc : ByteArray) (maxL : Nat) (ret : Option FieldType) (rm : Room) (D : va_G) (cI cL : ClassId) (ad : Nat → Nat) (av : List Value) (σ : Nat → Nat → Int32) (τ : Nat → Nat → Int64) (post : Int64 → (Nat → Nat → Int32) → (Nat → Nat → Int64) → Prop) : Prop :=
  Met l y (Cond.code y cc maxL ret :: wsL_law) rm (va_Pc av (fun U => jH D cI cL ad σ τ U.heap ∧ jK D cI cL U)) (va_Ql (fun r (u : jS) => post r u.1 u.2) (fun (u : jS) t => jH D cI cL ad u.1 u.2 t.heap ∧ jK D cI cL t) (jA ad)) 0 0 (jA ad)
def jMv (l : Launch) (y : MethodName) (cc : ByteArray) (maxL : Nat) (ret : Option FieldType) (rm : Room) (D : va_G) (cI cL : ClassId) (ad : Nat → Nat) (av : List Value) (σ : Nat → Nat → Int32) (τ : Nat → Nat → Int64) (post : (Nat → Nat → Int32) → (Nat → Nat → Int64) → Prop) : Prop :=
  Met l y (Cond.code y cc maxL ret :: wsL_law) rm (va_Pc av (fun U => jH D cI cL ad σ τ U.heap ∧ jK D cI cL U)) (va_Qv (fun (u : jS) => post u.1 u.2) (fun (u : jS) t => jH D cI cL ad u.1 u.2 t.heap ∧ jK D cI cL t) (jA ad)) 0 0 (jA ad)
theorem jblind {D : va_G} {cI cL : ClassId} {ad : Nat → Nat} {av : List Value} {σ : Nat → Nat → Int32} {τ : Nat → Nat → Int64} : FrameBlind (va_Pc av (fun U => jH D cI cL ad σ τ U.heap ∧ jK D cI cL U)) := fun a U g mk q => ⟨q.1, q.2.1, va_K.moved (u := U) (U := U.calling g mk a) (Vm.Alike.refl U.vm) q.2.2⟩
/-- what a method's body has at hand -/
def jC (p : Program) (s : State) (m : MethodId) (args : Array Value) (meth : Method) (c : Code) (own : String) (cc : ByteArray) (maxL : Nat) (ret : Option FieldType) (D : va_G) (cI cL : ClassId) (ad : Nat → Nat) : Prop :=
  p.tables.exec = Jvm.exec ∧ c.code = cc ∧ meth.sig.returnType = ret ∧ c.maxLocals = maxL ∧ s.vm.findClass own = some m.cls ∧ (∀ w ∈ wsL_law, w.before args s = true) ∧ jK D cI cL s ∧ jD ad ∧ meth.locks = false
section BODY
variable {p : Program} {l : Launch} {e : Env} {R : Room} {s : State} {m : MethodId} {args : Array Value} {below : List Frame} {meth : Method} {c : Code} {H : Heap} {locs : List Loc} {cells slots : Nat} {Q : State → Prop}
variable {D : va_G} {cI cL : ClassId} {ad : Nat → Nat} {σ σ0 : Nat → Nat → Int32} {τ τ0 : Nat → Nat → Int64} {y : MethodName} {cc : ByteArray} {maxL : Nat} {ret : Option FieldType} {rm : Room} {av : List Value} {A : Nat → Prop}
theorem jM.of {post : Int32 → (Nat → Nat → Int32) → (Nat → Nat → Int64) → Prop} (hJ : jD ad) (hy : plainName y.cls = true) {nt : FieldType} (hret : ret = some nt) (hlen : (lg_sl av).length ≤ maxL)
    (body : ∀ (p : Program) (e : Env) (s : State) (m : MethodId) (args : Array Value) (below : List Frame) (meth : Method) (c : Code) (Q : State → Prop) (ls : Array Slot), jC p s m args meth c y.cls cc maxL ret D cI cL ad →
      (∀ (v : Int32) (σ' : Nat → Nat → Int32) (τ' : Nat → Nat → Int64) (H : Heap) (locs : List Loc) (pc : Nat) (ls : Array Slot), narrow nt (.int v) = .int v → post v σ' τ' → jH D cI cL ad σ' τ' H → va_S (jA ad) s.heap H locs → decode cc pc = .ok (.ireturn, 1) → W p l e rm s m args below meth c H locs 0 0 Q (F0 m pc ls [.int v])) →
      lv_has ls maxL (lv_args 0 av) → jH D cI cL ad σ0 τ0 s.heap → W p l e rm s m args below meth c s.heap [] 0 0 Q (F0 m 0 ls [])) : jM l y cc maxL ret rm D cI cL ad av σ0 τ0 post := by
  refine Met.ofW (cc := cc) (maxL := maxL) (ret := ret) hy rfl ?_
  intro p e s m args below meth c s₁ B hml hv
  obtain ⟨rfl, hP, hK⟩ := hv
  have hts := atoms_spec (ws := Cond.code y cc maxL ret :: wsL_law) B.pre
  have hown : s.vm.findClass y.cls = some m.cls := findClass_of_methodNamed B.named
  rw [lg_entry_eq]
  refine body p e s m _ below meth c _ _ ⟨B.exec, B.bytes, B.returns, hml, hown, fun w hw => hts w (List.mem_cons_of_mem _ hw), hK, hJ, B.notSynchronized⟩ (fun v σ' τ' H locs pc ls hn hq hP' hS hdg => ?_) (lv_entry av hlen) hP
  have hK9 := hK
  exact W.zret (v := v) B.exec B.bytes (B.returns.trans hret) hn (fun t ht hW => ⟨⟨v, (σ', τ'), rfl, hq, by rw [ht]; exact hP', va_K.moved hW.alike hK9⟩, hS.F ht⟩) hS.2.2 hdg B.notSynchronized
theorem jMl.of {post : Int64 → (Nat → Nat → Int32) → (Nat → Nat → Int64) → Prop} (hJ : jD ad) (hy : plainName y.cls = true) (hret : ret = some .long) (hlen : (lg_sl av).length ≤ maxL)
    (body : ∀ (p : Program) (e : Env) (s : State) (m : MethodId) (args : Array Value) (below : List Frame) (meth : Method) (c : Code) (Q : State → Prop) (ls : Array Slot), jC p s m args meth c y.cls cc maxL ret D cI cL ad →
      (∀ (v : Int64) (σ' : Nat → Nat → Int32) (τ' : Nat → Nat → Int64) (H : Heap) (locs : List Loc) (pc : Nat) (ls : Array Slot), post v σ' τ' → jH D cI cL ad σ' τ' H → va_S (jA ad) s.heap H locs → decode cc pc = .ok (.lreturn, 1) → W p l e rm s m args below meth c H locs 0 0 Q (F0 m pc ls [.long v])) →
      lv_has ls maxL (lv_args 0 av) → jH D cI cL ad σ0 τ0 s.heap → W p l e rm s m args below meth c s.heap [] 0 0 Q (F0 m 0 ls [])) : jMl l y cc maxL ret rm D cI cL ad av σ0 τ0 post := by
  refine Met.ofW (cc := cc) (maxL := maxL) (ret := ret) hy rfl ?_
  intro p e s m args below meth c s₁ B hml hv
  obtain ⟨rfl, hP, hK⟩ := hv
  have hts := atoms_spec (ws := Cond.code y cc maxL ret :: wsL_law) B.pre
  have hown : s.vm.findClass y.cls = some m.cls := findClass_of_methodNamed B.named
  rw [lg_entry_eq]
  refine body p e s m _ below meth c _ _ ⟨B.exec, B.bytes, B.returns, hml, hown, fun w hw => hts w (List.mem_cons_of_mem _ hw), hK, hJ, B.notSynchronized⟩ (fun v σ' τ' H locs pc ls hq hP' hS hdg => ?_) (lv_entry av hlen) hP
  have hK9 := hK
  exact W.lret (v := v) B.exec B.bytes (B.returns.trans hret) (fun t ht hW => ⟨⟨v, (σ', τ'), rfl, hq, by rw [ht]; exact hP', va_K.moved hW.alike hK9⟩, hS.F ht⟩) hS.2.2 hdg B.notSynchronized
theorem jMv.of {post : (Nat → Nat → Int32) → (Nat → Nat → Int64) → Prop} (hJ : jD ad) (hy : plainName y.cls = true) (hret : ret = none) (hlen : (lg_sl av).length ≤ maxL)
    (body : ∀ (p : Program) (e : Env) (s : State) (m : MethodId) (args : Array Value) (below : List Frame) (meth : Method) (c : Code) (Q : State → Prop) (ls : Array Slot), jC p s m args meth c y.cls cc maxL ret D cI cL ad →
      (∀ (σ' : Nat → Nat → Int32) (τ' : Nat → Nat → Int64) (H : Heap) (locs : List Loc) (pc : Nat) (ls : Array Slot), post σ' τ' → jH D cI cL ad σ' τ' H → va_S (jA ad) s.heap H locs → decode cc pc = .ok (.return_, 1) → W p l e rm s m args below meth c H locs 0 0 Q (F0 m pc ls [])) →
      lv_has ls maxL (lv_args 0 av) → jH D cI cL ad σ0 τ0 s.heap → W p l e rm s m args below meth c s.heap [] 0 0 Q (F0 m 0 ls [])) : jMv l y cc maxL ret rm D cI cL ad av σ0 τ0 post := by
  refine Met.ofW (cc := cc) (maxL := maxL) (ret := ret) hy rfl ?_
  intro p e s m args below meth c s₁ B hml hv
  obtain ⟨rfl, hP, hK⟩ := hv
  have hts := atoms_spec (ws := Cond.code y cc maxL ret :: wsL_law) B.pre
  have hown : s.vm.findClass y.cls = some m.cls := findClass_of_methodNamed B.named
  rw [lg_entry_eq]
  refine body p e s m _ below meth c _ _ ⟨B.exec, B.bytes, B.returns, hml, hown, fun w hw => hts w (List.mem_cons_of_mem _ hw), hK, hJ, B.notSynchronized⟩ (fun σ' τ' H locs pc ls hq hP' hS hdg => ?_) (lv_entry av hlen) hP
  have hK9 := hK
  exact W.vret B.exec B.bytes (B.returns.trans hret) (fun t ht hW => ⟨⟨(σ', τ'), rfl, hq, by rw [ht]; exact hP', va_K.moved hW.alike hK9⟩, hS.F ht⟩) hS.2.2 hdg B.notSynchronized
/-- a number on the stack by another name -/
theorem jtopr {pc : Nat} {ls : Array Slot} {rest : List Value} {x y : Int32} (h : x = y) (k : W p l e R s m args below meth c H locs cells slots Q (F0 m pc ls (.int y :: rest))) : W p l e R s m args below meth c H locs cells slots Q (F0 m pc ls (.int x :: rest)) := by rw [h]; exact k
theorem jtoprl {pc : Nat} {ls : Array Slot} {rest : List Value} {x y : Int64} (h : x = y) (k : W p l e R s m args below meth c H locs cells slots Q (F0 m pc ls (.long y :: rest))) : W p l e R s m args below meth c H locs cells slots Q (F0 m pc ls (.long x :: rest)) := by rw [h]; exact k
theorem jput {pc : Nat} {ls : Array Slot} {rest : List Value} {own ref C : String} {T : u_T} {N ci index i k : Nat} {fs : List Value} {v : Int32} (hx : p.tables.exec = Jvm.exec) (hb : c.code = cc) (hts : ∀ w ∈ wsL_law, w.before args s = true) (hin : ∀ w ∈ u_ws C T N, w ∈ wsL_law) (ty0 : Nat → FieldType) (hty : ∀ k, k < N → parseFieldDescriptor (T k).2.2.1 = some (ty0 k)) (hnm : ∀ a, a < N → ∀ b, b < N → a ≠ b → (T a).2.1 ≠ (T b).2.1) (hown : s.vm.findClass own = some m.cls) (hK : jK D cI cL s) (hP : jH D cI cL ad σ τ H) (hJ : jD ad) (hA : ∀ q, jA ad q → A q) (hS : va_S A s.heap H locs)
    (he : (jw cI cL ad σ τ)[i]? = some (ad i, .inr (ci, fs))) (hc : vwCl[ci]? = some (C, T, N)) (hk : k < N) (hl : k < fs.length) (hset : (jw cI cL ad σ τ).set i (ad i, .inr (ci, fs.set k (.int v))) = jw cI cL ad (jup σ i k v) τ) (hlink : (Cond.fieldLink own index ref (T k).2.1 (T k).2.2.1).before args s = true) (hsame : ∀ x, s.fieldFound? (T k).1 (T k).2.1 (T k).2.2.1 = some x → s.fieldFound? ref (T k).2.1 (T k).2.2.1 = some x) (hfin : (T k).2.2.2 = false) {ty : FieldType} (hd : parseFieldDescriptor (T k).2.2.1 = some ty) (hn : narrow ty (.int v) = .int v) (hfit : fits ty (.int v) = true) (hdg : decode cc pc = .ok (.putfield index, 3))
    (kk : ∀ (σ1 : Nat → Nat → Int32) (H1 : Heap) (locs1 : List Loc), σ1 = jup σ i k v → jH D cI cL ad σ1 τ H1 → va_S A s.heap H1 locs1 → W p l e R s m args below meth c H1 locs1 cells slots Q (F0 m (pc + 3) ls rest)) : W p l e R s m args below meth c H locs cells slots Q (F0 m pc ls (.int v :: .ref (ad i) :: rest)) := by
  refine va_put hx hb hts hin ty0 hty hnm hown hK hP (hJ.D hA cI cL σ τ) hS i he hc k hk hlink hsame hfin hd hn hfit hl hdg fun H1 locs1 hP1 _ hS1 => kk _ H1 locs1 rfl ?_ hS1
  rw [hset] at hP1
  exact hP1
theorem jast {pc : Nat} {ls : Array Slot} {rest : List Value} {i n : Nat} {j x : Int32} (hx : p.tables.exec = Jvm.exec) (hb : c.code = cc) (hK : jK D cI cL s) (hP : jH D cI cL ad σ τ H) (hJ : jD ad) (hA : ∀ q, jA ad q → A q) (hS : va_S A s.heap H locs)
    (he : (jw cI cL ad σ τ)[i]? = some (ad i, .inl (cI, n, .inl (σ i)))) (hset : (jw cI cL ad σ τ).set i (ad i, .inl (cI, n, .inl (upd (σ i) j.toNatClampNeg x))) = jw cI cL ad (jup σ i j.toNatClampNeg x) τ) (hin : vp_in j n) (hdg : decode cc pc = .ok (.iastore, 1))
    (kk : ∀ (σ1 : Nat → Nat → Int32) (H1 : Heap) (locs1 : List Loc), σ1 = jup σ i j.toNatClampNeg x → jH D cI cL ad σ1 τ H1 → va_S A s.heap H1 locs1 → W p l e R s m args below meth c H1 locs1 cells slots Q (F0 m (pc + 1) ls rest)) : W p l e R s m args below meth c H locs cells slots Q (F0 m pc ls (.int x :: .int j :: .ref (ad i) :: rest)) := by
  refine va_iast hx hb hK hP (hJ.D hA cI cL σ τ) hS i 0 he rfl hin hdg fun H1 locs1 hP1 _ hS1 => kk _ H1 locs1 rfl ?_ hS1
  rw [hset] at hP1
  exact hP1
theorem jald {pc : Nat} {ls : Array Slot} {rest : List Value} {i n : Nat} {j : Int32} (hx : p.tables.exec = Jvm.exec) (hb : c.code = cc) (hK : jK D cI cL s) (hP : jH D cI cL ad σ τ H) (he : (jw cI cL ad σ τ)[i]? = some (ad i, .inl (cI, n, .inl (σ i)))) (hin : vp_in j n) (hdg : decode cc pc = .ok (.iaload, 1))
    (kk : W p l e R s m args below meth c H locs cells slots Q (F0 m (pc + 1) ls (.int (σ i j.toNatClampNeg) :: rest))) : W p l e R s m args below meth c H locs cells slots Q (F0 m pc ls (.int j :: .ref (ad i) :: rest)) := va_iald hx hb hK hP i 0 he rfl hin hdg kk
theorem jastL {pc : Nat} {ls : Array Slot} {rest : List Value} {i n : Nat} {j : Int32} {x : Int64} (hx : p.tables.exec = Jvm.exec) (hb : c.code = cc) (hK : jK D cI cL s) (hP : jH D cI cL ad σ τ H) (hJ : jD ad) (hA : ∀ q, jA ad q → A q) (hS : va_S A s.heap H locs)
    (he : (jw cI cL ad σ τ)[i]? = some (ad i, .inl (cL, n, .inr (.inl (τ i))))) (hset : (jw cI cL ad σ τ).set i (ad i, .inl (cL, n, .inr (.inl (vp_updL (τ i) j.toNatClampNeg x)))) = jw cI cL ad σ (jupL τ i j.toNatClampNeg x)) (hin : vp_in j n) (hdg : decode cc pc = .ok (.lastore, 1))
    (kk : ∀ (τ1 : Nat → Nat → Int64) (H1 : Heap) (locs1 : List Loc), τ1 = jupL τ i j.toNatClampNeg x → jH D cI cL ad σ τ1 H1 → va_S A s.heap H1 locs1 → W p l e R s m args below meth c H1 locs1 cells slots Q (F0 m (pc + 1) ls rest)) : W p l e R s m args below meth c H locs cells slots Q (F0 m pc ls (.long x :: .int j :: .ref (ad i) :: rest)) := by
  refine va_last hx hb hK hP (hJ.D hA cI cL σ τ) hS i 1 he rfl hin hdg fun H1 locs1 hP1 _ hS1 => kk _ H1 locs1 rfl ?_ hS1
  rw [hset] at hP1
  exact hP1
theorem jaldL {pc : Nat} {ls : Array Slot} {rest : List Value} {i n : Nat} {j : Int32} (hx : p.tables.exec = Jvm.exec) (hb : c.code = cc) (hK : jK D cI cL s) (hP : jH D cI cL ad σ τ H) (he : (jw cI cL ad σ τ)[i]? = some (ad i, .inl (cL, n, .inr (.inl (τ i))))) (hin : vp_in j n) (hdg : decode cc pc = .ok (.laload, 1))
    (kk : W p l e R s m args below meth c H locs cells slots Q (F0 m (pc + 1) ls (.long (τ i j.toNatClampNeg) :: rest))) : W p l e R s m args below meth c H locs cells slots Q (F0 m pc ls (.int j :: .ref (ad i) :: rest)) := va_lald hx hb hK hP i 1 he rfl hin hdg kk
theorem jalen {pc : Nat} {ls : Array Slot} {rest : List Value} {i n : Nat} {v : Int32} (hx : p.tables.exec = Jvm.exec) (hb : c.code = cc) (hK : jK D cI cL s) (hP : jH D cI cL ad σ τ H) (he : (jw cI cL ad σ τ)[i]? = some (ad i, .inl (cI, n, .inl (σ i)))) (hv : Int32.ofNat n = v) (hdg : decode cc pc = .ok (.arraylength, 1))
    (kk : W p l e R s m args below meth c H locs cells slots Q (F0 m (pc + 1) ls (.int v :: rest))) : W p l e R s m args below meth c H locs cells slots Q (F0 m pc ls (.ref (ad i) :: rest)) := va_alen hx hb hK hP i 0 he rfl hv hdg kk
end BODY
section CALL
variable {p : Program} {l : Launch} {e : Env} {R : Room} {s : State} {m : MethodId} {args : Array Value} {below : List Frame} {meth : Method} {c : Code} {H : Heap} {locs : List Loc} {cells slots : Nat} {Q : State → Prop}
variable {D : va_G} {cI cL : ClassId} {ad : Nat → Nat} {σ : Nat → Nat → Int32} {τ : Nat → Nat → Int64} {y : MethodName} {cc bytes : ByteArray} {nL maxL index n : Nat} {ret : Option FieldType} {rm : Room} {A : Nat → Prop} {own : String}
/-- the words of a call -/
def jcw (own : String) (index : Nat) (y : MethodName) (bytes : ByteArray) (maxL : Nat) (ret : Option FieldType) (n : Nat) : Prop :=
  Cond.methodLink own index y ∈ wsL_law ∧ Cond.initialized y.cls ∈ wsL_law ∧ Cond.code y bytes maxL ret ∈ wsL_law ∧ (y.cls ≠ "java/lang/invoke/MethodHandle" ∧ y.cls ≠ "java/lang/invoke/VarHandle" ∧ (parseMethodDescriptor y.desc).map (fun d => d.parameters.length) = some n)
def jcV (own : String) (index : Nat) (y : MethodName) (bytes : ByteArray) (maxL : Nat) (ret : Option FieldType) (n : Nat) : Prop := jcw own index y bytes maxL ret n ∧ Cond.instanceMethod y ∈ wsL_law ∧ Cond.selects y.cls y y ∈ wsL_law
def jcS (own : String) (index : Nat) (y : MethodName) (bytes : ByteArray) (maxL : Nat) (ret : Option FieldType) (n : Nat) : Prop := jcw own index y bytes maxL ret n ∧ Cond.static y ∈ wsL_law
theorem jcw.B (h : jcw own index y bytes maxL ret n) (hts : ∀ w ∈ wsL_law, w.before args s = true) (hR : rm.frames + 1 ≤ R.frames ∧ 8 + (maxL + 11) + rm.locals ≤ R.locals) (hc : rm.cells = 0) (hs : rm.slots = 0) : CallB R s args own index y bytes maxL ret (Cond.code y bytes maxL ret :: wsL_law) rm 0 0 n :=
  callB_of n hts (jgoodL h.2.2.1) rfl hc hs (hts _ h.2.1) (hts _ h.1) h.2.2.2 hR
theorem jrun {pc : Nat} {ls : Array Slot} {st0 rest : List Value} {post : Int32 → (Nat → Nat → Int32) → (Nat → Nat → Int64) → Prop} {a : Array Value} (hr : va_Run p l e R s m args below meth c H locs cells slots 0 0 (F0 m pc ls st0) rest (va_Qi (fun r (u : jS) => post r u.1 u.2) (fun (u : jS) t => jH D cI cL ad u.1 u.2 t.heap ∧ jK D cI cL t) (jA ad) a) (jA ad)) (hA : ∀ q, jA ad q → A q) (hS : va_S A s.heap H locs)
    (kk : ∀ (r : Int32) (σ1 : Nat → Nat → Int32) (τ1 : Nat → Nat → Int64) (H1 : Heap) (locs1 : List Loc), post r σ1 τ1 → jH D cI cL ad σ1 τ1 H1 → va_S A s.heap H1 locs1 → W p l e R s m args below meth c H1 locs1 cells slots Q (F0 m (pc + 3) ls (.int r :: rest))) : W p l e R s m args below meth c H locs cells slots Q (F0 m pc ls st0) :=
  va_calli hr hS (fun q _ h => hA q h) (fun q h => hA q h) fun r u t H1 locs1 ht _ hq hB _ _ hS1 => kk r u.1 u.2 H1 locs1 hq (by rw [← ht]; exact hB.1) hS1
theorem jrunl {pc : Nat} {ls : Array Slot} {st0 rest : List Value} {post : Int64 → (Nat → Nat → Int32) → (Nat → Nat → Int64) → Prop} {a : Array Value} (hr : va_Run p l e R s m args below meth c H locs cells slots 0 0 (F0 m pc ls st0) rest (va_Ql (fun r (u : jS) => post r u.1 u.2) (fun (u : jS) t => jH D cI cL ad u.1 u.2 t.heap ∧ jK D cI cL t) (jA ad) a) (jA ad)) (hA : ∀ q, jA ad q → A q) (hS : va_S A s.heap H locs)
    (kk : ∀ (r : Int64) (σ1 : Nat → Nat → Int32) (τ1 : Nat → Nat → Int64) (H1 : Heap) (locs1 : List Loc), post r σ1 τ1 → jH D cI cL ad σ1 τ1 H1 → va_S A s.heap H1 locs1 → W p l e R s m args below meth c H1 locs1 cells slots Q (F0 m (pc + 3) ls (.long r :: rest))) : W p l e R s m args below meth c H locs cells slots Q (F0 m pc ls st0) :=
  va_calll hr hS (fun q _ h => hA q h) (fun q h => hA q h) fun r u t H1 locs1 ht _ hq hB _ _ hS1 => kk r u.1 u.2 H1 locs1 hq (by rw [← ht]; exact hB.1) hS1
theorem jrunv {pc : Nat} {ls : Array Slot} {st0 rest : List Value} {post : (Nat → Nat → Int32) → (Nat → Nat → Int64) → Prop} {a : Array Value} (hr : va_Run p l e R s m args below meth c H locs cells slots 0 0 (F0 m pc ls st0) rest (va_Qv (fun (u : jS) => post u.1 u.2) (fun (u : jS) t => jH D cI cL ad u.1 u.2 t.heap ∧ jK D cI cL t) (jA ad) a) (jA ad)) (hA : ∀ q, jA ad q → A q) (hS : va_S A s.heap H locs)
    (kk : ∀ (σ1 : Nat → Nat → Int32) (τ1 : Nat → Nat → Int64) (H1 : Heap) (locs1 : List Loc), post σ1 τ1 → jH D cI cL ad σ1 τ1 H1 → va_S A s.heap H1 locs1 → W p l e R s m args below meth c H1 locs1 cells slots Q (F0 m (pc + 3) ls rest)) : W p l e R s m args below meth c H locs cells slots Q (F0 m pc ls st0) :=
  va_callv hr hS (fun q _ h => hA q h) (fun q h => hA q h) fun u t H1 locs1 ht _ hq hB _ _ hS1 => kk u.1 u.2 H1 locs1 hq (by rw [← ht]; exact hB.1) hS1
variable {b i ci N : Nat} {T : u_T} {fs As rest st0 : List Value} {pc : Nat} {ls : Array Slot}
/-- an object's method, its answer an int -/
theorem jcallV {post : Int32 → (Nat → Nat → Int32) → (Nat → Nat → Int64) → Prop} (hC : CallFix p m c cc nL s args wsL_law own) (hK : jK D cI cL s) (hP : jH D cI cL ad σ τ H) (hA : ∀ q, jA ad q → A q) (hS : va_S A s.heap H locs) (hM : jM l y bytes maxL ret rm D cI cL ad (.ref b :: As) σ τ post) (hw : jcV own index y bytes maxL ret n) (he : (jw cI cL ad σ τ)[i]? = some (b, .inr (ci, fs))) (hc : vwCl[ci]? = some (y.cls, T, N)) (hR : rm.frames + 1 ≤ R.frames ∧ 8 + (maxL + 11) + rm.locals ≤ R.locals) (hrc : rm.cells = 0) (hrs : rm.slots = 0) (hn : As.length = n) (hsize : ls.size = nL) (hst : st0 = As.reverse ++ .ref b :: rest) (hW : (rest.map fun v => v.category).sum ≤ 8) (hdg : decode cc pc = .ok (.invokevirtual index, 3)) (hcs : cells ≤ R.cells ∧ slots ≤ R.slots)
    (kk : ∀ (r : Int32) (σ1 : Nat → Nat → Int32) (τ1 : Nat → Nat → Int64) (H1 : Heap) (locs1 : List Loc), post r σ1 τ1 → jH D cI cL ad σ1 τ1 H1 → va_S A s.heap H1 locs1 → W p l e R s m args below meth c H1 locs1 cells slots Q (F0 m (pc + 3) ls (.int r :: rest))) : W p l e R s m args below meth c H locs cells slots Q (F0 m pc ls st0) :=
  jrun (va_runV (C := y.cls) (As := As) (rest := rest) hC hM ⟨hw.1.B hC.2.2.2.2 hR hrc hrs, hC.2.2.2.2 _ hw.2.1, hC.2.2.2.2 _ hw.2.2⟩ ⟨jblind, va_recv hK hP hc he, fun U hU hW => ⟨rfl, by rw [hU]; exact hP, va_K.moved hW.alike hK⟩⟩ rfl hn hsize hst (lv_room hW) hdg hcs) hA hS kk
theorem jcallVl {post : Int64 → (Nat → Nat → Int32) → (Nat → Nat → Int64) → Prop} (hC : CallFix p m c cc nL s args wsL_law own) (hK : jK D cI cL s) (hP : jH D cI cL ad σ τ H) (hA : ∀ q, jA ad q → A q) (hS : va_S A s.heap H locs) (hM : jMl l y bytes maxL ret rm D cI cL ad (.ref b :: As) σ τ post) (hw : jcV own index y bytes maxL ret n) (he : (jw cI cL ad σ τ)[i]? = some (b, .inr (ci, fs))) (hc : vwCl[ci]? = some (y.cls, T, N)) (hR : rm.frames + 1 ≤ R.frames ∧ 8 + (maxL + 11) + rm.locals ≤ R.locals) (hrc : rm.cells = 0) (hrs : rm.slots = 0) (hn : As.length = n) (hsize : ls.size = nL) (hst : st0 = As.reverse ++ .ref b :: rest) (hW : (rest.map fun v => v.category).sum ≤ 8) (hdg : decode cc pc = .ok (.invokevirtual index, 3)) (hcs : cells ≤ R.cells ∧ slots ≤ R.slots)
    (kk : ∀ (r : Int64) (σ1 : Nat → Nat → Int32) (τ1 : Nat → Nat → Int64) (H1 : Heap) (locs1 : List Loc), post r σ1 τ1 → jH D cI cL ad σ1 τ1 H1 → va_S A s.heap H1 locs1 → W p l e R s m args below meth c H1 locs1 cells slots Q (F0 m (pc + 3) ls (.long r :: rest))) : W p l e R s m args below meth c H locs cells slots Q (F0 m pc ls st0) :=
  jrunl (va_runV (C := y.cls) (As := As) (rest := rest) hC hM ⟨hw.1.B hC.2.2.2.2 hR hrc hrs, hC.2.2.2.2 _ hw.2.1, hC.2.2.2.2 _ hw.2.2⟩ ⟨jblind, va_recv hK hP hc he, fun U hU hW => ⟨rfl, by rw [hU]; exact hP, va_K.moved hW.alike hK⟩⟩ rfl hn hsize hst (lv_room hW) hdg hcs) hA hS kk
theorem jcallVv {post : (Nat → Nat → Int32) → (Nat → Nat → Int64) → Prop} (hC : CallFix p m c cc nL s args wsL_law own) (hK : jK D cI cL s) (hP : jH D cI cL ad σ τ H) (hA : ∀ q, jA ad q → A q) (hS : va_S A s.heap H locs) (hM : jMv l y bytes maxL ret rm D cI cL ad (.ref b :: As) σ τ post) (hw : jcV own index y bytes maxL ret n) (he : (jw cI cL ad σ τ)[i]? = some (b, .inr (ci, fs))) (hc : vwCl[ci]? = some (y.cls, T, N)) (hR : rm.frames + 1 ≤ R.frames ∧ 8 + (maxL + 11) + rm.locals ≤ R.locals) (hrc : rm.cells = 0) (hrs : rm.slots = 0) (hn : As.length = n) (hsize : ls.size = nL) (hst : st0 = As.reverse ++ .ref b :: rest) (hW : (rest.map fun v => v.category).sum ≤ 8) (hdg : decode cc pc = .ok (.invokevirtual index, 3)) (hcs : cells ≤ R.cells ∧ slots ≤ R.slots)
    (kk : ∀ (σ1 : Nat → Nat → Int32) (τ1 : Nat → Nat → Int64) (H1 : Heap) (locs1 : List Loc), post σ1 τ1 → jH D cI cL ad σ1 τ1 H1 → va_S A s.heap H1 locs1 → W p l e R s m args below meth c H1 locs1 cells slots Q (F0 m (pc + 3) ls rest)) : W p l e R s m args below meth c H locs cells slots Q (F0 m pc ls st0) :=
  jrunv (va_runV (C := y.cls) (As := As) (rest := rest) hC hM ⟨hw.1.B hC.2.2.2.2 hR hrc hrs, hC.2.2.2.2 _ hw.2.1, hC.2.2.2.2 _ hw.2.2⟩ ⟨jblind, va_recv hK hP hc he, fun U hU hW => ⟨rfl, by rw [hU]; exact hP, va_K.moved hW.alike hK⟩⟩ rfl hn hsize hst (lv_room hW) hdg hcs) hA hS kk
theorem jcallS {post : Int32 → (Nat → Nat → Int32) → (Nat → Nat → Int64) → Prop} (hC : CallFix p m c cc nL s args wsL_law own) (hK : jK D cI cL s) (hP : jH D cI cL ad σ τ H) (hA : ∀ q, jA ad q → A q) (hS : va_S A s.heap H locs) (hM : jM l y bytes maxL ret rm D cI cL ad As σ τ post) (hw : jcS own index y bytes maxL ret n) (hR : rm.frames + 1 ≤ R.frames ∧ 8 + (maxL + 11) + rm.locals ≤ R.locals) (hrc : rm.cells = 0) (hrs : rm.slots = 0) (hn : As.length = n) (hsize : ls.size = nL) (hst : st0 = As.reverse ++ rest) (hW : (rest.map fun v => v.category).sum ≤ 8) (hdg : decode cc pc = .ok (.invokestatic index, 3)) (hcs : cells ≤ R.cells ∧ slots ≤ R.slots)
    (kk : ∀ (r : Int32) (σ1 : Nat → Nat → Int32) (τ1 : Nat → Nat → Int64) (H1 : Heap) (locs1 : List Loc), post r σ1 τ1 → jH D cI cL ad σ1 τ1 H1 → va_S A s.heap H1 locs1 → W p l e R s m args below meth c H1 locs1 cells slots Q (F0 m (pc + 3) ls (.int r :: rest))) : W p l e R s m args below meth c H locs cells slots Q (F0 m pc ls st0) :=
  jrun (va_runS (As := As) (rest := rest) hC hM ⟨hw.1.B hC.2.2.2.2 hR hrc hrs, hC.2.2.2.2 _ hw.2⟩ ⟨jblind, fun U hU hW => ⟨rfl, by rw [hU]; exact hP, va_K.moved hW.alike hK⟩⟩ rfl hn hsize hst (lv_room hW) hdg hcs) hA hS kk
end CALL
end
