section
-- ===== PART A: goes FIRST, ahead of the names: the tables' words, and 'selects' of the private methods out of them =====
/-- a private method of a class that the tables say can be made, by its rows of tables_1 -/
def lw_okq (q : MethodName × Nat) : Prop := (q.1.cls ≠ "java/lang/invoke/MethodHandle" ∧ q.1.cls ≠ "java/lang/invoke/VarHandle") ∧ Cond.instantiable q.1.cls q.2 ∈ tables_1 ∧ Cond.privateMethod q.1 ∈ tables_1 ∧ Cond.instanceMethod q.1 ∈ tables_1
theorem lw_p0 : lw_okq (⟨"Sleepers$Tokens", "readWord", "(I)I"⟩, 7) := ⟨⟨by decide +kernel, by decide +kernel⟩, List.mem_of_getElem? (i := 33) (by decide +kernel), List.mem_of_getElem? (i := 520) (by decide +kernel), List.mem_of_getElem? (i := 521) (by decide +kernel)⟩
theorem lw_p1 : lw_okq (⟨"Sleepers$Tokens", "kindOf", "(J)I"⟩, 7) := ⟨⟨by decide +kernel, by decide +kernel⟩, List.mem_of_getElem? (i := 33) (by decide +kernel), List.mem_of_getElem? (i := 524) (by decide +kernel), List.mem_of_getElem? (i := 525) (by decide +kernel)⟩
theorem lw_p2 : lw_okq (⟨"Sleepers$Tokens", "keep", "(IIJ)V"⟩, 7) := ⟨⟨by decide +kernel, by decide +kernel⟩, List.mem_of_getElem? (i := 33) (by decide +kernel), List.mem_of_getElem? (i := 528) (by decide +kernel), List.mem_of_getElem? (i := 529) (by decide +kernel)⟩
theorem lw_p3 : lw_okq (⟨"Sleepers$Tokens", "readNumber", "(I)I"⟩, 7) := ⟨⟨by decide +kernel, by decide +kernel⟩, List.mem_of_getElem? (i := 33) (by decide +kernel), List.mem_of_getElem? (i := 532) (by decide +kernel), List.mem_of_getElem? (i := 533) (by decide +kernel)⟩
theorem lw_p4 : lw_okq (⟨"Sleepers$Parser", "kind", "()I"⟩, 13) := ⟨⟨by decide +kernel, by decide +kernel⟩, List.mem_of_getElem? (i := 126) (by decide +kernel), List.mem_of_getElem? (i := 609) (by decide +kernel), List.mem_of_getElem? (i := 610) (by decide +kernel)⟩
theorem lw_p5 : lw_okq (⟨"Sleepers$Parser", "header", "()V"⟩, 13) := ⟨⟨by decide +kernel, by decide +kernel⟩, List.mem_of_getElem? (i := 126) (by decide +kernel), List.mem_of_getElem? (i := 613) (by decide +kernel), List.mem_of_getElem? (i := 614) (by decide +kernel)⟩
theorem lw_p6 : lw_okq (⟨"Sleepers$Parser", "wrong", "(I)V"⟩, 13) := ⟨⟨by decide +kernel, by decide +kernel⟩, List.mem_of_getElem? (i := 126) (by decide +kernel), List.mem_of_getElem? (i := 617) (by decide +kernel), List.mem_of_getElem? (i := 618) (by decide +kernel)⟩
theorem lw_p7 : lw_okq (⟨"Sleepers$Parser", "step", "()V"⟩, 13) := ⟨⟨by decide +kernel, by decide +kernel⟩, List.mem_of_getElem? (i := 126) (by decide +kernel), List.mem_of_getElem? (i := 621) (by decide +kernel), List.mem_of_getElem? (i := 622) (by decide +kernel)⟩
theorem lw_p8 : lw_okq (⟨"Sleepers$Parser", "need", "(I)V"⟩, 13) := ⟨⟨by decide +kernel, by decide +kernel⟩, List.mem_of_getElem? (i := 126) (by decide +kernel), List.mem_of_getElem? (i := 633) (by decide +kernel), List.mem_of_getElem? (i := 634) (by decide +kernel)⟩
theorem lw_p9 : lw_okq (⟨"Sleepers$Parser", "take", "(I)Z"⟩, 13) := ⟨⟨by decide +kernel, by decide +kernel⟩, List.mem_of_getElem? (i := 126) (by decide +kernel), List.mem_of_getElem? (i := 637) (by decide +kernel), List.mem_of_getElem? (i := 638) (by decide +kernel)⟩
theorem lw_p10 : lw_okq (⟨"Sleepers$Parser", "givenCell", "()V"⟩, 13) := ⟨⟨by decide +kernel, by decide +kernel⟩, List.mem_of_getElem? (i := 126) (by decide +kernel), List.mem_of_getElem? (i := 641) (by decide +kernel), List.mem_of_getElem? (i := 642) (by decide +kernel)⟩
theorem lw_p11 : lw_okq (⟨"Sleepers$Parser", "block", "(I)V"⟩, 13) := ⟨⟨by decide +kernel, by decide +kernel⟩, List.mem_of_getElem? (i := 126) (by decide +kernel), List.mem_of_getElem? (i := 657) (by decide +kernel), List.mem_of_getElem? (i := 658) (by decide +kernel)⟩
theorem lw_p12 : lw_okq (⟨"Sleepers$Parser", "statement", "(I)V"⟩, 13) := ⟨⟨by decide +kernel, by decide +kernel⟩, List.mem_of_getElem? (i := 126) (by decide +kernel), List.mem_of_getElem? (i := 664) (by decide +kernel), List.mem_of_getElem? (i := 665) (by decide +kernel)⟩
theorem lw_p13 : lw_okq (⟨"Sleepers$Parser", "emit", "(II)I"⟩, 13) := ⟨⟨by decide +kernel, by decide +kernel⟩, List.mem_of_getElem? (i := 126) (by decide +kernel), List.mem_of_getElem? (i := 668) (by decide +kernel), List.mem_of_getElem? (i := 669) (by decide +kernel)⟩
theorem lw_p14 : lw_okq (⟨"Sleepers$Parser", "choice", "(I)V"⟩, 13) := ⟨⟨by decide +kernel, by decide +kernel⟩, List.mem_of_getElem? (i := 126) (by decide +kernel), List.mem_of_getElem? (i := 676) (by decide +kernel), List.mem_of_getElem? (i := 677) (by decide +kernel)⟩
theorem lw_p15 : lw_okq (⟨"Sleepers$Parser", "expression", "(I)V"⟩, 13) := ⟨⟨by decide +kernel, by decide +kernel⟩, List.mem_of_getElem? (i := 126) (by decide +kernel), List.mem_of_getElem? (i := 680) (by decide +kernel), List.mem_of_getElem? (i := 681) (by decide +kernel)⟩
def lw_privs_1 : List (MethodName × Nat) := [(⟨"Sleepers$Tokens", "readWord", "(I)I"⟩, 7), (⟨"Sleepers$Tokens", "kindOf", "(J)I"⟩, 7), (⟨"Sleepers$Tokens", "keep", "(IIJ)V"⟩, 7), (⟨"Sleepers$Tokens", "readNumber", "(I)I"⟩, 7), (⟨"Sleepers$Parser", "kind", "()I"⟩, 13), (⟨"Sleepers$Parser", "header", "()V"⟩, 13), (⟨"Sleepers$Parser", "wrong", "(I)V"⟩, 13), (⟨"Sleepers$Parser", "step", "()V"⟩, 13), (⟨"Sleepers$Parser", "need", "(I)V"⟩, 13), (⟨"Sleepers$Parser", "take", "(I)Z"⟩, 13), (⟨"Sleepers$Parser", "givenCell", "()V"⟩, 13), (⟨"Sleepers$Parser", "block", "(I)V"⟩, 13), (⟨"Sleepers$Parser", "statement", "(I)V"⟩, 13), (⟨"Sleepers$Parser", "emit", "(II)I"⟩, 13), (⟨"Sleepers$Parser", "choice", "(I)V"⟩, 13), (⟨"Sleepers$Parser", "expression", "(I)V"⟩, 13)]
theorem lw_r1 : ∀ q ∈ lw_privs_1, lw_okq q := List.forall_mem_cons.mpr ⟨lw_p0, List.forall_mem_cons.mpr ⟨lw_p1, List.forall_mem_cons.mpr ⟨lw_p2, List.forall_mem_cons.mpr ⟨lw_p3, List.forall_mem_cons.mpr ⟨lw_p4, List.forall_mem_cons.mpr ⟨lw_p5, List.forall_mem_cons.mpr ⟨lw_p6, List.forall_mem_cons.mpr ⟨lw_p7, List.forall_mem_cons.mpr ⟨lw_p8, List.forall_mem_cons.mpr ⟨lw_p9, List.forall_mem_cons.mpr ⟨lw_p10, List.forall_mem_cons.mpr ⟨lw_p11, List.forall_mem_cons.mpr ⟨lw_p12, List.forall_mem_cons.mpr ⟨lw_p13, List.forall_mem_cons.mpr ⟨lw_p14, List.forall_mem_cons.mpr ⟨lw_p15, fun _ h => absurd h List.not_mem_nil⟩⟩⟩⟩⟩⟩⟩⟩⟩⟩⟩⟩⟩⟩⟩⟩
theorem lw_p16 : lw_okq (⟨"Sleepers$Parser", "sum", "(I)V"⟩, 13) := ⟨⟨by decide +kernel, by decide +kernel⟩, List.mem_of_getElem? (i := 126) (by decide +kernel), List.mem_of_getElem? (i := 684) (by decide +kernel), List.mem_of_getElem? (i := 685) (by decide +kernel)⟩
theorem lw_p17 : lw_okq (⟨"Sleepers$Parser", "product", "(I)V"⟩, 13) := ⟨⟨by decide +kernel, by decide +kernel⟩, List.mem_of_getElem? (i := 126) (by decide +kernel), List.mem_of_getElem? (i := 688) (by decide +kernel), List.mem_of_getElem? (i := 689) (by decide +kernel)⟩
theorem lw_p18 : lw_okq (⟨"Sleepers$Parser", "part", "(I)V"⟩, 13) := ⟨⟨by decide +kernel, by decide +kernel⟩, List.mem_of_getElem? (i := 126) (by decide +kernel), List.mem_of_getElem? (i := 692) (by decide +kernel), List.mem_of_getElem? (i := 693) (by decide +kernel)⟩
theorem lw_p19 : lw_okq (⟨"Sleepers$Parser", "cellHere", "()I"⟩, 13) := ⟨⟨by decide +kernel, by decide +kernel⟩, List.mem_of_getElem? (i := 126) (by decide +kernel), List.mem_of_getElem? (i := 696) (by decide +kernel), List.mem_of_getElem? (i := 697) (by decide +kernel)⟩
theorem lw_p20 : lw_okq (⟨"Sleepers$Parser", "repeated", "(II)V"⟩, 13) := ⟨⟨by decide +kernel, by decide +kernel⟩, List.mem_of_getElem? (i := 126) (by decide +kernel), List.mem_of_getElem? (i := 700) (by decide +kernel), List.mem_of_getElem? (i := 701) (by decide +kernel)⟩
theorem lw_p21 : lw_okq (⟨"Sleepers$Parser", "tried", "(I)V"⟩, 13) := ⟨⟨by decide +kernel, by decide +kernel⟩, List.mem_of_getElem? (i := 126) (by decide +kernel), List.mem_of_getElem? (i := 708) (by decide +kernel), List.mem_of_getElem? (i := 709) (by decide +kernel)⟩
theorem lw_p22 : lw_okq (⟨"Sleepers$Parser", "finished", "(II)V"⟩, 13) := ⟨⟨by decide +kernel, by decide +kernel⟩, List.mem_of_getElem? (i := 126) (by decide +kernel), List.mem_of_getElem? (i := 720) (by decide +kernel), List.mem_of_getElem? (i := 721) (by decide +kernel)⟩
theorem lw_p23 : lw_okq (⟨"Sleepers$Parser", "assigned", "()V"⟩, 13) := ⟨⟨by decide +kernel, by decide +kernel⟩, List.mem_of_getElem? (i := 126) (by decide +kernel), List.mem_of_getElem? (i := 724) (by decide +kernel), List.mem_of_getElem? (i := 725) (by decide +kernel)⟩
theorem lw_p24 : lw_okq (⟨"Sleepers$Parser", "waitFor", "(I)V"⟩, 13) := ⟨⟨by decide +kernel, by decide +kernel⟩, List.mem_of_getElem? (i := 126) (by decide +kernel), List.mem_of_getElem? (i := 732) (by decide +kernel), List.mem_of_getElem? (i := 733) (by decide +kernel)⟩
theorem lw_p25 : lw_okq (⟨"Sleepers$Parser", "numberOf", "(II)I"⟩, 13) := ⟨⟨by decide +kernel, by decide +kernel⟩, List.mem_of_getElem? (i := 126) (by decide +kernel), List.mem_of_getElem? (i := 739) (by decide +kernel), List.mem_of_getElem? (i := 740) (by decide +kernel)⟩
theorem lw_p26 : lw_okq (⟨"Sleepers$Parser", "listed", "(II)I"⟩, 13) := ⟨⟨by decide +kernel, by decide +kernel⟩, List.mem_of_getElem? (i := 126) (by decide +kernel), List.mem_of_getElem? (i := 743) (by decide +kernel), List.mem_of_getElem? (i := 744) (by decide +kernel)⟩
theorem lw_p27 : lw_okq (⟨"Sleepers$Parser", "keepChild", "(III)V"⟩, 13) := ⟨⟨by decide +kernel, by decide +kernel⟩, List.mem_of_getElem? (i := 126) (by decide +kernel), List.mem_of_getElem? (i := 747) (by decide +kernel), List.mem_of_getElem? (i := 748) (by decide +kernel)⟩
theorem lw_p28 : lw_okq (⟨"Sleepers$Parser", "returned", "()V"⟩, 13) := ⟨⟨by decide +kernel, by decide +kernel⟩, List.mem_of_getElem? (i := 126) (by decide +kernel), List.mem_of_getElem? (i := 755) (by decide +kernel), List.mem_of_getElem? (i := 756) (by decide +kernel)⟩
theorem lw_p29 : lw_okq (⟨"Sleepers$Parser", "leftLoop", "()V"⟩, 13) := ⟨⟨by decide +kernel, by decide +kernel⟩, List.mem_of_getElem? (i := 126) (by decide +kernel), List.mem_of_getElem? (i := 759) (by decide +kernel), List.mem_of_getElem? (i := 760) (by decide +kernel)⟩
theorem lw_p30 : lw_okq (⟨"Sleepers$Parser", "findChildren", "()V"⟩, 13) := ⟨⟨by decide +kernel, by decide +kernel⟩, List.mem_of_getElem? (i := 126) (by decide +kernel), List.mem_of_getElem? (i := 772) (by decide +kernel), List.mem_of_getElem? (i := 773) (by decide +kernel)⟩
theorem lw_p31 : lw_okq (⟨"Sleepers$Tables", "set", "(LSleepers$Program;II)V"⟩, 5) := ⟨⟨by decide +kernel, by decide +kernel⟩, List.mem_of_getElem? (i := 172) (by decide +kernel), List.mem_of_getElem? (i := 799) (by decide +kernel), List.mem_of_getElem? (i := 800) (by decide +kernel)⟩
def lw_privs_2 : List (MethodName × Nat) := [(⟨"Sleepers$Parser", "sum", "(I)V"⟩, 13), (⟨"Sleepers$Parser", "product", "(I)V"⟩, 13), (⟨"Sleepers$Parser", "part", "(I)V"⟩, 13), (⟨"Sleepers$Parser", "cellHere", "()I"⟩, 13), (⟨"Sleepers$Parser", "repeated", "(II)V"⟩, 13), (⟨"Sleepers$Parser", "tried", "(I)V"⟩, 13), (⟨"Sleepers$Parser", "finished", "(II)V"⟩, 13), (⟨"Sleepers$Parser", "assigned", "()V"⟩, 13), (⟨"Sleepers$Parser", "waitFor", "(I)V"⟩, 13), (⟨"Sleepers$Parser", "numberOf", "(II)I"⟩, 13), (⟨"Sleepers$Parser", "listed", "(II)I"⟩, 13), (⟨"Sleepers$Parser", "keepChild", "(III)V"⟩, 13), (⟨"Sleepers$Parser", "returned", "()V"⟩, 13), (⟨"Sleepers$Parser", "leftLoop", "()V"⟩, 13), (⟨"Sleepers$Parser", "findChildren", "()V"⟩, 13), (⟨"Sleepers$Tables", "set", "(LSleepers$Program;II)V"⟩, 5)]
theorem lw_r2 : ∀ q ∈ lw_privs_2, lw_okq q := List.forall_mem_cons.mpr ⟨lw_p16, List.forall_mem_cons.mpr ⟨lw_p17, List.forall_mem_cons.mpr ⟨lw_p18, List.forall_mem_cons.mpr ⟨lw_p19, List.forall_mem_cons.mpr ⟨lw_p20, List.forall_mem_cons.mpr ⟨lw_p21, List.forall_mem_cons.mpr ⟨lw_p22, List.forall_mem_cons.mpr ⟨lw_p23, List.forall_mem_cons.mpr ⟨lw_p24, List.forall_mem_cons.mpr ⟨lw_p25, List.forall_mem_cons.mpr ⟨lw_p26, List.forall_mem_cons.mpr ⟨lw_p27, List.forall_mem_cons.mpr ⟨lw_p28, List.forall_mem_cons.mpr ⟨lw_p29, List.forall_mem_cons.mpr ⟨lw_p30, List.forall_mem_cons.mpr ⟨lw_p31, fun _ h => absurd h List.not_mem_nil⟩⟩⟩⟩⟩⟩⟩⟩⟩⟩⟩⟩⟩⟩⟩⟩
theorem lw_p32 : lw_okq (⟨"Sleepers$Tables", "reach", "(I)V"⟩, 5) := ⟨⟨by decide +kernel, by decide +kernel⟩, List.mem_of_getElem? (i := 172) (by decide +kernel), List.mem_of_getElem? (i := 803) (by decide +kernel), List.mem_of_getElem? (i := 804) (by decide +kernel)⟩
theorem lw_p33 : lw_okq (⟨"Sleepers$Tables", "follow", "(II)V"⟩, 5) := ⟨⟨by decide +kernel, by decide +kernel⟩, List.mem_of_getElem? (i := 172) (by decide +kernel), List.mem_of_getElem? (i := 807) (by decide +kernel), List.mem_of_getElem? (i := 808) (by decide +kernel)⟩
theorem lw_p34 : lw_okq (⟨"Sleepers$Tables", "followFinish", "(II)V"⟩, 5) := ⟨⟨by decide +kernel, by decide +kernel⟩, List.mem_of_getElem? (i := 172) (by decide +kernel), List.mem_of_getElem? (i := 836) (by decide +kernel), List.mem_of_getElem? (i := 837) (by decide +kernel)⟩
theorem lw_p35 : lw_okq (⟨"Sleepers$Hall", "enterRow", "(LSleepers$Task;)V"⟩, 15) := ⟨⟨by decide +kernel, by decide +kernel⟩, List.mem_of_getElem? (i := 194) (by decide +kernel), List.mem_of_getElem? (i := 950) (by decide +kernel), List.mem_of_getElem? (i := 951) (by decide +kernel)⟩
theorem lw_p36 : lw_okq (⟨"Sleepers$Runner", "wake", "(LSleepers$Task;)V"⟩, 8) := ⟨⟨by decide +kernel, by decide +kernel⟩, List.mem_of_getElem? (i := 294) (by decide +kernel), List.mem_of_getElem? (i := 970) (by decide +kernel), List.mem_of_getElem? (i := 971) (by decide +kernel)⟩
theorem lw_p37 : lw_okq (⟨"Sleepers$Runner", "push", "(I)V"⟩, 8) := ⟨⟨by decide +kernel, by decide +kernel⟩, List.mem_of_getElem? (i := 294) (by decide +kernel), List.mem_of_getElem? (i := 979) (by decide +kernel), List.mem_of_getElem? (i := 980) (by decide +kernel)⟩
theorem lw_p38 : lw_okq (⟨"Sleepers$Runner", "leave", "(LSleepers$Task;III)V"⟩, 8) := ⟨⟨by decide +kernel, by decide +kernel⟩, List.mem_of_getElem? (i := 294) (by decide +kernel), List.mem_of_getElem? (i := 983) (by decide +kernel), List.mem_of_getElem? (i := 984) (by decide +kernel)⟩
theorem lw_p39 : lw_okq (⟨"Sleepers$Runner", "end", "(LSleepers$Task;II)V"⟩, 8) := ⟨⟨by decide +kernel, by decide +kernel⟩, List.mem_of_getElem? (i := 294) (by decide +kernel), List.mem_of_getElem? (i := 988) (by decide +kernel), List.mem_of_getElem? (i := 989) (by decide +kernel)⟩
theorem lw_p40 : lw_okq (⟨"Sleepers$Runner", "act", "(LSleepers$Task;)V"⟩, 8) := ⟨⟨by decide +kernel, by decide +kernel⟩, List.mem_of_getElem? (i := 294) (by decide +kernel), List.mem_of_getElem? (i := 993) (by decide +kernel), List.mem_of_getElem? (i := 994) (by decide +kernel)⟩
theorem lw_p41 : lw_okq (⟨"Sleepers$Runner", "step", "()Z"⟩, 8) := ⟨⟨by decide +kernel, by decide +kernel⟩, List.mem_of_getElem? (i := 294) (by decide +kernel), List.mem_of_getElem? (i := 1001) (by decide +kernel), List.mem_of_getElem? (i := 1002) (by decide +kernel)⟩
theorem lw_p42 : lw_okq (⟨"Sleepers$Runner", "reckon", "(LSleepers$Task;II)V"⟩, 8) := ⟨⟨by decide +kernel, by decide +kernel⟩, List.mem_of_getElem? (i := 294) (by decide +kernel), List.mem_of_getElem? (i := 1006) (by decide +kernel), List.mem_of_getElem? (i := 1007) (by decide +kernel)⟩
theorem lw_p43 : lw_okq (⟨"Sleepers$Runner", "pop", "()I"⟩, 8) := ⟨⟨by decide +kernel, by decide +kernel⟩, List.mem_of_getElem? (i := 294) (by decide +kernel), List.mem_of_getElem? (i := 1014) (by decide +kernel), List.mem_of_getElem? (i := 1015) (by decide +kernel)⟩
theorem lw_p44 : lw_okq (⟨"Sleepers$Runner", "join", "(LSleepers$Task;II)V"⟩, 8) := ⟨⟨by decide +kernel, by decide +kernel⟩, List.mem_of_getElem? (i := 294) (by decide +kernel), List.mem_of_getElem? (i := 1018) (by decide +kernel), List.mem_of_getElem? (i := 1019) (by decide +kernel)⟩
theorem lw_p45 : lw_okq (⟨"Sleepers$Runner", "fail", "(LSleepers$Task;II)V"⟩, 8) := ⟨⟨by decide +kernel, by decide +kernel⟩, List.mem_of_getElem? (i := 294) (by decide +kernel), List.mem_of_getElem? (i := 1022) (by decide +kernel), List.mem_of_getElem? (i := 1023) (by decide +kernel)⟩
theorem lw_p46 : lw_okq (⟨"Sleepers$Runner", "flow", "(LSleepers$Task;II)V"⟩, 8) := ⟨⟨by decide +kernel, by decide +kernel⟩, List.mem_of_getElem? (i := 294) (by decide +kernel), List.mem_of_getElem? (i := 1026) (by decide +kernel), List.mem_of_getElem? (i := 1027) (by decide +kernel)⟩
theorem lw_p47 : lw_okq (⟨"Sleepers$Runner", "finishEnd", "(LSleepers$Task;I)V"⟩, 8) := ⟨⟨by decide +kernel, by decide +kernel⟩, List.mem_of_getElem? (i := 294) (by decide +kernel), List.mem_of_getElem? (i := 1035) (by decide +kernel), List.mem_of_getElem? (i := 1036) (by decide +kernel)⟩
def lw_privs_3 : List (MethodName × Nat) := [(⟨"Sleepers$Tables", "reach", "(I)V"⟩, 5), (⟨"Sleepers$Tables", "follow", "(II)V"⟩, 5), (⟨"Sleepers$Tables", "followFinish", "(II)V"⟩, 5), (⟨"Sleepers$Hall", "enterRow", "(LSleepers$Task;)V"⟩, 15), (⟨"Sleepers$Runner", "wake", "(LSleepers$Task;)V"⟩, 8), (⟨"Sleepers$Runner", "push", "(I)V"⟩, 8), (⟨"Sleepers$Runner", "leave", "(LSleepers$Task;III)V"⟩, 8), (⟨"Sleepers$Runner", "end", "(LSleepers$Task;II)V"⟩, 8), (⟨"Sleepers$Runner", "act", "(LSleepers$Task;)V"⟩, 8), (⟨"Sleepers$Runner", "step", "()Z"⟩, 8), (⟨"Sleepers$Runner", "reckon", "(LSleepers$Task;II)V"⟩, 8), (⟨"Sleepers$Runner", "pop", "()I"⟩, 8), (⟨"Sleepers$Runner", "join", "(LSleepers$Task;II)V"⟩, 8), (⟨"Sleepers$Runner", "fail", "(LSleepers$Task;II)V"⟩, 8), (⟨"Sleepers$Runner", "flow", "(LSleepers$Task;II)V"⟩, 8), (⟨"Sleepers$Runner", "finishEnd", "(LSleepers$Task;I)V"⟩, 8)]
theorem lw_r3 : ∀ q ∈ lw_privs_3, lw_okq q := List.forall_mem_cons.mpr ⟨lw_p32, List.forall_mem_cons.mpr ⟨lw_p33, List.forall_mem_cons.mpr ⟨lw_p34, List.forall_mem_cons.mpr ⟨lw_p35, List.forall_mem_cons.mpr ⟨lw_p36, List.forall_mem_cons.mpr ⟨lw_p37, List.forall_mem_cons.mpr ⟨lw_p38, List.forall_mem_cons.mpr ⟨lw_p39, List.forall_mem_cons.mpr ⟨lw_p40, List.forall_mem_cons.mpr ⟨lw_p41, List.forall_mem_cons.mpr ⟨lw_p42, List.forall_mem_cons.mpr ⟨lw_p43, List.forall_mem_cons.mpr ⟨lw_p44, List.forall_mem_cons.mpr ⟨lw_p45, List.forall_mem_cons.mpr ⟨lw_p46, List.forall_mem_cons.mpr ⟨lw_p47, fun _ h => absurd h List.not_mem_nil⟩⟩⟩⟩⟩⟩⟩⟩⟩⟩⟩⟩⟩⟩⟩⟩
theorem lw_p48 : lw_okq (⟨"Sleepers$Runner", "attend", "(LSleepers$Task;II)V"⟩, 8) := ⟨⟨by decide +kernel, by decide +kernel⟩, List.mem_of_getElem? (i := 294) (by decide +kernel), List.mem_of_getElem? (i := 1039) (by decide +kernel), List.mem_of_getElem? (i := 1040) (by decide +kernel)⟩
theorem lw_p49 : lw_okq (⟨"Sleepers$Runner", "beginLetter", "(LSleepers$Task;I)V"⟩, 8) := ⟨⟨by decide +kernel, by decide +kernel⟩, List.mem_of_getElem? (i := 294) (by decide +kernel), List.mem_of_getElem? (i := 1043) (by decide +kernel), List.mem_of_getElem? (i := 1044) (by decide +kernel)⟩
theorem lw_p50 : lw_okq (⟨"Sleepers$Runner", "come", "(LSleepers$Part;I)V"⟩, 8) := ⟨⟨by decide +kernel, by decide +kernel⟩, List.mem_of_getElem? (i := 294) (by decide +kernel), List.mem_of_getElem? (i := 1114) (by decide +kernel), List.mem_of_getElem? (i := 1115) (by decide +kernel)⟩
theorem lw_p51 : lw_okq (⟨"Sleepers$Runner", "tellAbout", "(LSleepers$Part;)V"⟩, 8) := ⟨⟨by decide +kernel, by decide +kernel⟩, List.mem_of_getElem? (i := 294) (by decide +kernel), List.mem_of_getElem? (i := 1118) (by decide +kernel), List.mem_of_getElem? (i := 1119) (by decide +kernel)⟩
theorem lw_p52 : lw_okq (⟨"Sleepers$Runner", "beginTick", "(LSleepers$Task;I)V"⟩, 8) := ⟨⟨by decide +kernel, by decide +kernel⟩, List.mem_of_getElem? (i := 294) (by decide +kernel), List.mem_of_getElem? (i := 1130) (by decide +kernel), List.mem_of_getElem? (i := 1131) (by decide +kernel)⟩
theorem lw_p53 : lw_okq (⟨"Sleepers$Runner", "beginChild", "(LSleepers$Task;II)V"⟩, 8) := ⟨⟨by decide +kernel, by decide +kernel⟩, List.mem_of_getElem? (i := 294) (by decide +kernel), List.mem_of_getElem? (i := 1140) (by decide +kernel), List.mem_of_getElem? (i := 1141) (by decide +kernel)⟩
theorem lw_p54 : lw_okq (⟨"Sleepers$Runner", "closePart", "(LSleepers$Task;)V"⟩, 8) := ⟨⟨by decide +kernel, by decide +kernel⟩, List.mem_of_getElem? (i := 294) (by decide +kernel), List.mem_of_getElem? (i := 1145) (by decide +kernel), List.mem_of_getElem? (i := 1146) (by decide +kernel)⟩
theorem lw_p55 : lw_okq (⟨"Sleepers$Hall", "plan", "(I)V"⟩, 15) := ⟨⟨by decide +kernel, by decide +kernel⟩, List.mem_of_getElem? (i := 194) (by decide +kernel), List.mem_of_getElem? (i := 1153) (by decide +kernel), List.mem_of_getElem? (i := 1154) (by decide +kernel)⟩
theorem lw_p56 : lw_okq (⟨"Sleepers$Hall", "letGo", "(LSleepers$Task;Z)V"⟩, 15) := ⟨⟨by decide +kernel, by decide +kernel⟩, List.mem_of_getElem? (i := 194) (by decide +kernel), List.mem_of_getElem? (i := 1157) (by decide +kernel), List.mem_of_getElem? (i := 1158) (by decide +kernel)⟩
theorem lw_p57 : lw_okq (⟨"Sleepers$Hall", "drop", "(LSleepers$Task;Z)V"⟩, 15) := ⟨⟨by decide +kernel, by decide +kernel⟩, List.mem_of_getElem? (i := 194) (by decide +kernel), List.mem_of_getElem? (i := 1161) (by decide +kernel), List.mem_of_getElem? (i := 1162) (by decide +kernel)⟩
theorem lw_p58 : lw_okq (⟨"Sleepers$Hall", "turnRound", "(I)V"⟩, 15) := ⟨⟨by decide +kernel, by decide +kernel⟩, List.mem_of_getElem? (i := 194) (by decide +kernel), List.mem_of_getElem? (i := 1173) (by decide +kernel), List.mem_of_getElem? (i := 1174) (by decide +kernel)⟩
theorem lw_p59 : lw_okq (⟨"Sleepers$Hall", "work", "()V"⟩, 15) := ⟨⟨by decide +kernel, by decide +kernel⟩, List.mem_of_getElem? (i := 194) (by decide +kernel), List.mem_of_getElem? (i := 1177) (by decide +kernel), List.mem_of_getElem? (i := 1178) (by decide +kernel)⟩
theorem lw_p60 : lw_okq (⟨"Sleepers$Hall", "settle", "(LSleepers$Task;)V"⟩, 15) := ⟨⟨by decide +kernel, by decide +kernel⟩, List.mem_of_getElem? (i := 194) (by decide +kernel), List.mem_of_getElem? (i := 1182) (by decide +kernel), List.mem_of_getElem? (i := 1183) (by decide +kernel)⟩
theorem lw_p61 : lw_okq (⟨"Sleepers$Hall", "stop", "(LSleepers$Task;)V"⟩, 15) := ⟨⟨by decide +kernel, by decide +kernel⟩, List.mem_of_getElem? (i := 194) (by decide +kernel), List.mem_of_getElem? (i := 1186) (by decide +kernel), List.mem_of_getElem? (i := 1187) (by decide +kernel)⟩
theorem lw_p62 : lw_okq (⟨"Sleepers$Hall", "close", "(LSleepers$Task;)V"⟩, 15) := ⟨⟨by decide +kernel, by decide +kernel⟩, List.mem_of_getElem? (i := 194) (by decide +kernel), List.mem_of_getElem? (i := 1190) (by decide +kernel), List.mem_of_getElem? (i := 1191) (by decide +kernel)⟩
theorem lw_p63 : lw_okq (⟨"Sleepers$Hall", "tellParent", "(LSleepers$Task;)V"⟩, 15) := ⟨⟨by decide +kernel, by decide +kernel⟩, List.mem_of_getElem? (i := 194) (by decide +kernel), List.mem_of_getElem? (i := 1204) (by decide +kernel), List.mem_of_getElem? (i := 1205) (by decide +kernel)⟩
def lw_privs_4 : List (MethodName × Nat) := [(⟨"Sleepers$Runner", "attend", "(LSleepers$Task;II)V"⟩, 8), (⟨"Sleepers$Runner", "beginLetter", "(LSleepers$Task;I)V"⟩, 8), (⟨"Sleepers$Runner", "come", "(LSleepers$Part;I)V"⟩, 8), (⟨"Sleepers$Runner", "tellAbout", "(LSleepers$Part;)V"⟩, 8), (⟨"Sleepers$Runner", "beginTick", "(LSleepers$Task;I)V"⟩, 8), (⟨"Sleepers$Runner", "beginChild", "(LSleepers$Task;II)V"⟩, 8), (⟨"Sleepers$Runner", "closePart", "(LSleepers$Task;)V"⟩, 8), (⟨"Sleepers$Hall", "plan", "(I)V"⟩, 15), (⟨"Sleepers$Hall", "letGo", "(LSleepers$Task;Z)V"⟩, 15), (⟨"Sleepers$Hall", "drop", "(LSleepers$Task;Z)V"⟩, 15), (⟨"Sleepers$Hall", "turnRound", "(I)V"⟩, 15), (⟨"Sleepers$Hall", "work", "()V"⟩, 15), (⟨"Sleepers$Hall", "settle", "(LSleepers$Task;)V"⟩, 15), (⟨"Sleepers$Hall", "stop", "(LSleepers$Task;)V"⟩, 15), (⟨"Sleepers$Hall", "close", "(LSleepers$Task;)V"⟩, 15), (⟨"Sleepers$Hall", "tellParent", "(LSleepers$Task;)V"⟩, 15)]
theorem lw_r4 : ∀ q ∈ lw_privs_4, lw_okq q := List.forall_mem_cons.mpr ⟨lw_p48, List.forall_mem_cons.mpr ⟨lw_p49, List.forall_mem_cons.mpr ⟨lw_p50, List.forall_mem_cons.mpr ⟨lw_p51, List.forall_mem_cons.mpr ⟨lw_p52, List.forall_mem_cons.mpr ⟨lw_p53, List.forall_mem_cons.mpr ⟨lw_p54, List.forall_mem_cons.mpr ⟨lw_p55, List.forall_mem_cons.mpr ⟨lw_p56, List.forall_mem_cons.mpr ⟨lw_p57, List.forall_mem_cons.mpr ⟨lw_p58, List.forall_mem_cons.mpr ⟨lw_p59, List.forall_mem_cons.mpr ⟨lw_p60, List.forall_mem_cons.mpr ⟨lw_p61, List.forall_mem_cons.mpr ⟨lw_p62, List.forall_mem_cons.mpr ⟨lw_p63, fun _ h => absurd h List.not_mem_nil⟩⟩⟩⟩⟩⟩⟩⟩⟩⟩⟩⟩⟩⟩⟩⟩
theorem lw_p64 : lw_okq (⟨"Sleepers$Hall", "report", "(LSleepers$Part;II)V"⟩, 15) := ⟨⟨by decide +kernel, by decide +kernel⟩, List.mem_of_getElem? (i := 194) (by decide +kernel), List.mem_of_getElem? (i := 1208) (by decide +kernel), List.mem_of_getElem? (i := 1209) (by decide +kernel)⟩
theorem lw_p65 : lw_okq (⟨"java/lang/Throwable", "fillInStackTrace", "(I)Ljava/lang/Throwable;"⟩, 6) := ⟨⟨by decide +kernel, by decide +kernel⟩, List.mem_of_getElem? (i := 1325) (by decide +kernel), List.mem_of_getElem? (i := 1323) (by decide +kernel), List.mem_of_getElem? (i := 1324) (by decide +kernel)⟩
theorem lw_p66 : lw_okq (⟨"SleepersModel", "lay", "(J)V"⟩, 128) := ⟨⟨by decide +kernel, by decide +kernel⟩, List.mem_of_getElem? (i := 1386) (by decide +kernel), List.mem_of_getElem? (i := 1384) (by decide +kernel), List.mem_of_getElem? (i := 1385) (by decide +kernel)⟩
theorem lw_p67 : lw_okq (⟨"SleepersModel", "cutAll", "()V"⟩, 128) := ⟨⟨by decide +kernel, by decide +kernel⟩, List.mem_of_getElem? (i := 1386) (by decide +kernel), List.mem_of_getElem? (i := 1795) (by decide +kernel), List.mem_of_getElem? (i := 1796) (by decide +kernel)⟩
theorem lw_p68 : lw_okq (⟨"SleepersModel", "isWord", "(I)Z"⟩, 128) := ⟨⟨by decide +kernel, by decide +kernel⟩, List.mem_of_getElem? (i := 1386) (by decide +kernel), List.mem_of_getElem? (i := 1807) (by decide +kernel), List.mem_of_getElem? (i := 1808) (by decide +kernel)⟩
theorem lw_p69 : lw_okq (⟨"SleepersModel", "toldRoutine", "()V"⟩, 128) := ⟨⟨by decide +kernel, by decide +kernel⟩, List.mem_of_getElem? (i := 1386) (by decide +kernel), List.mem_of_getElem? (i := 1811) (by decide +kernel), List.mem_of_getElem? (i := 1812) (by decide +kernel)⟩
theorem lw_p70 : lw_okq (⟨"SleepersModel", "wrong", "(I)V"⟩, 128) := ⟨⟨by decide +kernel, by decide +kernel⟩, List.mem_of_getElem? (i := 1386) (by decide +kernel), List.mem_of_getElem? (i := 1815) (by decide +kernel), List.mem_of_getElem? (i := 1816) (by decide +kernel)⟩
theorem lw_p71 : lw_okq (⟨"SleepersModel", "isName", "()Z"⟩, 128) := ⟨⟨by decide +kernel, by decide +kernel⟩, List.mem_of_getElem? (i := 1386) (by decide +kernel), List.mem_of_getElem? (i := 1819) (by decide +kernel), List.mem_of_getElem? (i := 1820) (by decide +kernel)⟩
theorem lw_p72 : lw_okq (⟨"SleepersModel", "find", "([JIIJ)I"⟩, 128) := ⟨⟨by decide +kernel, by decide +kernel⟩, List.mem_of_getElem? (i := 1386) (by decide +kernel), List.mem_of_getElem? (i := 1823) (by decide +kernel), List.mem_of_getElem? (i := 1824) (by decide +kernel)⟩
theorem lw_p73 : lw_okq (⟨"SleepersModel", "takeSign", "(I)V"⟩, 128) := ⟨⟨by decide +kernel, by decide +kernel⟩, List.mem_of_getElem? (i := 1386) (by decide +kernel), List.mem_of_getElem? (i := 1827) (by decide +kernel), List.mem_of_getElem? (i := 1828) (by decide +kernel)⟩
theorem lw_p74 : lw_okq (⟨"SleepersModel", "isSign", "(I)Z"⟩, 128) := ⟨⟨by decide +kernel, by decide +kernel⟩, List.mem_of_getElem? (i := 1386) (by decide +kernel), List.mem_of_getElem? (i := 1831) (by decide +kernel), List.mem_of_getElem? (i := 1832) (by decide +kernel)⟩
theorem lw_p75 : lw_okq (⟨"SleepersModel", "givenCell", "(I)V"⟩, 128) := ⟨⟨by decide +kernel, by decide +kernel⟩, List.mem_of_getElem? (i := 1386) (by decide +kernel), List.mem_of_getElem? (i := 1835) (by decide +kernel), List.mem_of_getElem? (i := 1836) (by decide +kernel)⟩
theorem lw_p76 : lw_okq (⟨"SleepersModel", "hasSign", "(I)Z"⟩, 128) := ⟨⟨by decide +kernel, by decide +kernel⟩, List.mem_of_getElem? (i := 1386) (by decide +kernel), List.mem_of_getElem? (i := 1839) (by decide +kernel), List.mem_of_getElem? (i := 1840) (by decide +kernel)⟩
theorem lw_p77 : lw_okq (⟨"SleepersModel", "act", "(II)I"⟩, 128) := ⟨⟨by decide +kernel, by decide +kernel⟩, List.mem_of_getElem? (i := 1386) (by decide +kernel), List.mem_of_getElem? (i := 1843) (by decide +kernel), List.mem_of_getElem? (i := 1844) (by decide +kernel)⟩
theorem lw_p78 : lw_okq (⟨"SleepersModel", "block", "()V"⟩, 128) := ⟨⟨by decide +kernel, by decide +kernel⟩, List.mem_of_getElem? (i := 1386) (by decide +kernel), List.mem_of_getElem? (i := 1847) (by decide +kernel), List.mem_of_getElem? (i := 1848) (by decide +kernel)⟩
theorem lw_p79 : lw_okq (⟨"SleepersModel", "within", "(Z)V"⟩, 128) := ⟨⟨by decide +kernel, by decide +kernel⟩, List.mem_of_getElem? (i := 1386) (by decide +kernel), List.mem_of_getElem? (i := 1851) (by decide +kernel), List.mem_of_getElem? (i := 1852) (by decide +kernel)⟩
def lw_privs_5 : List (MethodName × Nat) := [(⟨"Sleepers$Hall", "report", "(LSleepers$Part;II)V"⟩, 15), (⟨"java/lang/Throwable", "fillInStackTrace", "(I)Ljava/lang/Throwable;"⟩, 6), (⟨"SleepersModel", "lay", "(J)V"⟩, 128), (⟨"SleepersModel", "cutAll", "()V"⟩, 128), (⟨"SleepersModel", "isWord", "(I)Z"⟩, 128), (⟨"SleepersModel", "toldRoutine", "()V"⟩, 128), (⟨"SleepersModel", "wrong", "(I)V"⟩, 128), (⟨"SleepersModel", "isName", "()Z"⟩, 128), (⟨"SleepersModel", "find", "([JIIJ)I"⟩, 128), (⟨"SleepersModel", "takeSign", "(I)V"⟩, 128), (⟨"SleepersModel", "isSign", "(I)Z"⟩, 128), (⟨"SleepersModel", "givenCell", "(I)V"⟩, 128), (⟨"SleepersModel", "hasSign", "(I)Z"⟩, 128), (⟨"SleepersModel", "act", "(II)I"⟩, 128), (⟨"SleepersModel", "block", "()V"⟩, 128), (⟨"SleepersModel", "within", "(Z)V"⟩, 128)]
theorem lw_r5 : ∀ q ∈ lw_privs_5, lw_okq q := List.forall_mem_cons.mpr ⟨lw_p64, List.forall_mem_cons.mpr ⟨lw_p65, List.forall_mem_cons.mpr ⟨lw_p66, List.forall_mem_cons.mpr ⟨lw_p67, List.forall_mem_cons.mpr ⟨lw_p68, List.forall_mem_cons.mpr ⟨lw_p69, List.forall_mem_cons.mpr ⟨lw_p70, List.forall_mem_cons.mpr ⟨lw_p71, List.forall_mem_cons.mpr ⟨lw_p72, List.forall_mem_cons.mpr ⟨lw_p73, List.forall_mem_cons.mpr ⟨lw_p74, List.forall_mem_cons.mpr ⟨lw_p75, List.forall_mem_cons.mpr ⟨lw_p76, List.forall_mem_cons.mpr ⟨lw_p77, List.forall_mem_cons.mpr ⟨lw_p78, List.forall_mem_cons.mpr ⟨lw_p79, fun _ h => absurd h List.not_mem_nil⟩⟩⟩⟩⟩⟩⟩⟩⟩⟩⟩⟩⟩⟩⟩⟩
theorem lw_p80 : lw_okq (⟨"SleepersModel", "statement", "()V"⟩, 128) := ⟨⟨by decide +kernel, by decide +kernel⟩, List.mem_of_getElem? (i := 1386) (by decide +kernel), List.mem_of_getElem? (i := 1855) (by decide +kernel), List.mem_of_getElem? (i := 1856) (by decide +kernel)⟩
theorem lw_p81 : lw_okq (⟨"SleepersModel", "hasWord", "(I)Z"⟩, 128) := ⟨⟨by decide +kernel, by decide +kernel⟩, List.mem_of_getElem? (i := 1386) (by decide +kernel), List.mem_of_getElem? (i := 1859) (by decide +kernel), List.mem_of_getElem? (i := 1860) (by decide +kernel)⟩
theorem lw_p82 : lw_okq (⟨"SleepersModel", "loop", "()V"⟩, 128) := ⟨⟨by decide +kernel, by decide +kernel⟩, List.mem_of_getElem? (i := 1386) (by decide +kernel), List.mem_of_getElem? (i := 1863) (by decide +kernel), List.mem_of_getElem? (i := 1864) (by decide +kernel)⟩
theorem lw_p83 : lw_okq (⟨"SleepersModel", "emit", "(III)I"⟩, 128) := ⟨⟨by decide +kernel, by decide +kernel⟩, List.mem_of_getElem? (i := 1386) (by decide +kernel), List.mem_of_getElem? (i := 1867) (by decide +kernel), List.mem_of_getElem? (i := 1868) (by decide +kernel)⟩
theorem lw_p84 : lw_okq (⟨"SleepersModel", "then", "(II)I"⟩, 128) := ⟨⟨by decide +kernel, by decide +kernel⟩, List.mem_of_getElem? (i := 1386) (by decide +kernel), List.mem_of_getElem? (i := 1871) (by decide +kernel), List.mem_of_getElem? (i := 1872) (by decide +kernel)⟩
theorem lw_p85 : lw_okq (⟨"SleepersModel", "lead", "(I)V"⟩, 128) := ⟨⟨by decide +kernel, by decide +kernel⟩, List.mem_of_getElem? (i := 1386) (by decide +kernel), List.mem_of_getElem? (i := 1875) (by decide +kernel), List.mem_of_getElem? (i := 1876) (by decide +kernel)⟩
theorem lw_p86 : lw_okq (⟨"SleepersModel", "expression", "()V"⟩, 128) := ⟨⟨by decide +kernel, by decide +kernel⟩, List.mem_of_getElem? (i := 1386) (by decide +kernel), List.mem_of_getElem? (i := 1879) (by decide +kernel), List.mem_of_getElem? (i := 1880) (by decide +kernel)⟩
theorem lw_p87 : lw_okq (⟨"SleepersModel", "sum", "()V"⟩, 128) := ⟨⟨by decide +kernel, by decide +kernel⟩, List.mem_of_getElem? (i := 1386) (by decide +kernel), List.mem_of_getElem? (i := 1883) (by decide +kernel), List.mem_of_getElem? (i := 1884) (by decide +kernel)⟩
theorem lw_p88 : lw_okq (⟨"SleepersModel", "product", "()V"⟩, 128) := ⟨⟨by decide +kernel, by decide +kernel⟩, List.mem_of_getElem? (i := 1386) (by decide +kernel), List.mem_of_getElem? (i := 1887) (by decide +kernel), List.mem_of_getElem? (i := 1888) (by decide +kernel)⟩
theorem lw_p89 : lw_okq (⟨"SleepersModel", "part", "()V"⟩, 128) := ⟨⟨by decide +kernel, by decide +kernel⟩, List.mem_of_getElem? (i := 1386) (by decide +kernel), List.mem_of_getElem? (i := 1891) (by decide +kernel), List.mem_of_getElem? (i := 1892) (by decide +kernel)⟩
theorem lw_p90 : lw_okq (⟨"SleepersModel", "partWithin", "()V"⟩, 128) := ⟨⟨by decide +kernel, by decide +kernel⟩, List.mem_of_getElem? (i := 1386) (by decide +kernel), List.mem_of_getElem? (i := 1895) (by decide +kernel), List.mem_of_getElem? (i := 1896) (by decide +kernel)⟩
theorem lw_p91 : lw_okq (⟨"SleepersModel", "takeCell", "()I"⟩, 128) := ⟨⟨by decide +kernel, by decide +kernel⟩, List.mem_of_getElem? (i := 1386) (by decide +kernel), List.mem_of_getElem? (i := 1899) (by decide +kernel), List.mem_of_getElem? (i := 1900) (by decide +kernel)⟩
theorem lw_p92 : lw_okq (⟨"SleepersModel", "choice", "()V"⟩, 128) := ⟨⟨by decide +kernel, by decide +kernel⟩, List.mem_of_getElem? (i := 1386) (by decide +kernel), List.mem_of_getElem? (i := 1903) (by decide +kernel), List.mem_of_getElem? (i := 1904) (by decide +kernel)⟩
theorem lw_p93 : lw_okq (⟨"SleepersModel", "join", "(I)V"⟩, 128) := ⟨⟨by decide +kernel, by decide +kernel⟩, List.mem_of_getElem? (i := 1386) (by decide +kernel), List.mem_of_getElem? (i := 1907) (by decide +kernel), List.mem_of_getElem? (i := 1908) (by decide +kernel)⟩
theorem lw_p94 : lw_okq (⟨"SleepersModel", "trial", "()V"⟩, 128) := ⟨⟨by decide +kernel, by decide +kernel⟩, List.mem_of_getElem? (i := 1386) (by decide +kernel), List.mem_of_getElem? (i := 1911) (by decide +kernel), List.mem_of_getElem? (i := 1912) (by decide +kernel)⟩
theorem lw_p95 : lw_okq (⟨"SleepersModel", "inBlock", "(II)V"⟩, 128) := ⟨⟨by decide +kernel, by decide +kernel⟩, List.mem_of_getElem? (i := 1386) (by decide +kernel), List.mem_of_getElem? (i := 1915) (by decide +kernel), List.mem_of_getElem? (i := 1916) (by decide +kernel)⟩
def lw_privs_6 : List (MethodName × Nat) := [(⟨"SleepersModel", "statement", "()V"⟩, 128), (⟨"SleepersModel", "hasWord", "(I)Z"⟩, 128), (⟨"SleepersModel", "loop", "()V"⟩, 128), (⟨"SleepersModel", "emit", "(III)I"⟩, 128), (⟨"SleepersModel", "then", "(II)I"⟩, 128), (⟨"SleepersModel", "lead", "(I)V"⟩, 128), (⟨"SleepersModel", "expression", "()V"⟩, 128), (⟨"SleepersModel", "sum", "()V"⟩, 128), (⟨"SleepersModel", "product", "()V"⟩, 128), (⟨"SleepersModel", "part", "()V"⟩, 128), (⟨"SleepersModel", "partWithin", "()V"⟩, 128), (⟨"SleepersModel", "takeCell", "()I"⟩, 128), (⟨"SleepersModel", "choice", "()V"⟩, 128), (⟨"SleepersModel", "join", "(I)V"⟩, 128), (⟨"SleepersModel", "trial", "()V"⟩, 128), (⟨"SleepersModel", "inBlock", "(II)V"⟩, 128)]
theorem lw_r6 : ∀ q ∈ lw_privs_6, lw_okq q := List.forall_mem_cons.mpr ⟨lw_p80, List.forall_mem_cons.mpr ⟨lw_p81, List.forall_mem_cons.mpr ⟨lw_p82, List.forall_mem_cons.mpr ⟨lw_p83, List.forall_mem_cons.mpr ⟨lw_p84, List.forall_mem_cons.mpr ⟨lw_p85, List.forall_mem_cons.mpr ⟨lw_p86, List.forall_mem_cons.mpr ⟨lw_p87, List.forall_mem_cons.mpr ⟨lw_p88, List.forall_mem_cons.mpr ⟨lw_p89, List.forall_mem_cons.mpr ⟨lw_p90, List.forall_mem_cons.mpr ⟨lw_p91, List.forall_mem_cons.mpr ⟨lw_p92, List.forall_mem_cons.mpr ⟨lw_p93, List.forall_mem_cons.mpr ⟨lw_p94, List.forall_mem_cons.mpr ⟨lw_p95, fun _ h => absurd h List.not_mem_nil⟩⟩⟩⟩⟩⟩⟩⟩⟩⟩⟩⟩⟩⟩⟩⟩
theorem lw_p96 : lw_okq (⟨"SleepersModel", "plain", "()V"⟩, 128) := ⟨⟨by decide +kernel, by decide +kernel⟩, List.mem_of_getElem? (i := 1386) (by decide +kernel), List.mem_of_getElem? (i := 1919) (by decide +kernel), List.mem_of_getElem? (i := 1920) (by decide +kernel)⟩
theorem lw_p97 : lw_okq (⟨"SleepersModel", "takeNumber", "(II)I"⟩, 128) := ⟨⟨by decide +kernel, by decide +kernel⟩, List.mem_of_getElem? (i := 1386) (by decide +kernel), List.mem_of_getElem? (i := 1923) (by decide +kernel), List.mem_of_getElem? (i := 1924) (by decide +kernel)⟩
theorem lw_p98 : lw_okq (⟨"SleepersModel", "leaves", "(Z)V"⟩, 128) := ⟨⟨by decide +kernel, by decide +kernel⟩, List.mem_of_getElem? (i := 1386) (by decide +kernel), List.mem_of_getElem? (i := 1927) (by decide +kernel), List.mem_of_getElem? (i := 1928) (by decide +kernel)⟩
theorem lw_p99 : lw_okq (⟨"SleepersModel", "marks", "([ZI)V"⟩, 128) := ⟨⟨by decide +kernel, by decide +kernel⟩, List.mem_of_getElem? (i := 1386) (by decide +kernel), List.mem_of_getElem? (i := 1931) (by decide +kernel), List.mem_of_getElem? (i := 1932) (by decide +kernel)⟩
theorem lw_p100 : lw_okq (⟨"SleepersModel", "wait", "(I)V"⟩, 128) := ⟨⟨by decide +kernel, by decide +kernel⟩, List.mem_of_getElem? (i := 1386) (by decide +kernel), List.mem_of_getElem? (i := 1935) (by decide +kernel), List.mem_of_getElem? (i := 1936) (by decide +kernel)⟩
theorem lw_p101 : lw_okq (⟨"SleepersModel", "waitTree", "()V"⟩, 128) := ⟨⟨by decide +kernel, by decide +kernel⟩, List.mem_of_getElem? (i := 1386) (by decide +kernel), List.mem_of_getElem? (i := 1939) (by decide +kernel), List.mem_of_getElem? (i := 1940) (by decide +kernel)⟩
theorem lw_p102 : lw_okq (⟨"SleepersModel", "isWait", "()Z"⟩, 128) := ⟨⟨by decide +kernel, by decide +kernel⟩, List.mem_of_getElem? (i := 1386) (by decide +kernel), List.mem_of_getElem? (i := 1943) (by decide +kernel), List.mem_of_getElem? (i := 1944) (by decide +kernel)⟩
theorem lw_p103 : lw_okq (⟨"SleepersModel", "child", "()V"⟩, 128) := ⟨⟨by decide +kernel, by decide +kernel⟩, List.mem_of_getElem? (i := 1386) (by decide +kernel), List.mem_of_getElem? (i := 1947) (by decide +kernel), List.mem_of_getElem? (i := 1948) (by decide +kernel)⟩
theorem lw_p104 : lw_okq (⟨"SleepersModel", "takeWord", "(I)V"⟩, 128) := ⟨⟨by decide +kernel, by decide +kernel⟩, List.mem_of_getElem? (i := 1386) (by decide +kernel), List.mem_of_getElem? (i := 1951) (by decide +kernel), List.mem_of_getElem? (i := 1952) (by decide +kernel)⟩
theorem lw_p105 : lw_okq (⟨"SleepersModel", "sets", "()V"⟩, 128) := ⟨⟨by decide +kernel, by decide +kernel⟩, List.mem_of_getElem? (i := 1386) (by decide +kernel), List.mem_of_getElem? (i := 1955) (by decide +kernel), List.mem_of_getElem? (i := 1956) (by decide +kernel)⟩
theorem lw_p106 : lw_okq (⟨"SleepersModel", "forget", "()V"⟩, 128) := ⟨⟨by decide +kernel, by decide +kernel⟩, List.mem_of_getElem? (i := 1386) (by decide +kernel), List.mem_of_getElem? (i := 1959) (by decide +kernel), List.mem_of_getElem? (i := 1960) (by decide +kernel)⟩
theorem lw_p107 : lw_okq (⟨"SleepersModel", "isState", "(II)Z"⟩, 128) := ⟨⟨by decide +kernel, by decide +kernel⟩, List.mem_of_getElem? (i := 1386) (by decide +kernel), List.mem_of_getElem? (i := 1967) (by decide +kernel), List.mem_of_getElem? (i := 1968) (by decide +kernel)⟩
theorem lw_p108 : lw_okq (⟨"SleepersModel", "from", "(II)V"⟩, 128) := ⟨⟨by decide +kernel, by decide +kernel⟩, List.mem_of_getElem? (i := 1386) (by decide +kernel), List.mem_of_getElem? (i := 1971) (by decide +kernel), List.mem_of_getElem? (i := 1972) (by decide +kernel)⟩
theorem lw_p109 : lw_okq (⟨"SleepersModel", "go", "(II)V"⟩, 128) := ⟨⟨by decide +kernel, by decide +kernel⟩, List.mem_of_getElem? (i := 1386) (by decide +kernel), List.mem_of_getElem? (i := 1975) (by decide +kernel), List.mem_of_getElem? (i := 1976) (by decide +kernel)⟩
theorem lw_p110 : lw_okq (⟨"SleepersModel", "goOn", "(II)V"⟩, 128) := ⟨⟨by decide +kernel, by decide +kernel⟩, List.mem_of_getElem? (i := 1386) (by decide +kernel), List.mem_of_getElem? (i := 1979) (by decide +kernel), List.mem_of_getElem? (i := 1980) (by decide +kernel)⟩
theorem lw_p111 : lw_okq (⟨"SleepersModel", "failing", "(II)I"⟩, 128) := ⟨⟨by decide +kernel, by decide +kernel⟩, List.mem_of_getElem? (i := 1386) (by decide +kernel), List.mem_of_getElem? (i := 1983) (by decide +kernel), List.mem_of_getElem? (i := 1984) (by decide +kernel)⟩
def lw_privs_7 : List (MethodName × Nat) := [(⟨"SleepersModel", "plain", "()V"⟩, 128), (⟨"SleepersModel", "takeNumber", "(II)I"⟩, 128), (⟨"SleepersModel", "leaves", "(Z)V"⟩, 128), (⟨"SleepersModel", "marks", "([ZI)V"⟩, 128), (⟨"SleepersModel", "wait", "(I)V"⟩, 128), (⟨"SleepersModel", "waitTree", "()V"⟩, 128), (⟨"SleepersModel", "isWait", "()Z"⟩, 128), (⟨"SleepersModel", "child", "()V"⟩, 128), (⟨"SleepersModel", "takeWord", "(I)V"⟩, 128), (⟨"SleepersModel", "sets", "()V"⟩, 128), (⟨"SleepersModel", "forget", "()V"⟩, 128), (⟨"SleepersModel", "isState", "(II)Z"⟩, 128), (⟨"SleepersModel", "from", "(II)V"⟩, 128), (⟨"SleepersModel", "go", "(II)V"⟩, 128), (⟨"SleepersModel", "goOn", "(II)V"⟩, 128), (⟨"SleepersModel", "failing", "(II)I"⟩, 128)]
theorem lw_r7 : ∀ q ∈ lw_privs_7, lw_okq q := List.forall_mem_cons.mpr ⟨lw_p96, List.forall_mem_cons.mpr ⟨lw_p97, List.forall_mem_cons.mpr ⟨lw_p98, List.forall_mem_cons.mpr ⟨lw_p99, List.forall_mem_cons.mpr ⟨lw_p100, List.forall_mem_cons.mpr ⟨lw_p101, List.forall_mem_cons.mpr ⟨lw_p102, List.forall_mem_cons.mpr ⟨lw_p103, List.forall_mem_cons.mpr ⟨lw_p104, List.forall_mem_cons.mpr ⟨lw_p105, List.forall_mem_cons.mpr ⟨lw_p106, List.forall_mem_cons.mpr ⟨lw_p107, List.forall_mem_cons.mpr ⟨lw_p108, List.forall_mem_cons.mpr ⟨lw_p109, List.forall_mem_cons.mpr ⟨lw_p110, List.forall_mem_cons.mpr ⟨lw_p111, fun _ h => absurd h List.not_mem_nil⟩⟩⟩⟩⟩⟩⟩⟩⟩⟩⟩⟩⟩⟩⟩⟩
theorem lw_p112 : lw_okq (⟨"SleepersModel", "goTo", "(III)V"⟩, 128) := ⟨⟨by decide +kernel, by decide +kernel⟩, List.mem_of_getElem? (i := 1386) (by decide +kernel), List.mem_of_getElem? (i := 1987) (by decide +kernel), List.mem_of_getElem? (i := 1988) (by decide +kernel)⟩
theorem lw_p113 : lw_okq (⟨"SleepersModel", "finishing", "(III)I"⟩, 128) := ⟨⟨by decide +kernel, by decide +kernel⟩, List.mem_of_getElem? (i := 1386) (by decide +kernel), List.mem_of_getElem? (i := 1991) (by decide +kernel), List.mem_of_getElem? (i := 1992) (by decide +kernel)⟩
theorem lw_p114 : lw_okq (⟨"SleepersModel", "goFinished", "(II)V"⟩, 128) := ⟨⟨by decide +kernel, by decide +kernel⟩, List.mem_of_getElem? (i := 1386) (by decide +kernel), List.mem_of_getElem? (i := 1995) (by decide +kernel), List.mem_of_getElem? (i := 1996) (by decide +kernel)⟩
theorem lw_p115 : lw_okq (⟨"SleepersModel", "newTask", "(III)I"⟩, 128) := ⟨⟨by decide +kernel, by decide +kernel⟩, List.mem_of_getElem? (i := 1386) (by decide +kernel), List.mem_of_getElem? (i := 2007) (by decide +kernel), List.mem_of_getElem? (i := 2008) (by decide +kernel)⟩
theorem lw_p116 : lw_okq (⟨"SleepersModel", "toRow", "(I)V"⟩, 128) := ⟨⟨by decide +kernel, by decide +kernel⟩, List.mem_of_getElem? (i := 1386) (by decide +kernel), List.mem_of_getElem? (i := 2011) (by decide +kernel), List.mem_of_getElem? (i := 2012) (by decide +kernel)⟩
theorem lw_p117 : lw_okq (⟨"SleepersModel", "cancels", "(I)Z"⟩, 128) := ⟨⟨by decide +kernel, by decide +kernel⟩, List.mem_of_getElem? (i := 1386) (by decide +kernel), List.mem_of_getElem? (i := 2019) (by decide +kernel), List.mem_of_getElem? (i := 2020) (by decide +kernel)⟩
theorem lw_p118 : lw_okq (⟨"SleepersModel", "outOfRow", "(I)V"⟩, 128) := ⟨⟨by decide +kernel, by decide +kernel⟩, List.mem_of_getElem? (i := 1386) (by decide +kernel), List.mem_of_getElem? (i := 2023) (by decide +kernel), List.mem_of_getElem? (i := 2024) (by decide +kernel)⟩
theorem lw_p119 : lw_okq (⟨"SleepersModel", "ends", "(III)V"⟩, 128) := ⟨⟨by decide +kernel, by decide +kernel⟩, List.mem_of_getElem? (i := 1386) (by decide +kernel), List.mem_of_getElem? (i := 2027) (by decide +kernel), List.mem_of_getElem? (i := 2028) (by decide +kernel)⟩
theorem lw_p120 : lw_okq (⟨"SleepersModel", "decides", "(III)V"⟩, 128) := ⟨⟨by decide +kernel, by decide +kernel⟩, List.mem_of_getElem? (i := 1386) (by decide +kernel), List.mem_of_getElem? (i := 2031) (by decide +kernel), List.mem_of_getElem? (i := 2032) (by decide +kernel)⟩
theorem lw_p121 : lw_okq (⟨"SleepersModel", "waitEnds", "(III)V"⟩, 128) := ⟨⟨by decide +kernel, by decide +kernel⟩, List.mem_of_getElem? (i := 1386) (by decide +kernel), List.mem_of_getElem? (i := 2035) (by decide +kernel), List.mem_of_getElem? (i := 2036) (by decide +kernel)⟩
theorem lw_p122 : lw_okq (⟨"SleepersModel", "weighs", "(I)V"⟩, 128) := ⟨⟨by decide +kernel, by decide +kernel⟩, List.mem_of_getElem? (i := 1386) (by decide +kernel), List.mem_of_getElem? (i := 2039) (by decide +kernel), List.mem_of_getElem? (i := 2040) (by decide +kernel)⟩
theorem lw_p123 : lw_okq (⟨"SleepersModel", "letGo", "(II)V"⟩, 128) := ⟨⟨by decide +kernel, by decide +kernel⟩, List.mem_of_getElem? (i := 1386) (by decide +kernel), List.mem_of_getElem? (i := 2043) (by decide +kernel), List.mem_of_getElem? (i := 2044) (by decide +kernel)⟩
theorem lw_p124 : lw_okq (⟨"SleepersModel", "standsNoMore", "(I)V"⟩, 128) := ⟨⟨by decide +kernel, by decide +kernel⟩, List.mem_of_getElem? (i := 1386) (by decide +kernel), List.mem_of_getElem? (i := 2047) (by decide +kernel), List.mem_of_getElem? (i := 2048) (by decide +kernel)⟩
theorem lw_p125 : lw_okq (⟨"SleepersModel", "runs", "(I)V"⟩, 128) := ⟨⟨by decide +kernel, by decide +kernel⟩, List.mem_of_getElem? (i := 1386) (by decide +kernel), List.mem_of_getElem? (i := 2055) (by decide +kernel), List.mem_of_getElem? (i := 2056) (by decide +kernel)⟩
theorem lw_p126 : lw_okq (⟨"SleepersModel", "raise", "(I)V"⟩, 128) := ⟨⟨by decide +kernel, by decide +kernel⟩, List.mem_of_getElem? (i := 1386) (by decide +kernel), List.mem_of_getElem? (i := 2059) (by decide +kernel), List.mem_of_getElem? (i := 2060) (by decide +kernel)⟩
theorem lw_p127 : lw_okq (⟨"SleepersModel", "toFinish", "(III)V"⟩, 128) := ⟨⟨by decide +kernel, by decide +kernel⟩, List.mem_of_getElem? (i := 1386) (by decide +kernel), List.mem_of_getElem? (i := 2063) (by decide +kernel), List.mem_of_getElem? (i := 2064) (by decide +kernel)⟩
def lw_privs_8 : List (MethodName × Nat) := [(⟨"SleepersModel", "goTo", "(III)V"⟩, 128), (⟨"SleepersModel", "finishing", "(III)I"⟩, 128), (⟨"SleepersModel", "goFinished", "(II)V"⟩, 128), (⟨"SleepersModel", "newTask", "(III)I"⟩, 128), (⟨"SleepersModel", "toRow", "(I)V"⟩, 128), (⟨"SleepersModel", "cancels", "(I)Z"⟩, 128), (⟨"SleepersModel", "outOfRow", "(I)V"⟩, 128), (⟨"SleepersModel", "ends", "(III)V"⟩, 128), (⟨"SleepersModel", "decides", "(III)V"⟩, 128), (⟨"SleepersModel", "waitEnds", "(III)V"⟩, 128), (⟨"SleepersModel", "weighs", "(I)V"⟩, 128), (⟨"SleepersModel", "letGo", "(II)V"⟩, 128), (⟨"SleepersModel", "standsNoMore", "(I)V"⟩, 128), (⟨"SleepersModel", "runs", "(I)V"⟩, 128), (⟨"SleepersModel", "raise", "(I)V"⟩, 128), (⟨"SleepersModel", "toFinish", "(III)V"⟩, 128)]
theorem lw_r8 : ∀ q ∈ lw_privs_8, lw_okq q := List.forall_mem_cons.mpr ⟨lw_p112, List.forall_mem_cons.mpr ⟨lw_p113, List.forall_mem_cons.mpr ⟨lw_p114, List.forall_mem_cons.mpr ⟨lw_p115, List.forall_mem_cons.mpr ⟨lw_p116, List.forall_mem_cons.mpr ⟨lw_p117, List.forall_mem_cons.mpr ⟨lw_p118, List.forall_mem_cons.mpr ⟨lw_p119, List.forall_mem_cons.mpr ⟨lw_p120, List.forall_mem_cons.mpr ⟨lw_p121, List.forall_mem_cons.mpr ⟨lw_p122, List.forall_mem_cons.mpr ⟨lw_p123, List.forall_mem_cons.mpr ⟨lw_p124, List.forall_mem_cons.mpr ⟨lw_p125, List.forall_mem_cons.mpr ⟨lw_p126, List.forall_mem_cons.mpr ⟨lw_p127, fun _ h => absurd h List.not_mem_nil⟩⟩⟩⟩⟩⟩⟩⟩⟩⟩⟩⟩⟩⟩⟩⟩
theorem lw_p128 : lw_okq (⟨"SleepersModel", "raiseCancel", "()V"⟩, 128) := ⟨⟨by decide +kernel, by decide +kernel⟩, List.mem_of_getElem? (i := 1386) (by decide +kernel), List.mem_of_getElem? (i := 2067) (by decide +kernel), List.mem_of_getElem? (i := 2068) (by decide +kernel)⟩
theorem lw_p129 : lw_okq (⟨"SleepersModel", "works", "(III)V"⟩, 128) := ⟨⟨by decide +kernel, by decide +kernel⟩, List.mem_of_getElem? (i := 1386) (by decide +kernel), List.mem_of_getElem? (i := 2071) (by decide +kernel), List.mem_of_getElem? (i := 2072) (by decide +kernel)⟩
theorem lw_p130 : lw_okq (⟨"SleepersModel", "step", "()Z"⟩, 128) := ⟨⟨by decide +kernel, by decide +kernel⟩, List.mem_of_getElem? (i := 1386) (by decide +kernel), List.mem_of_getElem? (i := 2075) (by decide +kernel), List.mem_of_getElem? (i := 2076) (by decide +kernel)⟩
theorem lw_p131 : lw_okq (⟨"SleepersModel", "spent", "()V"⟩, 128) := ⟨⟨by decide +kernel, by decide +kernel⟩, List.mem_of_getElem? (i := 1386) (by decide +kernel), List.mem_of_getElem? (i := 2080) (by decide +kernel), List.mem_of_getElem? (i := 2081) (by decide +kernel)⟩
theorem lw_p132 : lw_okq (⟨"SleepersModel", "pop", "()I"⟩, 128) := ⟨⟨by decide +kernel, by decide +kernel⟩, List.mem_of_getElem? (i := 1386) (by decide +kernel), List.mem_of_getElem? (i := 2084) (by decide +kernel), List.mem_of_getElem? (i := 2085) (by decide +kernel)⟩
theorem lw_p133 : lw_okq (⟨"SleepersModel", "notePut", "(I)V"⟩, 128) := ⟨⟨by decide +kernel, by decide +kernel⟩, List.mem_of_getElem? (i := 1386) (by decide +kernel), List.mem_of_getElem? (i := 2088) (by decide +kernel), List.mem_of_getElem? (i := 2089) (by decide +kernel)⟩
theorem lw_p134 : lw_okq (⟨"SleepersModel", "leave", "(II)V"⟩, 128) := ⟨⟨by decide +kernel, by decide +kernel⟩, List.mem_of_getElem? (i := 1386) (by decide +kernel), List.mem_of_getElem? (i := 2092) (by decide +kernel), List.mem_of_getElem? (i := 2093) (by decide +kernel)⟩
theorem lw_p135 : lw_okq (⟨"SleepersModel", "enter", "(I)V"⟩, 128) := ⟨⟨by decide +kernel, by decide +kernel⟩, List.mem_of_getElem? (i := 1386) (by decide +kernel), List.mem_of_getElem? (i := 2096) (by decide +kernel), List.mem_of_getElem? (i := 2097) (by decide +kernel)⟩
theorem lw_p136 : lw_okq (⟨"SleepersModel", "leavePart", "(I)V"⟩, 128) := ⟨⟨by decide +kernel, by decide +kernel⟩, List.mem_of_getElem? (i := 1386) (by decide +kernel), List.mem_of_getElem? (i := 2100) (by decide +kernel), List.mem_of_getElem? (i := 2101) (by decide +kernel)⟩
theorem lw_p137 : lw_okq (⟨"SleepersModel", "finished", "(I)V"⟩, 128) := ⟨⟨by decide +kernel, by decide +kernel⟩, List.mem_of_getElem? (i := 1386) (by decide +kernel), List.mem_of_getElem? (i := 2104) (by decide +kernel), List.mem_of_getElem? (i := 2105) (by decide +kernel)⟩
theorem lw_p138 : lw_okq (⟨"SleepersModel", "worksWait", "(III)V"⟩, 128) := ⟨⟨by decide +kernel, by decide +kernel⟩, List.mem_of_getElem? (i := 1386) (by decide +kernel), List.mem_of_getElem? (i := 2108) (by decide +kernel), List.mem_of_getElem? (i := 2109) (by decide +kernel)⟩
theorem lw_p139 : lw_okq (⟨"SleepersModel", "letterNode", "(I)V"⟩, 128) := ⟨⟨by decide +kernel, by decide +kernel⟩, List.mem_of_getElem? (i := 1386) (by decide +kernel), List.mem_of_getElem? (i := 2112) (by decide +kernel), List.mem_of_getElem? (i := 2113) (by decide +kernel)⟩
theorem lw_p140 : lw_okq (⟨"SleepersModel", "newNode", "(III)I"⟩, 128) := ⟨⟨by decide +kernel, by decide +kernel⟩, List.mem_of_getElem? (i := 1386) (by decide +kernel), List.mem_of_getElem? (i := 2116) (by decide +kernel), List.mem_of_getElem? (i := 2117) (by decide +kernel)⟩
theorem lw_p141 : lw_okq (⟨"SleepersModel", "tickNode", "(I)V"⟩, 128) := ⟨⟨by decide +kernel, by decide +kernel⟩, List.mem_of_getElem? (i := 1386) (by decide +kernel), List.mem_of_getElem? (i := 2120) (by decide +kernel), List.mem_of_getElem? (i := 2121) (by decide +kernel)⟩
theorem lw_p142 : lw_okq (⟨"SleepersModel", "childNode", "(II)V"⟩, 128) := ⟨⟨by decide +kernel, by decide +kernel⟩, List.mem_of_getElem? (i := 1386) (by decide +kernel), List.mem_of_getElem? (i := 2124) (by decide +kernel), List.mem_of_getElem? (i := 2125) (by decide +kernel)⟩
theorem lw_p143 : lw_okq (⟨"SleepersModel", "failure", "(I)V"⟩, 128) := ⟨⟨by decide +kernel, by decide +kernel⟩, List.mem_of_getElem? (i := 1386) (by decide +kernel), List.mem_of_getElem? (i := 2128) (by decide +kernel), List.mem_of_getElem? (i := 2129) (by decide +kernel)⟩
def lw_privs_9 : List (MethodName × Nat) := [(⟨"SleepersModel", "raiseCancel", "()V"⟩, 128), (⟨"SleepersModel", "works", "(III)V"⟩, 128), (⟨"SleepersModel", "step", "()Z"⟩, 128), (⟨"SleepersModel", "spent", "()V"⟩, 128), (⟨"SleepersModel", "pop", "()I"⟩, 128), (⟨"SleepersModel", "notePut", "(I)V"⟩, 128), (⟨"SleepersModel", "leave", "(II)V"⟩, 128), (⟨"SleepersModel", "enter", "(I)V"⟩, 128), (⟨"SleepersModel", "leavePart", "(I)V"⟩, 128), (⟨"SleepersModel", "finished", "(I)V"⟩, 128), (⟨"SleepersModel", "worksWait", "(III)V"⟩, 128), (⟨"SleepersModel", "letterNode", "(I)V"⟩, 128), (⟨"SleepersModel", "newNode", "(III)I"⟩, 128), (⟨"SleepersModel", "tickNode", "(I)V"⟩, 128), (⟨"SleepersModel", "childNode", "(II)V"⟩, 128), (⟨"SleepersModel", "failure", "(I)V"⟩, 128)]
theorem lw_r9 : ∀ q ∈ lw_privs_9, lw_okq q := List.forall_mem_cons.mpr ⟨lw_p128, List.forall_mem_cons.mpr ⟨lw_p129, List.forall_mem_cons.mpr ⟨lw_p130, List.forall_mem_cons.mpr ⟨lw_p131, List.forall_mem_cons.mpr ⟨lw_p132, List.forall_mem_cons.mpr ⟨lw_p133, List.forall_mem_cons.mpr ⟨lw_p134, List.forall_mem_cons.mpr ⟨lw_p135, List.forall_mem_cons.mpr ⟨lw_p136, List.forall_mem_cons.mpr ⟨lw_p137, List.forall_mem_cons.mpr ⟨lw_p138, List.forall_mem_cons.mpr ⟨lw_p139, List.forall_mem_cons.mpr ⟨lw_p140, List.forall_mem_cons.mpr ⟨lw_p141, List.forall_mem_cons.mpr ⟨lw_p142, List.forall_mem_cons.mpr ⟨lw_p143, fun _ h => absurd h List.not_mem_nil⟩⟩⟩⟩⟩⟩⟩⟩⟩⟩⟩⟩⟩⟩⟩⟩
theorem lw_p144 : lw_okq (⟨"SleepersModel", "stops", "(I)V"⟩, 128) := ⟨⟨by decide +kernel, by decide +kernel⟩, List.mem_of_getElem? (i := 1386) (by decide +kernel), List.mem_of_getElem? (i := 2132) (by decide +kernel), List.mem_of_getElem? (i := 2133) (by decide +kernel)⟩
theorem lw_p145 : lw_okq (⟨"SleepersModel", "shuts", "()V"⟩, 128) := ⟨⟨by decide +kernel, by decide +kernel⟩, List.mem_of_getElem? (i := 1386) (by decide +kernel), List.mem_of_getElem? (i := 2136) (by decide +kernel), List.mem_of_getElem? (i := 2137) (by decide +kernel)⟩
theorem lw_p146 : lw_okq (⟨"SleepersModel", "reckons", "(II)V"⟩, 128) := ⟨⟨by decide +kernel, by decide +kernel⟩, List.mem_of_getElem? (i := 1386) (by decide +kernel), List.mem_of_getElem? (i := 2140) (by decide +kernel), List.mem_of_getElem? (i := 2141) (by decide +kernel)⟩
theorem lw_p147 : lw_okq (⟨"SleepersModel", "push", "(I)V"⟩, 128) := ⟨⟨by decide +kernel, by decide +kernel⟩, List.mem_of_getElem? (i := 1386) (by decide +kernel), List.mem_of_getElem? (i := 2144) (by decide +kernel), List.mem_of_getElem? (i := 2145) (by decide +kernel)⟩
theorem lw_p148 : lw_okq (⟨"SleepersModel", "due", "(J)I"⟩, 128) := ⟨⟨by decide +kernel, by decide +kernel⟩, List.mem_of_getElem? (i := 1386) (by decide +kernel), List.mem_of_getElem? (i := 2160) (by decide +kernel), List.mem_of_getElem? (i := 2161) (by decide +kernel)⟩
theorem lw_p149 : lw_okq (⟨"SleepersModel", "isTask", "(I)Z"⟩, 128) := ⟨⟨by decide +kernel, by decide +kernel⟩, List.mem_of_getElem? (i := 1386) (by decide +kernel), List.mem_of_getElem? (i := 2168) (by decide +kernel), List.mem_of_getElem? (i := 2169) (by decide +kernel)⟩
def lw_privs_10 : List (MethodName × Nat) := [(⟨"SleepersModel", "stops", "(I)V"⟩, 128), (⟨"SleepersModel", "shuts", "()V"⟩, 128), (⟨"SleepersModel", "reckons", "(II)V"⟩, 128), (⟨"SleepersModel", "push", "(I)V"⟩, 128), (⟨"SleepersModel", "due", "(J)I"⟩, 128), (⟨"SleepersModel", "isTask", "(I)Z"⟩, 128)]
theorem lw_r10 : ∀ q ∈ lw_privs_10, lw_okq q := List.forall_mem_cons.mpr ⟨lw_p144, List.forall_mem_cons.mpr ⟨lw_p145, List.forall_mem_cons.mpr ⟨lw_p146, List.forall_mem_cons.mpr ⟨lw_p147, List.forall_mem_cons.mpr ⟨lw_p148, List.forall_mem_cons.mpr ⟨lw_p149, fun _ h => absurd h List.not_mem_nil⟩⟩⟩⟩⟩⟩
def lw_privs : List (MethodName × Nat) := lw_privs_1 ++ (lw_privs_2 ++ (lw_privs_3 ++ (lw_privs_4 ++ (lw_privs_5 ++ (lw_privs_6 ++ (lw_privs_7 ++ (lw_privs_8 ++ (lw_privs_9 ++ (lw_privs_10)))))))))
def lw_tbl : List Cond := k2_sels lw_privs ++ tables_1
theorem lw_privs_ok : ∀ q ∈ lw_privs, lw_okq q := by
  show ∀ q ∈ lw_privs_1 ++ (lw_privs_2 ++ (lw_privs_3 ++ (lw_privs_4 ++ (lw_privs_5 ++ (lw_privs_6 ++ (lw_privs_7 ++ (lw_privs_8 ++ (lw_privs_9 ++ (lw_privs_10))))))))), lw_okq q
  exact List.forall_mem_append.mpr ⟨lw_r1, List.forall_mem_append.mpr ⟨lw_r2, List.forall_mem_append.mpr ⟨lw_r3, List.forall_mem_append.mpr ⟨lw_r4, List.forall_mem_append.mpr ⟨lw_r5, List.forall_mem_append.mpr ⟨lw_r6, List.forall_mem_append.mpr ⟨lw_r7, List.forall_mem_append.mpr ⟨lw_r8, List.forall_mem_append.mpr ⟨lw_r9, lw_r10⟩⟩⟩⟩⟩⟩⟩⟩⟩
end
section
def RX0 : String := "Sleepers$Book"
def TX0 : u_T := fun k => match k with
  | 0 => ("Sleepers$Book", "size", "I", false)
  | 1 => ("Sleepers$Book", "tasks", "[I", true)
  | _ => ("Sleepers$Book", "numbers", "[I", true)
def tyX0 : Nat → FieldType := fun k => match k with
  | 0 => .int
  | 1 => .array .int
  | _ => .array .int
abbrev wsX00 : List Cond := u_ws RX0 TX0 3
theorem nmX0 : ∀ a, a < 3 → ∀ b, b < 3 → a ≠ b → (TX0 a).2.1 ≠ (TX0 b).2.1 := by decide +kernel
theorem tyX0_ok : ∀ k, k < 3 → parseFieldDescriptor (TX0 k).2.2.1 = some (tyX0 k) := by decide +kernel
abbrev cX0_init : ByteArray := prog_2_method_1_code
def yX0_init : MethodName := ⟨RX0, "<init>", "()V"⟩
abbrev cX0_note : ByteArray := prog_2_method_2_code
def yX0_note : MethodName := ⟨RX0, "note", "(II)V"⟩
abbrev cX0_tell : ByteArray := prog_2_method_3_code
def yX0_tell : MethodName := ⟨RX0, "tell", "(II)I"⟩
abbrev cX0_clear : ByteArray := prog_2_method_4_code
def yX0_clear : MethodName := ⟨RX0, "clear", "()V"⟩
def RX1 : String := "Sleepers$Hall"
def TX1 : u_T := fun k => match k with
  | 0 => ("Sleepers$Hall", "program", "LSleepers$Program;", false)
  | 1 => ("Sleepers$Hall", "tasks", "[LSleepers$Task;", true)
  | 2 => ("Sleepers$Hall", "taskCount", "I", false)
  | 3 => ("Sleepers$Hall", "endedCount", "I", false)
  | 4 => ("Sleepers$Hall", "row", "[I", true)
  | 5 => ("Sleepers$Hall", "rowCount", "I", false)
  | 6 => ("Sleepers$Hall", "clock", "I", false)
  | 7 => ("Sleepers$Hall", "letters", "[I", true)
  | 8 => ("Sleepers$Hall", "letterCount", "[I", true)
  | 9 => ("Sleepers$Hall", "lines", "[LSleepers$Line;", true)
  | 10 => ("Sleepers$Hall", "alarms", "LSleepers$Line;", true)
  | 11 => ("Sleepers$Hall", "lost", "LSleepers$Book;", true)
  | 12 => ("Sleepers$Hall", "agenda", "[I", true)
  | 13 => ("Sleepers$Hall", "agendaCount", "I", false)
  | _ => ("Sleepers$Hall", "unused", "LSleepers$Part;", false)
def tyX1 : Nat → FieldType := fun k => match k with
  | 0 => .object "Sleepers$Program"
  | 1 => .array (.object "Sleepers$Task")
  | 2 => .int
  | 3 => .int
  | 4 => .array .int
  | 5 => .int
  | 6 => .int
  | 7 => .array .int
  | 8 => .array .int
  | 9 => .array (.object "Sleepers$Line")
  | 10 => .object "Sleepers$Line"
  | 11 => .object "Sleepers$Book"
  | 12 => .array .int
  | 13 => .int
  | _ => .object "Sleepers$Part"
abbrev wsX10 : List Cond := u_ws RX1 TX1 15
theorem nmX1 : ∀ a, a < 15 → ∀ b, b < 15 → a ≠ b → (TX1 a).2.1 ≠ (TX1 b).2.1 := by decide +kernel
theorem tyX1_ok : ∀ k, k < 15 → parseFieldDescriptor (TX1 k).2.2.1 = some (tyX1 k) := by decide +kernel
abbrev cX1_init : ByteArray := prog_3_method_1_code
def yX1_init : MethodName := ⟨RX1, "<init>", "()V"⟩
abbrev cX1_open : ByteArray := prog_3_method_2_code
def yX1_open : MethodName := ⟨RX1, "open", "(LSleepers$Program;)V"⟩
abbrev cX1_has : ByteArray := prog_3_method_3_code
def yX1_has : MethodName := ⟨RX1, "has", "(I)Z"⟩
abbrev cX1_lettersLying : ByteArray := prog_3_method_4_code
def yX1_lettersLying : MethodName := ⟨RX1, "lettersLying", "()I"⟩
abbrev cX1_newTask : ByteArray := prog_3_method_5_code
def yX1_newTask : MethodName := ⟨RX1, "newTask", "(ILSleepers$Task;)LSleepers$Task;"⟩
abbrev cX1_enterRow : ByteArray := prog_3_method_6_code
def yX1_enterRow : MethodName := ⟨RX1, "enterRow", "(LSleepers$Task;)V"⟩
abbrev cX1_leaveRow : ByteArray := prog_3_method_7_code
def yX1_leaveRow : MethodName := ⟨RX1, "leaveRow", "(I)LSleepers$Task;"⟩
abbrev cX1_newPart : ByteArray := prog_3_method_8_code
def yX1_newPart : MethodName := ⟨RX1, "newPart", "(LSleepers$Task;I)LSleepers$Part;"⟩
abbrev cX1_takeBack : ByteArray := prog_3_method_9_code
def yX1_takeBack : MethodName := ⟨RX1, "takeBack", "(LSleepers$Task;)V"⟩
abbrev cX1_setAlarm : ByteArray := prog_3_method_10_code
def yX1_setAlarm : MethodName := ⟨RX1, "setAlarm", "(LSleepers$Part;I)V"⟩
abbrev cX1_takeLetter : ByteArray := prog_3_method_11_code
def yX1_takeLetter : MethodName := ⟨RX1, "takeLetter", "(I)I"⟩
abbrev cX1_deliver : ByteArray := prog_3_method_12_code
def yX1_deliver : MethodName := ⟨RX1, "deliver", "(II)I"⟩
abbrev cX1_pass : ByteArray := prog_3_method_13_code
def yX1_pass : MethodName := ⟨RX1, "pass", "(I)V"⟩
abbrev cX1_callOff : ByteArray := prog_3_method_14_code
def yX1_callOff : MethodName := ⟨RX1, "callOff", "(I)Z"⟩
abbrev cX1_stand : ByteArray := prog_3_method_15_code
def yX1_stand : MethodName := ⟨RX1, "stand", "(LSleepers$Task;)V"⟩
abbrev cX1_breakOff : ByteArray := prog_3_method_16_code
def yX1_breakOff : MethodName := ⟨RX1, "breakOff", "(LSleepers$Task;I)V"⟩
abbrev cX1_end : ByteArray := prog_3_method_17_code
def yX1_end : MethodName := ⟨RX1, "end", "(LSleepers$Task;)V"⟩
abbrev cX1_tellParent : ByteArray := prog_3_method_18_code
def yX1_tellParent : MethodName := ⟨RX1, "tellParent", "(LSleepers$Task;)V"⟩
abbrev cX1_report : ByteArray := prog_3_method_19_code
def yX1_report : MethodName := ⟨RX1, "report", "(LSleepers$Part;II)V"⟩
abbrev cX1_letGo : ByteArray := prog_3_method_20_code
def yX1_letGo : MethodName := ⟨RX1, "letGo", "(LSleepers$Task;Z)V"⟩
abbrev cX1_drop : ByteArray := prog_3_method_21_code
def yX1_drop : MethodName := ⟨RX1, "drop", "(LSleepers$Task;Z)V"⟩
abbrev cX1_plan : ByteArray := prog_3_method_22_code
def yX1_plan : MethodName := ⟨RX1, "plan", "(I)V"⟩
abbrev cX1_turnRound : ByteArray := prog_3_method_23_code
def yX1_turnRound : MethodName := ⟨RX1, "turnRound", "(I)V"⟩
abbrev cX1_work : ByteArray := prog_3_method_24_code
def yX1_work : MethodName := ⟨RX1, "work", "()V"⟩
abbrev cX1_settle : ByteArray := prog_3_method_25_code
def yX1_settle : MethodName := ⟨RX1, "settle", "(LSleepers$Task;)V"⟩
abbrev cX1_stop : ByteArray := prog_3_method_26_code
def yX1_stop : MethodName := ⟨RX1, "stop", "(LSleepers$Task;)V"⟩
abbrev cX1_close : ByteArray := prog_3_method_27_code
def yX1_close : MethodName := ⟨RX1, "close", "(LSleepers$Task;)V"⟩
def RX2 : String := "Sleepers$Line"
def TX2 : u_T := fun k => match k with
  | 0 => ("Sleepers$Line", "first", "LSleepers$Part;", false)
  | _ => ("Sleepers$Line", "last", "LSleepers$Part;", false)
def tyX2 : Nat → FieldType := fun k => match k with
  | 0 => .object "Sleepers$Part"
  | _ => .object "Sleepers$Part"
abbrev wsX20 : List Cond := u_ws RX2 TX2 2
theorem nmX2 : ∀ a, a < 2 → ∀ b, b < 2 → a ≠ b → (TX2 a).2.1 ≠ (TX2 b).2.1 := by decide +kernel
theorem tyX2_ok : ∀ k, k < 2 → parseFieldDescriptor (TX2 k).2.2.1 = some (tyX2 k) := by decide +kernel
abbrev cX2_init : ByteArray := prog_4_method_1_code
def yX2_init : MethodName := ⟨RX2, "<init>", "()V"⟩
abbrev cX2_add : ByteArray := prog_4_method_2_code
def yX2_add : MethodName := ⟨RX2, "add", "(LSleepers$Part;)V"⟩
abbrev cX2_remove : ByteArray := prog_4_method_3_code
def yX2_remove : MethodName := ⟨RX2, "remove", "(LSleepers$Part;)V"⟩
abbrev cX2_taskAt : ByteArray := prog_4_method_4_code
def yX2_taskAt : MethodName := ⟨RX2, "taskAt", "(I)I"⟩
abbrev cX2_clear : ByteArray := prog_4_method_5_code
def yX2_clear : MethodName := ⟨RX2, "clear", "()V"⟩
def RX3 : String := "Sleepers$Parser"
def TX3 : u_T := fun k => match k with
  | 0 => ("Sleepers$Parser", "tokens", "LSleepers$Tokens;", true)
  | 1 => ("Sleepers$Parser", "program", "LSleepers$Program;", false)
  | 2 => ("Sleepers$Parser", "scopes", "LSleepers$Scopes;", false)
  | 3 => ("Sleepers$Parser", "at", "I", false)
  | 4 => ("Sleepers$Parser", "fault", "I", false)
  | 5 => ("Sleepers$Parser", "scope", "I", false)
  | 6 => ("Sleepers$Parser", "loop", "I", false)
  | 7 => ("Sleepers$Parser", "finishes", "I", false)
  | 8 => ("Sleepers$Parser", "children", "I", false)
  | 9 => ("Sleepers$Parser", "childAct", "[I", true)
  | 10 => ("Sleepers$Parser", "childPlace", "[I", true)
  | 11 => ("Sleepers$Parser", "childGiven", "[I", true)
  | _ => ("Sleepers$Parser", "childName", "[J", true)
def tyX3 : Nat → FieldType := fun k => match k with
  | 0 => .object "Sleepers$Tokens"
  | 1 => .object "Sleepers$Program"
  | 2 => .object "Sleepers$Scopes"
  | 3 => .int
  | 4 => .int
  | 5 => .int
  | 6 => .int
  | 7 => .int
  | 8 => .int
  | 9 => .array .int
  | 10 => .array .int
  | 11 => .array .int
  | _ => .array .long
abbrev wsX30 : List Cond := u_ws RX3 TX3 13
theorem nmX3 : ∀ a, a < 13 → ∀ b, b < 13 → a ≠ b → (TX3 a).2.1 ≠ (TX3 b).2.1 := by decide +kernel
theorem tyX3_ok : ∀ k, k < 13 → parseFieldDescriptor (TX3 k).2.2.1 = some (tyX3 k) := by decide +kernel
abbrev cX3_init : ByteArray := prog_5_method_1_code
def yX3_init : MethodName := ⟨RX3, "<init>", "(LSleepers$Tokens;)V"⟩
abbrev cX3_read : ByteArray := prog_5_method_2_code
def yX3_read : MethodName := ⟨RX3, "read", "(LSleepers$Program;)I"⟩
abbrev cX3_kind : ByteArray := prog_5_method_3_code
def yX3_kind : MethodName := ⟨RX3, "kind", "()I"⟩
abbrev cX3_step : ByteArray := prog_5_method_4_code
def yX3_step : MethodName := ⟨RX3, "step", "()V"⟩
abbrev cX3_take : ByteArray := prog_5_method_5_code
def yX3_take : MethodName := ⟨RX3, "take", "(I)Z"⟩
abbrev cX3_need : ByteArray := prog_5_method_6_code
def yX3_need : MethodName := ⟨RX3, "need", "(I)V"⟩
abbrev cX3_wrong : ByteArray := prog_5_method_7_code
def yX3_wrong : MethodName := ⟨RX3, "wrong", "(I)V"⟩
abbrev cX3_emit : ByteArray := prog_5_method_8_code
def yX3_emit : MethodName := ⟨RX3, "emit", "(II)I"⟩
abbrev cX3_header : ByteArray := prog_5_method_9_code
def yX3_header : MethodName := ⟨RX3, "header", "()V"⟩
abbrev cX3_givenCell : ByteArray := prog_5_method_10_code
def yX3_givenCell : MethodName := ⟨RX3, "givenCell", "()V"⟩
abbrev cX3_block : ByteArray := prog_5_method_11_code
def yX3_block : MethodName := ⟨RX3, "block", "(I)V"⟩
abbrev cX3_startsStatement : ByteArray := prog_5_method_12_code
def yX3_startsStatement : MethodName := ⟨RX3, "startsStatement", "(I)Z"⟩
abbrev cX3_startsWait : ByteArray := prog_5_method_13_code
def yX3_startsWait : MethodName := ⟨RX3, "startsWait", "(I)Z"⟩
abbrev cX3_statement : ByteArray := prog_5_method_14_code
def yX3_statement : MethodName := ⟨RX3, "statement", "(I)V"⟩
abbrev cX3_assigned : ByteArray := prog_5_method_15_code
def yX3_assigned : MethodName := ⟨RX3, "assigned", "()V"⟩
abbrev cX3_returned : ByteArray := prog_5_method_16_code
def yX3_returned : MethodName := ⟨RX3, "returned", "()V"⟩
abbrev cX3_leftLoop : ByteArray := prog_5_method_17_code
def yX3_leftLoop : MethodName := ⟨RX3, "leftLoop", "()V"⟩
abbrev cX3_choice : ByteArray := prog_5_method_18_code
def yX3_choice : MethodName := ⟨RX3, "choice", "(I)V"⟩
abbrev cX3_repeated : ByteArray := prog_5_method_19_code
def yX3_repeated : MethodName := ⟨RX3, "repeated", "(II)V"⟩
abbrev cX3_tried : ByteArray := prog_5_method_20_code
def yX3_tried : MethodName := ⟨RX3, "tried", "(I)V"⟩
abbrev cX3_finished : ByteArray := prog_5_method_21_code
def yX3_finished : MethodName := ⟨RX3, "finished", "(II)V"⟩
abbrev cX3_waitFor : ByteArray := prog_5_method_22_code
def yX3_waitFor : MethodName := ⟨RX3, "waitFor", "(I)V"⟩
abbrev cX3_listed : ByteArray := prog_5_method_23_code
def yX3_listed : MethodName := ⟨RX3, "listed", "(II)I"⟩
abbrev cX3_keepChild : ByteArray := prog_5_method_24_code
def yX3_keepChild : MethodName := ⟨RX3, "keepChild", "(III)V"⟩
abbrev cX3_findChildren : ByteArray := prog_5_method_25_code
def yX3_findChildren : MethodName := ⟨RX3, "findChildren", "()V"⟩
abbrev cX3_expression : ByteArray := prog_5_method_26_code
def yX3_expression : MethodName := ⟨RX3, "expression", "(I)V"⟩
abbrev cX3_sum : ByteArray := prog_5_method_27_code
def yX3_sum : MethodName := ⟨RX3, "sum", "(I)V"⟩
abbrev cX3_product : ByteArray := prog_5_method_28_code
def yX3_product : MethodName := ⟨RX3, "product", "(I)V"⟩
abbrev cX3_part : ByteArray := prog_5_method_29_code
def yX3_part : MethodName := ⟨RX3, "part", "(I)V"⟩
abbrev cX3_cellHere : ByteArray := prog_5_method_30_code
def yX3_cellHere : MethodName := ⟨RX3, "cellHere", "()I"⟩
abbrev cX3_numberOf : ByteArray := prog_5_method_31_code
def yX3_numberOf : MethodName := ⟨RX3, "numberOf", "(II)I"⟩
def RX4 : String := "Sleepers$Part"
def TX4 : u_T := fun k => match k with
  | 0 => ("Sleepers$Part", "owner", "LSleepers$Task;", false)
  | 1 => ("Sleepers$Part", "kind", "I", false)
  | 2 => ("Sleepers$Part", "status", "I", false)
  | 3 => ("Sleepers$Part", "value", "I", false)
  | 4 => ("Sleepers$Part", "left", "I", false)
  | 5 => ("Sleepers$Part", "due", "I", false)
  | 6 => ("Sleepers$Part", "child", "LSleepers$Task;", false)
  | 7 => ("Sleepers$Part", "about", "LSleepers$Part;", false)
  | 8 => ("Sleepers$Part", "before", "LSleepers$Part;", false)
  | 9 => ("Sleepers$Part", "line", "LSleepers$Line;", false)
  | 10 => ("Sleepers$Part", "ahead", "LSleepers$Part;", false)
  | _ => ("Sleepers$Part", "behind", "LSleepers$Part;", false)
def tyX4 : Nat → FieldType := fun k => match k with
  | 0 => .object "Sleepers$Task"
  | 1 => .int
  | 2 => .int
  | 3 => .int
  | 4 => .int
  | 5 => .int
  | 6 => .object "Sleepers$Task"
  | 7 => .object "Sleepers$Part"
  | 8 => .object "Sleepers$Part"
  | 9 => .object "Sleepers$Line"
  | 10 => .object "Sleepers$Part"
  | _ => .object "Sleepers$Part"
abbrev wsX40 : List Cond := u_ws RX4 TX4 12
theorem nmX4 : ∀ a, a < 12 → ∀ b, b < 12 → a ≠ b → (TX4 a).2.1 ≠ (TX4 b).2.1 := by decide +kernel
theorem tyX4_ok : ∀ k, k < 12 → parseFieldDescriptor (TX4 k).2.2.1 = some (tyX4 k) := by decide +kernel
abbrev cX4_init : ByteArray := prog_6_method_1_code
def yX4_init : MethodName := ⟨RX4, "<init>", "()V"⟩
abbrev cX4_hears : ByteArray := prog_6_method_2_code
def yX4_hears : MethodName := ⟨RX4, "hears", "(II)Z"⟩
abbrev cX4_isAdrift : ByteArray := prog_6_method_3_code
def yX4_isAdrift : MethodName := ⟨RX4, "isAdrift", "()Z"⟩
def RX5 : String := "Sleepers$Program"
def TX5 : u_T := fun k => match k with
  | 0 => ("Sleepers$Program", "size", "I", false)
  | 1 => ("Sleepers$Program", "op", "[I", true)
  | 2 => ("Sleepers$Program", "arg", "[I", true)
  | 3 => ("Sleepers$Program", "scope", "[I", true)
  | 4 => ("Sleepers$Program", "scopes", "LSleepers$Scopes;", true)
  | 5 => ("Sleepers$Program", "routines", "I", false)
  | 6 => ("Sleepers$Program", "start", "[I", true)
  | 7 => ("Sleepers$Program", "end", "[I", true)
  | 8 => ("Sleepers$Program", "given", "[I", true)
  | 9 => ("Sleepers$Program", "cells", "[I", true)
  | 10 => ("Sleepers$Program", "waits", "[I", true)
  | 11 => ("Sleepers$Program", "standAt", "[I", true)
  | 12 => ("Sleepers$Program", "names", "[J", true)
  | _ => ("Sleepers$Program", "cellNames", "[J", true)
def tyX5 : Nat → FieldType := fun k => match k with
  | 0 => .int
  | 1 => .array .int
  | 2 => .array .int
  | 3 => .array .int
  | 4 => .object "Sleepers$Scopes"
  | 5 => .int
  | 6 => .array .int
  | 7 => .array .int
  | 8 => .array .int
  | 9 => .array .int
  | 10 => .array .int
  | 11 => .array .int
  | 12 => .array .long
  | _ => .array .long
abbrev wsX50 : List Cond := u_ws RX5 TX5 14
theorem nmX5 : ∀ a, a < 14 → ∀ b, b < 14 → a ≠ b → (TX5 a).2.1 ≠ (TX5 b).2.1 := by decide +kernel
theorem tyX5_ok : ∀ k, k < 14 → parseFieldDescriptor (TX5 k).2.2.1 = some (tyX5 k) := by decide +kernel
abbrev cX5_init : ByteArray := prog_7_method_1_code
def yX5_init : MethodName := ⟨RX5, "<init>", "()V"⟩
abbrev cX5_clear : ByteArray := prog_7_method_2_code
def yX5_clear : MethodName := ⟨RX5, "clear", "()V"⟩
abbrev cX5_has : ByteArray := prog_7_method_3_code
def yX5_has : MethodName := ⟨RX5, "has", "(I)Z"⟩
abbrev cX5_hasState : ByteArray := prog_7_method_4_code
def yX5_hasState : MethodName := ⟨RX5, "hasState", "(II)Z"⟩
abbrev cX5_scopeAt : ByteArray := prog_7_method_5_code
def yX5_scopeAt : MethodName := ⟨RX5, "scopeAt", "(I)I"⟩
abbrev cX5_isStep : ByteArray := prog_7_method_6_code
def yX5_isStep : MethodName := ⟨RX5, "isStep", "(I)Z"⟩
abbrev cX5_emit : ByteArray := prog_7_method_7_code
def yX5_emit : MethodName := ⟨RX5, "emit", "(III)I"⟩
abbrev cX5_openRoutine : ByteArray := prog_7_method_8_code
def yX5_openRoutine : MethodName := ⟨RX5, "openRoutine", "(J)V"⟩
abbrev cX5_closeRoutine : ByteArray := prog_7_method_9_code
def yX5_closeRoutine : MethodName := ⟨RX5, "closeRoutine", "()V"⟩
abbrev cX5_routineNamed : ByteArray := prog_7_method_10_code
def yX5_routineNamed : MethodName := ⟨RX5, "routineNamed", "(J)I"⟩
abbrev cX5_cellNamed : ByteArray := prog_7_method_11_code
def yX5_cellNamed : MethodName := ⟨RX5, "cellNamed", "(IJ)I"⟩
abbrev cX5_cellOf : ByteArray := prog_7_method_12_code
def yX5_cellOf : MethodName := ⟨RX5, "cellOf", "(J)I"⟩
abbrev cX5_newWait : ByteArray := prog_7_method_13_code
def yX5_newWait : MethodName := ⟨RX5, "newWait", "()I"⟩
abbrev cX5_setStand : ByteArray := prog_7_method_14_code
def yX5_setStand : MethodName := ⟨RX5, "setStand", "(II)V"⟩
def RX6 : String := "Sleepers$Runner"
def TX6 : u_T := fun k => match k with
  | 0 => ("Sleepers$Runner", "allSteps", "I", false)
  | 1 => ("Sleepers$Runner", "turnSteps", "I", false)
  | 2 => ("Sleepers$Runner", "puts", "LSleepers$Book;", true)
  | 3 => ("Sleepers$Runner", "hall", "LSleepers$Hall;", true)
  | 4 => ("Sleepers$Runner", "numbers", "[I", true)
  | 5 => ("Sleepers$Runner", "numberCount", "I", false)
  | 6 => ("Sleepers$Runner", "course", "I", false)
  | _ => ("Sleepers$Runner", "failure", "I", false)
def tyX6 : Nat → FieldType := fun k => match k with
  | 0 => .int
  | 1 => .int
  | 2 => .object "Sleepers$Book"
  | 3 => .object "Sleepers$Hall"
  | 4 => .array .int
  | 5 => .int
  | 6 => .int
  | _ => .int
abbrev wsX60 : List Cond := u_ws RX6 TX6 8
theorem nmX6 : ∀ a, a < 8 → ∀ b, b < 8 → a ≠ b → (TX6 a).2.1 ≠ (TX6 b).2.1 := by decide +kernel
theorem tyX6_ok : ∀ k, k < 8 → parseFieldDescriptor (TX6 k).2.2.1 = some (tyX6 k) := by decide +kernel
abbrev cX6_init : ByteArray := prog_8_method_1_code
def yX6_init : MethodName := ⟨RX6, "<init>", "(LSleepers$Hall;)V"⟩
abbrev cX6_takeTurn : ByteArray := prog_8_method_2_code
def yX6_takeTurn : MethodName := ⟨RX6, "takeTurn", "(I)I"⟩
abbrev cX6_wake : ByteArray := prog_8_method_3_code
def yX6_wake : MethodName := ⟨RX6, "wake", "(LSleepers$Task;)V"⟩
abbrev cX6_act : ByteArray := prog_8_method_4_code
def yX6_act : MethodName := ⟨RX6, "act", "(LSleepers$Task;)V"⟩
abbrev cX6_step : ByteArray := prog_8_method_5_code
def yX6_step : MethodName := ⟨RX6, "step", "()Z"⟩
abbrev cX6_push : ByteArray := prog_8_method_6_code
def yX6_push : MethodName := ⟨RX6, "push", "(I)V"⟩
abbrev cX6_pop : ByteArray := prog_8_method_7_code
def yX6_pop : MethodName := ⟨RX6, "pop", "()I"⟩
abbrev cX6_reckon : ByteArray := prog_8_method_8_code
def yX6_reckon : MethodName := ⟨RX6, "reckon", "(LSleepers$Task;II)V"⟩
abbrev cX6_join : ByteArray := prog_8_method_9_code
def yX6_join : MethodName := ⟨RX6, "join", "(LSleepers$Task;II)V"⟩
abbrev cX6_flow : ByteArray := prog_8_method_10_code
def yX6_flow : MethodName := ⟨RX6, "flow", "(LSleepers$Task;II)V"⟩
abbrev cX6_finishEnd : ByteArray := prog_8_method_11_code
def yX6_finishEnd : MethodName := ⟨RX6, "finishEnd", "(LSleepers$Task;I)V"⟩
abbrev cX6_fail : ByteArray := prog_8_method_12_code
def yX6_fail : MethodName := ⟨RX6, "fail", "(LSleepers$Task;II)V"⟩
abbrev cX6_leave : ByteArray := prog_8_method_13_code
def yX6_leave : MethodName := ⟨RX6, "leave", "(LSleepers$Task;III)V"⟩
abbrev cX6_end : ByteArray := prog_8_method_14_code
def yX6_end : MethodName := ⟨RX6, "end", "(LSleepers$Task;II)V"⟩
abbrev cX6_attend : ByteArray := prog_8_method_15_code
def yX6_attend : MethodName := ⟨RX6, "attend", "(LSleepers$Task;II)V"⟩
abbrev cX6_beginLetter : ByteArray := prog_8_method_16_code
def yX6_beginLetter : MethodName := ⟨RX6, "beginLetter", "(LSleepers$Task;I)V"⟩
abbrev cX6_beginTick : ByteArray := prog_8_method_17_code
def yX6_beginTick : MethodName := ⟨RX6, "beginTick", "(LSleepers$Task;I)V"⟩
abbrev cX6_beginChild : ByteArray := prog_8_method_18_code
def yX6_beginChild : MethodName := ⟨RX6, "beginChild", "(LSleepers$Task;II)V"⟩
abbrev cX6_come : ByteArray := prog_8_method_19_code
def yX6_come : MethodName := ⟨RX6, "come", "(LSleepers$Part;I)V"⟩
abbrev cX6_tellAbout : ByteArray := prog_8_method_20_code
def yX6_tellAbout : MethodName := ⟨RX6, "tellAbout", "(LSleepers$Part;)V"⟩
abbrev cX6_closePart : ByteArray := prog_8_method_21_code
def yX6_closePart : MethodName := ⟨RX6, "closePart", "(LSleepers$Task;)V"⟩
def RX7 : String := "Sleepers$Scopes"
def TX7 : u_T := fun k => match k with
  | 0 => ("Sleepers$Scopes", "tries", "I", false)
  | 1 => ("Sleepers$Scopes", "outer", "[I", true)
  | 2 => ("Sleepers$Scopes", "deep", "[I", true)
  | 3 => ("Sleepers$Scopes", "loopAbout", "[I", true)
  | 4 => ("Sleepers$Scopes", "onAt", "[I", true)
  | 5 => ("Sleepers$Scopes", "finishAt", "[I", true)
  | 6 => ("Sleepers$Scopes", "behindTry", "[I", true)
  | 7 => ("Sleepers$Scopes", "marks", "[I", true)
  | 8 => ("Sleepers$Scopes", "loops", "I", false)
  | 9 => ("Sleepers$Scopes", "loopScope", "[I", true)
  | 10 => ("Sleepers$Scopes", "loopAt", "[I", true)
  | _ => ("Sleepers$Scopes", "behindLoop", "[I", true)
def tyX7 : Nat → FieldType := fun k => match k with
  | 0 => .int
  | 1 => .array .int
  | 2 => .array .int
  | 3 => .array .int
  | 4 => .array .int
  | 5 => .array .int
  | 6 => .array .int
  | 7 => .array .int
  | 8 => .int
  | 9 => .array .int
  | 10 => .array .int
  | _ => .array .int
abbrev wsX70 : List Cond := u_ws RX7 TX7 12
theorem nmX7 : ∀ a, a < 12 → ∀ b, b < 12 → a ≠ b → (TX7 a).2.1 ≠ (TX7 b).2.1 := by decide +kernel
theorem tyX7_ok : ∀ k, k < 12 → parseFieldDescriptor (TX7 k).2.2.1 = some (tyX7 k) := by decide +kernel
abbrev cX7_init : ByteArray := prog_9_method_1_code
def yX7_init : MethodName := ⟨RX7, "<init>", "()V"⟩
abbrev cX7_clear : ByteArray := prog_9_method_2_code
def yX7_clear : MethodName := ⟨RX7, "clear", "()V"⟩
abbrev cX7_newTry : ByteArray := prog_9_method_3_code
def yX7_newTry : MethodName := ⟨RX7, "newTry", "(II)I"⟩
abbrev cX7_newLoop : ByteArray := prog_9_method_4_code
def yX7_newLoop : MethodName := ⟨RX7, "newLoop", "(II)I"⟩
abbrev cX7_mark : ByteArray := prog_9_method_5_code
def yX7_mark : MethodName := ⟨RX7, "mark", "(II)V"⟩
abbrev cX7_markOutward : ByteArray := prog_9_method_6_code
def yX7_markOutward : MethodName := ⟨RX7, "markOutward", "(III)V"⟩
abbrev cX7_is : ByteArray := prog_9_method_7_code
def yX7_is : MethodName := ⟨RX7, "is", "(II)Z"⟩
abbrev cX7_failureTo : ByteArray := prog_9_method_8_code
def yX7_failureTo : MethodName := ⟨RX7, "failureTo", "(II)I"⟩
abbrev cX7_cancelTo : ByteArray := prog_9_method_9_code
def yX7_cancelTo : MethodName := ⟨RX7, "cancelTo", "(II)I"⟩
abbrev cX7_leaveTo : ByteArray := prog_9_method_10_code
def yX7_leaveTo : MethodName := ⟨RX7, "leaveTo", "(III)I"⟩
abbrev cX7_breakTo : ByteArray := prog_9_method_11_code
def yX7_breakTo : MethodName := ⟨RX7, "breakTo", "(II)I"⟩
abbrev cX7_continueTo : ByteArray := prog_9_method_12_code
def yX7_continueTo : MethodName := ⟨RX7, "continueTo", "(II)I"⟩
def RX8 : String := "Sleepers$Tables"
def TX8 : u_T := fun k => match k with
  | 0 => ("Sleepers$Tables", "seen", "[I", true)
  | 1 => ("Sleepers$Tables", "open", "[I", true)
  | 2 => ("Sleepers$Tables", "openCount", "I", false)
  | 3 => ("Sleepers$Tables", "walk", "I", false)
  | _ => ("Sleepers$Tables", "program", "LSleepers$Program;", false)
def tyX8 : Nat → FieldType := fun k => match k with
  | 0 => .array .int
  | 1 => .array .int
  | 2 => .int
  | 3 => .int
  | _ => .object "Sleepers$Program"
abbrev wsX80 : List Cond := u_ws RX8 TX8 5
theorem nmX8 : ∀ a, a < 5 → ∀ b, b < 5 → a ≠ b → (TX8 a).2.1 ≠ (TX8 b).2.1 := by decide +kernel
theorem tyX8_ok : ∀ k, k < 5 → parseFieldDescriptor (TX8 k).2.2.1 = some (tyX8 k) := by decide +kernel
abbrev cX8_init : ByteArray := prog_10_method_1_code
def yX8_init : MethodName := ⟨RX8, "<init>", "()V"⟩
abbrev cX8_readsFirst : ByteArray := prog_10_method_2_code
def yX8_readsFirst : MethodName := ⟨RX8, "readsFirst", "(LSleepers$Program;III)Z"⟩
abbrev cX8_leadsTo : ByteArray := prog_10_method_3_code
def yX8_leadsTo : MethodName := ⟨RX8, "leadsTo", "(LSleepers$Program;III)Z"⟩
abbrev cX8_set : ByteArray := prog_10_method_4_code
def yX8_set : MethodName := ⟨RX8, "set", "(LSleepers$Program;II)V"⟩
abbrev cX8_reach : ByteArray := prog_10_method_5_code
def yX8_reach : MethodName := ⟨RX8, "reach", "(I)V"⟩
abbrev cX8_follow : ByteArray := prog_10_method_6_code
def yX8_follow : MethodName := ⟨RX8, "follow", "(II)V"⟩
abbrev cX8_followFinish : ByteArray := prog_10_method_7_code
def yX8_followFinish : MethodName := ⟨RX8, "followFinish", "(II)V"⟩
def RX9 : String := "Sleepers$Task"
def TX9 : u_T := fun k => match k with
  | 0 => ("Sleepers$Task", "number", "I", true)
  | 1 => ("Sleepers$Task", "routine", "I", false)
  | 2 => ("Sleepers$Task", "parent", "LSleepers$Task;", false)
  | 3 => ("Sleepers$Task", "asPart", "LSleepers$Part;", false)
  | 4 => ("Sleepers$Task", "state", "I", false)
  | 5 => ("Sleepers$Task", "how", "I", false)
  | 6 => ("Sleepers$Task", "result", "I", false)
  | 7 => ("Sleepers$Task", "at", "I", false)
  | 8 => ("Sleepers$Task", "turns", "I", false)
  | 9 => ("Sleepers$Task", "cancelled", "Z", false)
  | 10 => ("Sleepers$Task", "pc", "I", false)
  | 11 => ("Sleepers$Task", "cells", "[I", true)
  | 12 => ("Sleepers$Task", "leftBy", "[I", true)
  | 13 => ("Sleepers$Task", "leftWith", "[I", true)
  | 14 => ("Sleepers$Task", "latest", "LSleepers$Part;", false)
  | 15 => ("Sleepers$Task", "root", "LSleepers$Part;", false)
  | 16 => ("Sleepers$Task", "about", "LSleepers$Part;", false)
  | 17 => ("Sleepers$Task", "children", "I", false)
  | 18 => ("Sleepers$Task", "outcome", "I", false)
  | _ => ("Sleepers$Task", "value", "I", false)
def tyX9 : Nat → FieldType := fun k => match k with
  | 0 => .int
  | 1 => .int
  | 2 => .object "Sleepers$Task"
  | 3 => .object "Sleepers$Part"
  | 4 => .int
  | 5 => .int
  | 6 => .int
  | 7 => .int
  | 8 => .int
  | 9 => .boolean
  | 10 => .int
  | 11 => .array .int
  | 12 => .array .int
  | 13 => .array .int
  | 14 => .object "Sleepers$Part"
  | 15 => .object "Sleepers$Part"
  | 16 => .object "Sleepers$Part"
  | 17 => .int
  | 18 => .int
  | _ => .int
abbrev wsX90 : List Cond := u_ws RX9 TX9 20
theorem nmX9 : ∀ a, a < 20 → ∀ b, b < 20 → a ≠ b → (TX9 a).2.1 ≠ (TX9 b).2.1 := by decide +kernel
theorem tyX9_ok : ∀ k, k < 20 → parseFieldDescriptor (TX9 k).2.2.1 = some (tyX9 k) := by decide +kernel
abbrev cX9_init : ByteArray := prog_11_method_1_code
def yX9_init : MethodName := ⟨RX9, "<init>", "(I)V"⟩
abbrev cX9_look : ByteArray := prog_11_method_2_code
def yX9_look : MethodName := ⟨RX9, "look", "(I)I"⟩
abbrev cX9_set : ByteArray := prog_11_method_3_code
def yX9_set : MethodName := ⟨RX9, "set", "(II)V"⟩
abbrev cX9_tell : ByteArray := prog_11_method_4_code
def yX9_tell : MethodName := ⟨RX9, "tell", "(I)I"⟩
def RX10 : String := "Sleepers$Tokens"
def TX10 : u_T := fun k => match k with
  | 0 => ("Sleepers$Tokens", "kind", "[I", true)
  | 1 => ("Sleepers$Tokens", "place", "[I", true)
  | 2 => ("Sleepers$Tokens", "value", "[J", true)
  | 3 => ("Sleepers$Tokens", "count", "I", false)
  | 4 => ("Sleepers$Tokens", "signs", "I", false)
  | 5 => ("Sleepers$Tokens", "tape", "[C", true)
  | _ => ("Sleepers$Tokens", "reserved", "[J", true)
def tyX10 : Nat → FieldType := fun k => match k with
  | 0 => .array .int
  | 1 => .array .int
  | 2 => .array .long
  | 3 => .int
  | 4 => .int
  | 5 => .array .char
  | _ => .array .long
abbrev wsX100 : List Cond := u_ws RX10 TX10 7
theorem nmX10 : ∀ a, a < 7 → ∀ b, b < 7 → a ≠ b → (TX10 a).2.1 ≠ (TX10 b).2.1 := by decide +kernel
theorem tyX10_ok : ∀ k, k < 7 → parseFieldDescriptor (TX10 k).2.2.1 = some (tyX10 k) := by decide +kernel
abbrev cX10_init : ByteArray := prog_12_method_1_code
def yX10_init : MethodName := ⟨RX10, "<init>", "()V"⟩
abbrev cX10_add : ByteArray := prog_12_method_2_code
def yX10_add : MethodName := ⟨RX10, "add", "(J)V"⟩
abbrev cX10_read : ByteArray := prog_12_method_3_code
def yX10_read : MethodName := ⟨RX10, "read", "()V"⟩
abbrev cX10_onlyWord : ByteArray := prog_12_method_4_code
def yX10_onlyWord : MethodName := ⟨RX10, "onlyWord", "()J"⟩
abbrev cX10_readWord : ByteArray := prog_12_method_5_code
def yX10_readWord : MethodName := ⟨RX10, "readWord", "(I)I"⟩
abbrev cX10_readNumber : ByteArray := prog_12_method_6_code
def yX10_readNumber : MethodName := ⟨RX10, "readNumber", "(I)I"⟩
abbrev cX10_kindOf : ByteArray := prog_12_method_7_code
def yX10_kindOf : MethodName := ⟨RX10, "kindOf", "(J)I"⟩
abbrev cX10_keep : ByteArray := prog_12_method_8_code
def yX10_keep : MethodName := ⟨RX10, "keep", "(IIJ)V"⟩
abbrev cX10_longer : ByteArray := prog_12_method_9_code
def yX10_longer : MethodName := ⟨RX10, "longer", "(JC)J"⟩
abbrev cX10_isLetter : ByteArray := prog_12_method_10_code
def yX10_isLetter : MethodName := ⟨RX10, "isLetter", "(C)Z"⟩
abbrev cX10_isDigit : ByteArray := prog_12_method_11_code
def yX10_isDigit : MethodName := ⟨RX10, "isDigit", "(C)Z"⟩
def RX11 : String := "Sleepers"
def TX11 : u_T := fun k => match k with
  | 0 => ("Sleepers", "tokens", "LSleepers$Tokens;", true)
  | 1 => ("Sleepers", "parser", "LSleepers$Parser;", true)
  | 2 => ("Sleepers", "tables", "LSleepers$Tables;", true)
  | 3 => ("Sleepers", "hall", "LSleepers$Hall;", true)
  | 4 => ("Sleepers", "runner", "LSleepers$Runner;", true)
  | 5 => ("Sleepers", "told", "LSleepers$Program;", false)
  | _ => ("Sleepers", "spare", "LSleepers$Program;", false)
def tyX11 : Nat → FieldType := fun k => match k with
  | 0 => .object "Sleepers$Tokens"
  | 1 => .object "Sleepers$Parser"
  | 2 => .object "Sleepers$Tables"
  | 3 => .object "Sleepers$Hall"
  | 4 => .object "Sleepers$Runner"
  | 5 => .object "Sleepers$Program"
  | _ => .object "Sleepers$Program"
abbrev wsX110 : List Cond := u_ws RX11 TX11 7
theorem nmX11 : ∀ a, a < 7 → ∀ b, b < 7 → a ≠ b → (TX11 a).2.1 ≠ (TX11 b).2.1 := by decide +kernel
theorem tyX11_ok : ∀ k, k < 7 → parseFieldDescriptor (TX11 k).2.2.1 = some (tyX11 k) := by decide +kernel
abbrev cX11_init : ByteArray := prog_1_method_1_code
def yX11_init : MethodName := ⟨RX11, "<init>", "()V"⟩
abbrev cX11_feed : ByteArray := prog_1_method_2_code
def yX11_feed : MethodName := ⟨RX11, "feed", "(JJJ)I"⟩
abbrev cX11_program : ByteArray := prog_1_method_3_code
def yX11_program : MethodName := ⟨RX11, "program", "()I"⟩
abbrev cX11_named : ByteArray := prog_1_method_4_code
def yX11_named : MethodName := ⟨RX11, "named", "(I)I"⟩
abbrev cX11_routine : ByteArray := prog_1_method_5_code
def yX11_routine : MethodName := ⟨RX11, "routine", "(II)I"⟩
abbrev cX11_live : ByteArray := prog_1_method_6_code
def yX11_live : MethodName := ⟨RX11, "live", "(III)I"⟩
abbrev cX11_next : ByteArray := prog_1_method_7_code
def yX11_next : MethodName := ⟨RX11, "next", "(III)I"⟩
abbrev cX11_begin : ByteArray := prog_1_method_8_code
def yX11_begin : MethodName := ⟨RX11, "begin", "(IIIII)I"⟩
abbrev cX11_turn : ByteArray := prog_1_method_9_code
def yX11_turn : MethodName := ⟨RX11, "turn", "(I)I"⟩
abbrev cX11_rounds : ByteArray := prog_1_method_10_code
def yX11_rounds : MethodName := ⟨RX11, "rounds", "(I)I"⟩
abbrev cX11_letter : ByteArray := prog_1_method_11_code
def yX11_letter : MethodName := ⟨RX11, "letter", "(II)I"⟩
abbrev cX11_tick : ByteArray := prog_1_method_12_code
def yX11_tick : MethodName := ⟨RX11, "tick", "(I)I"⟩
abbrev cX11_cancel : ByteArray := prog_1_method_13_code
def yX11_cancel : MethodName := ⟨RX11, "cancel", "(I)Z"⟩
abbrev cX11_task : ByteArray := prog_1_method_14_code
def yX11_task : MethodName := ⟨RX11, "task", "(II)I"⟩
abbrev cX11_cell : ByteArray := prog_1_method_15_code
def yX11_cell : MethodName := ⟨RX11, "cell", "(II)I"⟩
abbrev cX11_row : ByteArray := prog_1_method_16_code
def yX11_row : MethodName := ⟨RX11, "row", "(I)I"⟩
abbrev cX11_put : ByteArray := prog_1_method_17_code
def yX11_put : MethodName := ⟨RX11, "put", "(II)I"⟩
abbrev cX11_lost : ByteArray := prog_1_method_18_code
def yX11_lost : MethodName := ⟨RX11, "lost", "(II)I"⟩
abbrev cX11_box : ByteArray := prog_1_method_19_code
def yX11_box : MethodName := ⟨RX11, "box", "(II)I"⟩
abbrev cX11_stands : ByteArray := prog_1_method_20_code
def yX11_stands : MethodName := ⟨RX11, "stands", "(II)I"⟩
abbrev cX11_count : ByteArray := prog_1_method_21_code
def yX11_count : MethodName := ⟨RX11, "count", "(I)I"⟩
def RX12 : String := "SleepersModel"
def TX12 : u_T := fun k => match k with
  | 0 => ("SleepersModel", "thrown", "I", false)
  | 1 => ("SleepersModel", "tape", "[I", true)
  | 2 => ("SleepersModel", "taped", "I", false)
  | 3 => ("SleepersModel", "size", "I", false)
  | 4 => ("SleepersModel", "sort", "[I", true)
  | 5 => ("SleepersModel", "place", "[I", true)
  | 6 => ("SleepersModel", "word", "[J", true)
  | 7 => ("SleepersModel", "at", "I", false)
  | 8 => ("SleepersModel", "fault", "I", false)
  | 9 => ("SleepersModel", "keys", "Ljava/lang/String;", true)
  | 10 => ("SleepersModel", "words", "[J", true)
  | 11 => ("SleepersModel", "now", "I", false)
  | 12 => ("SleepersModel", "next", "I", false)
  | 13 => ("SleepersModel", "routines", "[I", true)
  | 14 => ("SleepersModel", "routineName", "[J", true)
  | 15 => ("SleepersModel", "givens", "[I", true)
  | 16 => ("SleepersModel", "cells", "[I", true)
  | 17 => ("SleepersModel", "cellName", "[J", true)
  | 18 => ("SleepersModel", "waits", "[I", true)
  | 19 => ("SleepersModel", "codeAt", "[I", true)
  | 20 => ("SleepersModel", "op", "[I", true)
  | 21 => ("SleepersModel", "one", "[I", true)
  | 22 => ("SleepersModel", "two", "[I", true)
  | 23 => ("SleepersModel", "codes", "I", false)
  | 24 => ("SleepersModel", "does", "[I", true)
  | 25 => ("SleepersModel", "toWhat", "[I", true)
  | 26 => ("SleepersModel", "wayA", "[I", true)
  | 27 => ("SleepersModel", "wayB", "[I", true)
  | 28 => ("SleepersModel", "inTry", "[I", true)
  | 29 => ("SleepersModel", "inPart", "[I", true)
  | 30 => ("SleepersModel", "inWhile", "[I", true)
  | 31 => ("SleepersModel", "acts", "I", false)
  | 32 => ("SleepersModel", "actAt", "[I", true)
  | 33 => ("SleepersModel", "endAct", "[I", true)
  | 34 => ("SleepersModel", "waitAct", "[I", true)
  | 35 => ("SleepersModel", "tries", "I", false)
  | 36 => ("SleepersModel", "tryTry", "[I", true)
  | 37 => ("SleepersModel", "tryPart", "[I", true)
  | 38 => ("SleepersModel", "tryWhile", "[I", true)
  | 39 => ("SleepersModel", "hasOn", "[Z", true)
  | 40 => ("SleepersModel", "hasFinish", "[Z", true)
  | 41 => ("SleepersModel", "onCode", "[I", true)
  | 42 => ("SleepersModel", "onCell", "[I", true)
  | 43 => ("SleepersModel", "finishCode", "[I", true)
  | 44 => ("SleepersModel", "behindCode", "[I", true)
  | 45 => ("SleepersModel", "onAct", "[I", true)
  | 46 => ("SleepersModel", "finishAct", "[I", true)
  | 47 => ("SleepersModel", "behindAct", "[I", true)
  | 48 => ("SleepersModel", "breaks", "[Z", true)
  | 49 => ("SleepersModel", "continues", "[Z", true)
  | 50 => ("SleepersModel", "returns", "[Z", true)
  | 51 => ("SleepersModel", "whiles", "I", false)
  | 52 => ("SleepersModel", "whileTry", "[I", true)
  | 53 => ("SleepersModel", "whileDeep", "[I", true)
  | 54 => ("SleepersModel", "whileCode", "[I", true)
  | 55 => ("SleepersModel", "whileOut", "[I", true)
  | 56 => ("SleepersModel", "whileAct", "[I", true)
  | 57 => ("SleepersModel", "whileEnd", "[I", true)
  | 58 => ("SleepersModel", "lateAt", "[I", true)
  | 59 => ("SleepersModel", "lateMany", "[I", true)
  | 60 => ("SleepersModel", "lateCode", "[I", true)
  | 61 => ("SleepersModel", "lates", "I", false)
  | 62 => ("SleepersModel", "of", "I", false)
  | 63 => ("SleepersModel", "placeTry", "I", false)
  | 64 => ("SleepersModel", "placePart", "I", false)
  | 65 => ("SleepersModel", "placeWhile", "I", false)
  | 66 => ("SleepersModel", "placeDeep", "I", false)
  | 67 => ("SleepersModel", "inFinish", "Z", false)
  | 68 => ("SleepersModel", "deep", "I", false)
  | 69 => ("SleepersModel", "last", "I", false)
  | 70 => ("SleepersModel", "mayReturn", "Z", false)
  | 71 => ("SleepersModel", "seen", "[Z", true)
  | 72 => ("SleepersModel", "open", "[I", true)
  | 73 => ("SleepersModel", "opens", "I", false)
  | 74 => ("SleepersModel", "tasks", "I", false)
  | 75 => ("SleepersModel", "routineOf", "[I", true)
  | 76 => ("SleepersModel", "parentOf", "[I", true)
  | 77 => ("SleepersModel", "nodeOf", "[I", true)
  | 78 => ("SleepersModel", "stateOf", "[I", true)
  | 79 => ("SleepersModel", "endKind", "[I", true)
  | 80 => ("SleepersModel", "returned", "[I", true)
  | 81 => ("SleepersModel", "pcOf", "[I", true)
  | 82 => ("SleepersModel", "cell", "[I", true)
  | 83 => ("SleepersModel", "waitOf", "[I", true)
  | 84 => ("SleepersModel", "turnsOf", "[I", true)
  | 85 => ("SleepersModel", "isCancelled", "[Z", true)
  | 86 => ("SleepersModel", "cameHow", "[I", true)
  | 87 => ("SleepersModel", "came", "[I", true)
  | 88 => ("SleepersModel", "cameCell", "[I", true)
  | 89 => ("SleepersModel", "rootOf", "[I", true)
  | 90 => ("SleepersModel", "rootEnd", "[I", true)
  | 91 => ("SleepersModel", "childrenOf", "[I", true)
  | 92 => ("SleepersModel", "frames", "[I", true)
  | 93 => ("SleepersModel", "frameTry", "[I", true)
  | 94 => ("SleepersModel", "framePart", "[I", true)
  | 95 => ("SleepersModel", "frameLeft", "[I", true)
  | 96 => ("SleepersModel", "frameWith", "[I", true)
  | 97 => ("SleepersModel", "rowOf", "[I", true)
  | 98 => ("SleepersModel", "rowMany", "I", false)
  | 99 => ("SleepersModel", "clock", "I", false)
  | 100 => ("SleepersModel", "steps", "I", false)
  | 101 => ("SleepersModel", "latest", "I", false)
  | 102 => ("SleepersModel", "puts", "I", false)
  | 103 => ("SleepersModel", "putTask", "[I", true)
  | 104 => ("SleepersModel", "putValue", "[I", true)
  | 105 => ("SleepersModel", "losts", "I", false)
  | 106 => ("SleepersModel", "lostTask", "[I", true)
  | 107 => ("SleepersModel", "lostValue", "[I", true)
  | 108 => ("SleepersModel", "letters", "[I", true)
  | 109 => ("SleepersModel", "letterOf", "[I", true)
  | 110 => ("SleepersModel", "nodes", "I", false)
  | 111 => ("SleepersModel", "nodeSort", "[I", true)
  | 112 => ("SleepersModel", "nodeUp", "[I", true)
  | 113 => ("SleepersModel", "nodeEnd", "[I", true)
  | 114 => ("SleepersModel", "nodeState", "[I", true)
  | 115 => ("SleepersModel", "nodeValue", "[I", true)
  | 116 => ("SleepersModel", "nodeTask", "[I", true)
  | 117 => ("SleepersModel", "nodeDate", "[J", true)
  | 118 => ("SleepersModel", "standing", "[I", true)
  | 119 => ("SleepersModel", "standings", "I", false)
  | 120 => ("SleepersModel", "pile", "[I", true)
  | 121 => ("SleepersModel", "top", "I", false)
  | 122 => ("SleepersModel", "pc", "I", false)
  | 123 => ("SleepersModel", "t", "I", false)
  | 124 => ("SleepersModel", "isBeginning", "Z", false)
  | 125 => ("SleepersModel", "root", "I", false)
  | 126 => ("SleepersModel", "up", "I", false)
  | _ => ("SleepersModel", "behindWait", "I", false)
def tyX12 : Nat → FieldType := fun k => match k with
  | 0 => .int
  | 1 => .array .int
  | 2 => .int
  | 3 => .int
  | 4 => .array .int
  | 5 => .array .int
  | 6 => .array .long
  | 7 => .int
  | 8 => .int
  | 9 => .object "java/lang/String"
  | 10 => .array .long
  | 11 => .int
  | 12 => .int
  | 13 => .array .int
  | 14 => .array .long
  | 15 => .array .int
  | 16 => .array .int
  | 17 => .array .long
  | 18 => .array .int
  | 19 => .array .int
  | 20 => .array .int
  | 21 => .array .int
  | 22 => .array .int
  | 23 => .int
  | 24 => .array .int
  | 25 => .array .int
  | 26 => .array .int
  | 27 => .array .int
  | 28 => .array .int
  | 29 => .array .int
  | 30 => .array .int
  | 31 => .int
  | 32 => .array .int
  | 33 => .array .int
  | 34 => .array .int
  | 35 => .int
  | 36 => .array .int
  | 37 => .array .int
  | 38 => .array .int
  | 39 => .array .boolean
  | 40 => .array .boolean
  | 41 => .array .int
  | 42 => .array .int
  | 43 => .array .int
  | 44 => .array .int
  | 45 => .array .int
  | 46 => .array .int
  | 47 => .array .int
  | 48 => .array .boolean
  | 49 => .array .boolean
  | 50 => .array .boolean
  | 51 => .int
  | 52 => .array .int
  | 53 => .array .int
  | 54 => .array .int
  | 55 => .array .int
  | 56 => .array .int
  | 57 => .array .int
  | 58 => .array .int
  | 59 => .array .int
  | 60 => .array .int
  | 61 => .int
  | 62 => .int
  | 63 => .int
  | 64 => .int
  | 65 => .int
  | 66 => .int
  | 67 => .boolean
  | 68 => .int
  | 69 => .int
  | 70 => .boolean
  | 71 => .array .boolean
  | 72 => .array .int
  | 73 => .int
  | 74 => .int
  | 75 => .array .int
  | 76 => .array .int
  | 77 => .array .int
  | 78 => .array .int
  | 79 => .array .int
  | 80 => .array .int
  | 81 => .array .int
  | 82 => .array .int
  | 83 => .array .int
  | 84 => .array .int
  | 85 => .array .boolean
  | 86 => .array .int
  | 87 => .array .int
  | 88 => .array .int
  | 89 => .array .int
  | 90 => .array .int
  | 91 => .array .int
  | 92 => .array .int
  | 93 => .array .int
  | 94 => .array .int
  | 95 => .array .int
  | 96 => .array .int
  | 97 => .array .int
  | 98 => .int
  | 99 => .int
  | 100 => .int
  | 101 => .int
  | 102 => .int
  | 103 => .array .int
  | 104 => .array .int
  | 105 => .int
  | 106 => .array .int
  | 107 => .array .int
  | 108 => .array .int
  | 109 => .array .int
  | 110 => .int
  | 111 => .array .int
  | 112 => .array .int
  | 113 => .array .int
  | 114 => .array .int
  | 115 => .array .int
  | 116 => .array .int
  | 117 => .array .long
  | 118 => .array .int
  | 119 => .int
  | 120 => .array .int
  | 121 => .int
  | 122 => .int
  | 123 => .int
  | 124 => .boolean
  | 125 => .int
  | 126 => .int
  | _ => .int
abbrev wsX120 : List Cond := u_ws RX12 TX12 128
theorem nmX12 : ∀ a, a < 128 → ∀ b, b < 128 → a ≠ b → (TX12 a).2.1 ≠ (TX12 b).2.1 := by decide +kernel
theorem tyX12_ok : ∀ k, k < 128 → parseFieldDescriptor (TX12 k).2.2.1 = some (tyX12 k) := by decide +kernel
abbrev cX12_thrown : ByteArray := prog_14_method_1_code
def yX12_thrown : MethodName := ⟨RX12, "thrown", "()I"⟩
abbrev cX12_feed : ByteArray := prog_14_method_2_code
def yX12_feed : MethodName := ⟨RX12, "feed", "(JJJ)I"⟩
abbrev cX12_lay : ByteArray := prog_14_method_3_code
def yX12_lay : MethodName := ⟨RX12, "lay", "(J)V"⟩
abbrev cX12_init : ByteArray := prog_14_method_4_code
def yX12_init : MethodName := ⟨RX12, "<init>", "()V"⟩
abbrev cX12_isLetter : ByteArray := prog_14_method_5_code
def yX12_isLetter : MethodName := ⟨RX12, "isLetter", "(I)Z"⟩
abbrev cX12_isDigit : ByteArray := prog_14_method_6_code
def yX12_isDigit : MethodName := ⟨RX12, "isDigit", "(I)Z"⟩
abbrev cX12_rank : ByteArray := prog_14_method_7_code
def yX12_rank : MethodName := ⟨RX12, "rank", "(I)I"⟩
abbrev cX12_isSignOf : ByteArray := prog_14_method_8_code
def yX12_isSignOf : MethodName := ⟨RX12, "isSignOf", "(I)Z"⟩
abbrev cX12_cutAll : ByteArray := prog_14_method_9_code
def yX12_cutAll : MethodName := ⟨RX12, "cutAll", "()V"⟩
abbrev cX12_wrong : ByteArray := prog_14_method_10_code
def yX12_wrong : MethodName := ⟨RX12, "wrong", "(I)V"⟩
abbrev cX12_isSign : ByteArray := prog_14_method_11_code
def yX12_isSign : MethodName := ⟨RX12, "isSign", "(I)Z"⟩
abbrev cX12_isWord : ByteArray := prog_14_method_12_code
def yX12_isWord : MethodName := ⟨RX12, "isWord", "(I)Z"⟩
abbrev cX12_takeSign : ByteArray := prog_14_method_13_code
def yX12_takeSign : MethodName := ⟨RX12, "takeSign", "(I)V"⟩
abbrev cX12_hasSign : ByteArray := prog_14_method_14_code
def yX12_hasSign : MethodName := ⟨RX12, "hasSign", "(I)Z"⟩
abbrev cX12_hasWord : ByteArray := prog_14_method_15_code
def yX12_hasWord : MethodName := ⟨RX12, "hasWord", "(I)Z"⟩
abbrev cX12_takeWord : ByteArray := prog_14_method_16_code
def yX12_takeWord : MethodName := ⟨RX12, "takeWord", "(I)V"⟩
abbrev cX12_isName : ByteArray := prog_14_method_17_code
def yX12_isName : MethodName := ⟨RX12, "isName", "()Z"⟩
abbrev cX12_takeNumber : ByteArray := prog_14_method_18_code
def yX12_takeNumber : MethodName := ⟨RX12, "takeNumber", "(II)I"⟩
abbrev cX12_find : ByteArray := prog_14_method_19_code
def yX12_find : MethodName := ⟨RX12, "find", "([JIIJ)I"⟩
abbrev cX12_program : ByteArray := prog_14_method_20_code
def yX12_program : MethodName := ⟨RX12, "program", "()I"⟩
abbrev cX12_toldRoutine : ByteArray := prog_14_method_21_code
def yX12_toldRoutine : MethodName := ⟨RX12, "toldRoutine", "()V"⟩
abbrev cX12_givenCell : ByteArray := prog_14_method_22_code
def yX12_givenCell : MethodName := ⟨RX12, "givenCell", "(I)V"⟩
abbrev cX12_takeCell : ByteArray := prog_14_method_23_code
def yX12_takeCell : MethodName := ⟨RX12, "takeCell", "()I"⟩
abbrev cX12_act : ByteArray := prog_14_method_24_code
def yX12_act : MethodName := ⟨RX12, "act", "(II)I"⟩
abbrev cX12_lead : ByteArray := prog_14_method_25_code
def yX12_lead : MethodName := ⟨RX12, "lead", "(I)V"⟩
abbrev cX12_then : ByteArray := prog_14_method_26_code
def yX12_then : MethodName := ⟨RX12, "then", "(II)I"⟩
abbrev cX12_join : ByteArray := prog_14_method_27_code
def yX12_join : MethodName := ⟨RX12, "join", "(I)V"⟩
abbrev cX12_emit : ByteArray := prog_14_method_28_code
def yX12_emit : MethodName := ⟨RX12, "emit", "(III)I"⟩
abbrev cX12_within : ByteArray := prog_14_method_29_code
def yX12_within : MethodName := ⟨RX12, "within", "(Z)V"⟩
abbrev cX12_block : ByteArray := prog_14_method_30_code
def yX12_block : MethodName := ⟨RX12, "block", "()V"⟩
abbrev cX12_statement : ByteArray := prog_14_method_31_code
def yX12_statement : MethodName := ⟨RX12, "statement", "()V"⟩
abbrev cX12_choice : ByteArray := prog_14_method_32_code
def yX12_choice : MethodName := ⟨RX12, "choice", "()V"⟩
abbrev cX12_loop : ByteArray := prog_14_method_33_code
def yX12_loop : MethodName := ⟨RX12, "loop", "()V"⟩
abbrev cX12_trial : ByteArray := prog_14_method_34_code
def yX12_trial : MethodName := ⟨RX12, "trial", "()V"⟩
abbrev cX12_inBlock : ByteArray := prog_14_method_35_code
def yX12_inBlock : MethodName := ⟨RX12, "inBlock", "(II)V"⟩
abbrev cX12_plain : ByteArray := prog_14_method_36_code
def yX12_plain : MethodName := ⟨RX12, "plain", "()V"⟩
abbrev cX12_leaves : ByteArray := prog_14_method_37_code
def yX12_leaves : MethodName := ⟨RX12, "leaves", "(Z)V"⟩
abbrev cX12_marks : ByteArray := prog_14_method_38_code
def yX12_marks : MethodName := ⟨RX12, "marks", "([ZI)V"⟩
abbrev cX12_sets : ByteArray := prog_14_method_39_code
def yX12_sets : MethodName := ⟨RX12, "sets", "()V"⟩
abbrev cX12_wait : ByteArray := prog_14_method_40_code
def yX12_wait : MethodName := ⟨RX12, "wait", "(I)V"⟩
abbrev cX12_isWait : ByteArray := prog_14_method_41_code
def yX12_isWait : MethodName := ⟨RX12, "isWait", "()Z"⟩
abbrev cX12_waitTree : ByteArray := prog_14_method_42_code
def yX12_waitTree : MethodName := ⟨RX12, "waitTree", "()V"⟩
abbrev cX12_child : ByteArray := prog_14_method_43_code
def yX12_child : MethodName := ⟨RX12, "child", "()V"⟩
abbrev cX12_expression : ByteArray := prog_14_method_44_code
def yX12_expression : MethodName := ⟨RX12, "expression", "()V"⟩
abbrev cX12_sum : ByteArray := prog_14_method_45_code
def yX12_sum : MethodName := ⟨RX12, "sum", "()V"⟩
abbrev cX12_product : ByteArray := prog_14_method_46_code
def yX12_product : MethodName := ⟨RX12, "product", "()V"⟩
abbrev cX12_part : ByteArray := prog_14_method_47_code
def yX12_part : MethodName := ⟨RX12, "part", "()V"⟩
abbrev cX12_partWithin : ByteArray := prog_14_method_48_code
def yX12_partWithin : MethodName := ⟨RX12, "partWithin", "()V"⟩
abbrev cX12_failing : ByteArray := prog_14_method_49_code
def yX12_failing : MethodName := ⟨RX12, "failing", "(II)I"⟩
abbrev cX12_finishing : ByteArray := prog_14_method_50_code
def yX12_finishing : MethodName := ⟨RX12, "finishing", "(III)I"⟩
abbrev cX12_go : ByteArray := prog_14_method_51_code
def yX12_go : MethodName := ⟨RX12, "go", "(II)V"⟩
abbrev cX12_goTo : ByteArray := prog_14_method_52_code
def yX12_goTo : MethodName := ⟨RX12, "goTo", "(III)V"⟩
abbrev cX12_goOn : ByteArray := prog_14_method_53_code
def yX12_goOn : MethodName := ⟨RX12, "goOn", "(II)V"⟩
abbrev cX12_goFinished : ByteArray := prog_14_method_54_code
def yX12_goFinished : MethodName := ⟨RX12, "goFinished", "(II)V"⟩
abbrev cX12_from : ByteArray := prog_14_method_55_code
def yX12_from : MethodName := ⟨RX12, "from", "(II)V"⟩
abbrev cX12_isState : ByteArray := prog_14_method_56_code
def yX12_isState : MethodName := ⟨RX12, "isState", "(II)Z"⟩
abbrev cX12_live : ByteArray := prog_14_method_57_code
def yX12_live : MethodName := ⟨RX12, "live", "(III)I"⟩
abbrev cX12_next : ByteArray := prog_14_method_58_code
def yX12_next : MethodName := ⟨RX12, "next", "(III)I"⟩
abbrev cX12_forget : ByteArray := prog_14_method_59_code
def yX12_forget : MethodName := ⟨RX12, "forget", "()V"⟩
abbrev cX12_toRow : ByteArray := prog_14_method_60_code
def yX12_toRow : MethodName := ⟨RX12, "toRow", "(I)V"⟩
abbrev cX12_outOfRow : ByteArray := prog_14_method_61_code
def yX12_outOfRow : MethodName := ⟨RX12, "outOfRow", "(I)V"⟩
abbrev cX12_newTask : ByteArray := prog_14_method_62_code
def yX12_newTask : MethodName := ⟨RX12, "newTask", "(III)I"⟩
abbrev cX12_begin : ByteArray := prog_14_method_63_code
def yX12_begin : MethodName := ⟨RX12, "begin", "(IIIII)I"⟩
abbrev cX12_ends : ByteArray := prog_14_method_64_code
def yX12_ends : MethodName := ⟨RX12, "ends", "(III)V"⟩
abbrev cX12_decides : ByteArray := prog_14_method_65_code
def yX12_decides : MethodName := ⟨RX12, "decides", "(III)V"⟩
abbrev cX12_weighs : ByteArray := prog_14_method_66_code
def yX12_weighs : MethodName := ⟨RX12, "weighs", "(I)V"⟩
abbrev cX12_letGo : ByteArray := prog_14_method_67_code
def yX12_letGo : MethodName := ⟨RX12, "letGo", "(II)V"⟩
abbrev cX12_standsNoMore : ByteArray := prog_14_method_68_code
def yX12_standsNoMore : MethodName := ⟨RX12, "standsNoMore", "(I)V"⟩
abbrev cX12_waitEnds : ByteArray := prog_14_method_69_code
def yX12_waitEnds : MethodName := ⟨RX12, "waitEnds", "(III)V"⟩
abbrev cX12_cancels : ByteArray := prog_14_method_70_code
def yX12_cancels : MethodName := ⟨RX12, "cancels", "(I)Z"⟩
abbrev cX12_cancel : ByteArray := prog_14_method_71_code
def yX12_cancel : MethodName := ⟨RX12, "cancel", "(I)Z"⟩
abbrev cX12_step : ByteArray := prog_14_method_72_code
def yX12_step : MethodName := ⟨RX12, "step", "()Z"⟩
abbrev cX12_runs : ByteArray := prog_14_method_73_code
def yX12_runs : MethodName := ⟨RX12, "runs", "(I)V"⟩
abbrev cX12_push : ByteArray := prog_14_method_74_code
def yX12_push : MethodName := ⟨RX12, "push", "(I)V"⟩
abbrev cX12_pop : ByteArray := prog_14_method_75_code
def yX12_pop : MethodName := ⟨RX12, "pop", "()I"⟩
abbrev cX12_works : ByteArray := prog_14_method_76_code
def yX12_works : MethodName := ⟨RX12, "works", "(III)V"⟩
abbrev cX12_notePut : ByteArray := prog_14_method_77_code
def yX12_notePut : MethodName := ⟨RX12, "notePut", "(I)V"⟩
abbrev cX12_reckons : ByteArray := prog_14_method_78_code
def yX12_reckons : MethodName := ⟨RX12, "reckons", "(II)V"⟩
abbrev cX12_failure : ByteArray := prog_14_method_79_code
def yX12_failure : MethodName := ⟨RX12, "failure", "(I)V"⟩
abbrev cX12_spent : ByteArray := prog_14_method_80_code
def yX12_spent : MethodName := ⟨RX12, "spent", "()V"⟩
abbrev cX12_enter : ByteArray := prog_14_method_81_code
def yX12_enter : MethodName := ⟨RX12, "enter", "(I)V"⟩
abbrev cX12_toFinish : ByteArray := prog_14_method_82_code
def yX12_toFinish : MethodName := ⟨RX12, "toFinish", "(III)V"⟩
abbrev cX12_leavePart : ByteArray := prog_14_method_83_code
def yX12_leavePart : MethodName := ⟨RX12, "leavePart", "(I)V"⟩
abbrev cX12_finished : ByteArray := prog_14_method_84_code
def yX12_finished : MethodName := ⟨RX12, "finished", "(I)V"⟩
abbrev cX12_leave : ByteArray := prog_14_method_85_code
def yX12_leave : MethodName := ⟨RX12, "leave", "(II)V"⟩
abbrev cX12_raise : ByteArray := prog_14_method_86_code
def yX12_raise : MethodName := ⟨RX12, "raise", "(I)V"⟩
abbrev cX12_raiseCancel : ByteArray := prog_14_method_87_code
def yX12_raiseCancel : MethodName := ⟨RX12, "raiseCancel", "()V"⟩
abbrev cX12_newNode : ByteArray := prog_14_method_88_code
def yX12_newNode : MethodName := ⟨RX12, "newNode", "(III)I"⟩
abbrev cX12_tickNode : ByteArray := prog_14_method_89_code
def yX12_tickNode : MethodName := ⟨RX12, "tickNode", "(I)V"⟩
abbrev cX12_worksWait : ByteArray := prog_14_method_90_code
def yX12_worksWait : MethodName := ⟨RX12, "worksWait", "(III)V"⟩
abbrev cX12_letterNode : ByteArray := prog_14_method_91_code
def yX12_letterNode : MethodName := ⟨RX12, "letterNode", "(I)V"⟩
abbrev cX12_childNode : ByteArray := prog_14_method_92_code
def yX12_childNode : MethodName := ⟨RX12, "childNode", "(II)V"⟩
abbrev cX12_shuts : ByteArray := prog_14_method_93_code
def yX12_shuts : MethodName := ⟨RX12, "shuts", "()V"⟩
abbrev cX12_stops : ByteArray := prog_14_method_94_code
def yX12_stops : MethodName := ⟨RX12, "stops", "(I)V"⟩
abbrev cX12_turn : ByteArray := prog_14_method_95_code
def yX12_turn : MethodName := ⟨RX12, "turn", "(I)I"⟩
abbrev cX12_rounds : ByteArray := prog_14_method_96_code
def yX12_rounds : MethodName := ⟨RX12, "rounds", "(I)I"⟩
abbrev cX12_letter : ByteArray := prog_14_method_97_code
def yX12_letter : MethodName := ⟨RX12, "letter", "(II)I"⟩
abbrev cX12_due : ByteArray := prog_14_method_98_code
def yX12_due : MethodName := ⟨RX12, "due", "(J)I"⟩
abbrev cX12_tick : ByteArray := prog_14_method_99_code
def yX12_tick : MethodName := ⟨RX12, "tick", "(I)I"⟩
abbrev cX12_isTask : ByteArray := prog_14_method_100_code
def yX12_isTask : MethodName := ⟨RX12, "isTask", "(I)Z"⟩
abbrev cX12_task : ByteArray := prog_14_method_101_code
def yX12_task : MethodName := ⟨RX12, "task", "(II)I"⟩
abbrev cX12_cell : ByteArray := prog_14_method_102_code
def yX12_cell : MethodName := ⟨RX12, "cell", "(II)I"⟩
abbrev cX12_row : ByteArray := prog_14_method_103_code
def yX12_row : MethodName := ⟨RX12, "row", "(I)I"⟩
abbrev cX12_put : ByteArray := prog_14_method_104_code
def yX12_put : MethodName := ⟨RX12, "put", "(II)I"⟩
abbrev cX12_lost : ByteArray := prog_14_method_105_code
def yX12_lost : MethodName := ⟨RX12, "lost", "(II)I"⟩
abbrev cX12_box : ByteArray := prog_14_method_106_code
def yX12_box : MethodName := ⟨RX12, "box", "(II)I"⟩
abbrev cX12_stands : ByteArray := prog_14_method_107_code
def yX12_stands : MethodName := ⟨RX12, "stands", "(II)I"⟩
abbrev cX12_named : ByteArray := prog_14_method_108_code
def yX12_named : MethodName := ⟨RX12, "named", "(I)I"⟩
abbrev cX12_routine : ByteArray := prog_14_method_109_code
def yX12_routine : MethodName := ⟨RX12, "routine", "(II)I"⟩
abbrev cX12_count : ByteArray := prog_14_method_110_code
def yX12_count : MethodName := ⟨RX12, "count", "(I)I"⟩
end
section
abbrev vwCl : List vw_C := [(RX0, TX0, 3), (RX1, TX1, 15), (RX2, TX2, 2), (RX3, TX3, 13), (RX4, TX4, 12), (RX5, TX5, 14), (RX6, TX6, 8), (RX7, TX7, 12), (RX8, TX8, 5), (RX9, TX9, 20), (RX10, TX10, 7), (RX11, TX11, 7), (RX12, TX12, 128)]
def tb : List Cond := lw_tbl.filter goodWord
theorem tb_in {w : Cond} (h1 : w ∈ lw_tbl) (h2 : goodWord w = true) : w ∈ tb := List.mem_filter.mpr ⟨h1, h2⟩
theorem tb_at {w : Cond} (i : Nat) (h1 : tables_1[i]? = some w) (h2 : goodWord w = true) : w ∈ tb := tb_in (List.mem_append_right _ (List.mem_of_getElem? h1)) h2
theorem tb_good {w : Cond} (h : w ∈ tb) : w ∈ tb ∧ ((w.onTables && w.keeps) = true ∨ ∃ ty, w = .arrayClass ty) := ⟨h, good_of_word (List.mem_filter.mp h).2⟩
theorem gd_c {c1 : Cond} (h : c1 ∈ tb) : GoodIn tb (c1 :: tb) := fun w hw => by
  rcases List.mem_cons.mp hw with rfl | hw
  · exact tb_good h
  · exact tb_good hw
theorem gd_V {own C : String} {idx : Nat} {y : MethodName} {c1 : Cond} (h1 : Cond.methodLink own idx y ∈ tb) (h2 : Cond.instanceMethod y ∈ tb) (h3 : Cond.selects C y y ∈ tb) (h4 : Cond.initialized C ∈ tb) (h5 : c1 ∈ tb) : GoodIn tb (wsV own idx C y (c1 :: tb)) := fun w hw => by
  rcases List.mem_append.mp hw with hw | hw
  · simp only [List.mem_cons, List.not_mem_nil, or_false] at hw
    rcases hw with rfl | rfl | rfl | rfl
    · exact tb_good h1
    · exact tb_good h2
    · exact tb_good h3
    · exact tb_good h4
  · exact gd_c h5 w hw
theorem gd_S {own : String} {idx : Nat} {y : MethodName} {c1 : Cond} (h1 : Cond.methodLink own idx y ∈ tb) (h2 : Cond.static y ∈ tb) (h4 : Cond.initialized own ∈ tb) (h5 : c1 ∈ tb) : GoodIn tb (wsS own idx y (c1 :: tb)) := fun w hw => by
  rcases List.mem_append.mp hw with hw | hw
  · simp only [List.mem_cons, List.not_mem_nil, or_false] at hw
    rcases hw with rfl | rfl | rfl
    · exact tb_good h1
    · exact tb_good h2
    · exact tb_good h4
  · exact gd_c h5 w hw
theorem in_of {ws : List Cond} (ps : List Nat) (hp : ws = ps.filterMap (fun i => tables_1[i]?)) (hg : ws.all goodWord = true) : ∀ w ∈ ws, w ∈ tb := by
  intro w hw
  have h1 := List.all_eq_true.mp hg w hw
  rw [hp] at hw
  obtain ⟨i, -, hi⟩ := List.mem_filterMap.mp hw
  exact tb_at i hi h1
theorem sl_of {y : MethodName} {n : Nat} (h : (y, n) ∈ lw_privs) (hg : goodWord (Cond.selects y.cls y y) = true) : Cond.selects y.cls y y ∈ tb := tb_in (List.mem_append_left _ (List.mem_map.mpr ⟨(y, n), h, rfl⟩)) hg
theorem px_in (i : Int32) (n : Nat) (h : decide (¬ (i < 0 ∨ n ≤ i.toNatClampNeg)) = true) : vp_in i n := (of_decide_eq_true h : ¬ (i < 0 ∨ n ≤ i.toNatClampNeg))
theorem px_dead {P : Prop} (h : False) : P := h.elim
theorem up_z {k : Nat} : upd (fun _ => 0) k 0 = fun _ => 0 := by funext j; unfold upd; split <;> rfl
theorem up_zL {k : Nat} : vp_updL (fun _ => 0) k 0 = fun _ => 0 := by funext j; unfold vp_updL; split <;> rfl
/-- an answer that is null -/
def qn_Q (B : Unit → State → Prop) (A : Nat → Prop) : Array Value → State → Outcome → State → Prop := fun _ st oc t => (oc = .returned (some .null) ∧ B () t) ∧ va_F A st t
theorem qn_call {p : Program} {l : Launch} {e : Env} {R : Room} {s : State} {m : MethodId} {args : Array Value} {below : List Frame} {meth : Method} {c : Code} {H : Heap} {locs : List Loc} {cells slots : Nat} {Q : State → Prop} {pc : Nat} {ls : Array Slot} {rest st0 : List Value} {a : Array Value} {A0 A1 : Nat → Prop} {H0 : Heap} {mc ms : Nat} {free : Addr → Prop} {B : Unit → State → Prop} (hr : va_Run p l e R s m args below meth c H locs cells slots mc ms (F0 m pc ls st0) rest (qn_Q B A1 a) free) (hS : va_S A0 H0 H locs) (hA : ∀ q, q < H.size → A1 q → A0 q) (hf : ∀ q, free q → A0 q)
    (kk : ∀ (t : State) (H1 : Heap) (locs1 : List Loc), t.heap = H1 → s.vm.Alike t.vm → B () t → H.size ≤ H1.size → (∀ q : Nat, q < H.size → ¬ A1 q → H1[q]? = H[q]?) → va_S A0 H0 H1 locs1 → W p l e R s m args below meth c H1 locs1 (cells + mc) (slots + ms) Q (F0 m (pc + 3) ls (.null :: rest))) : W p l e R s m args below meth c H locs cells slots Q (F0 m pc ls st0) := by
  intro T hT X
  obtain ⟨v, st₀, t, T', L, h0, X', hL, e1, e2, ⟨⟨hv, hb⟩, hz, hk⟩, st⟩ := hr T hT X
  cases hv
  rw [h0] at hz hk
  obtain ⟨t2, a1, b1⟩ := kk t T'.heap (locs ++ L) e1.symm (by rw [← e2]; exact X'.warmed.alike) hb (by rw [e1]; exact hz) (fun q h1 h2 => by rw [e1]; exact hk q h1 h2)
    ⟨Nat.le_trans hS.1 (by rw [e1]; exact hz), fun q h1 h2 => by rw [e1, hk q (Nat.lt_of_lt_of_le h1 hS.1) (fun z => h2 (hA q (Nat.lt_of_lt_of_le h1 hS.1) z))]; exact hS.2.1 q h1 h2, fun q hq => by
      rcases List.mem_append.mp hq with h | h
      · exact hS.2.2 q h
      · exact hf _ (hL q h)⟩ T' rfl X'
  exact ⟨t2, st t2 a1, b1⟩
theorem in_X0 : ∀ w ∈ u_ws RX0 TX0 3, w ∈ tb := in_of [226, 228, 230] (by decide +kernel) (by decide +kernel)
theorem df_X0 : ∀ j, j < 3 → defaultValue (tyX0 j) = vp_V [.int 0, .null, .null] j := by decide +kernel
theorem in_X1 : ∀ w ∈ u_ws RX1 TX1 15, w ∈ tb := in_of [262, 264, 266, 268, 270, 272, 274, 276, 278, 280, 282, 284, 286, 288, 290] (by decide +kernel) (by decide +kernel)
theorem df_X1 : ∀ j, j < 15 → defaultValue (tyX1 j) = vp_V [.null, .null, .int 0, .int 0, .null, .int 0, .int 0, .null, .null, .null, .null, .null, .null, .int 0, .null] j := by decide +kernel
theorem in_X2 : ∀ w ∈ u_ws RX2 TX2 2, w ∈ tb := in_of [211, 213] (by decide +kernel) (by decide +kernel)
theorem df_X2 : ∀ j, j < 2 → defaultValue (tyX2 j) = vp_V [.null, .null] j := by decide +kernel
theorem in_X3 : ∀ w ∈ u_ws RX3 TX3 13, w ∈ tb := in_of [144, 146, 148, 150, 152, 154, 156, 158, 160, 162, 164, 166, 168] (by decide +kernel) (by decide +kernel)
theorem df_X3 : ∀ j, j < 13 → defaultValue (tyX3 j) = vp_V [.null, .null, .null, .int 0, .int 0, .int 0, .int 0, .int 0, .int 0, .null, .null, .null, .null] j := by decide +kernel
theorem in_X4 : ∀ w ∈ u_ws RX4 TX4 12, w ∈ tb := in_of [1084, 1086, 1088, 1090, 1092, 1094, 1096, 1098, 1100, 1102, 1104, 1106] (by decide +kernel) (by decide +kernel)
theorem df_X4 : ∀ j, j < 12 → defaultValue (tyX4 j) = vp_V [.null, .int 0, .int 0, .int 0, .int 0, .int 0, .null, .null, .null, .null, .null, .null] j := by decide +kernel
theorem in_X5 : ∀ w ∈ u_ws RX5 TX5 14, w ∈ tb := in_of [433, 435, 437, 439, 441, 443, 445, 447, 449, 451, 453, 455, 457, 459] (by decide +kernel) (by decide +kernel)
theorem df_X5 : ∀ j, j < 14 → defaultValue (tyX5 j) = vp_V [.int 0, .null, .null, .null, .null, .int 0, .null, .null, .null, .null, .null, .null, .null, .null] j := by decide +kernel
theorem in_X6 : ∀ w ∈ u_ws RX6 TX6 8, w ∈ tb := in_of [312, 314, 316, 318, 320, 322, 324, 326] (by decide +kernel) (by decide +kernel)
theorem df_X6 : ∀ j, j < 8 → defaultValue (tyX6 j) = vp_V [.int 0, .int 0, .null, .null, .null, .int 0, .int 0, .int 0] j := by decide +kernel
theorem in_X7 : ∀ w ∈ u_ws RX7 TX7 12, w ∈ tb := in_of [370, 372, 374, 376, 378, 380, 382, 384, 386, 388, 390, 392] (by decide +kernel) (by decide +kernel)
theorem df_X7 : ∀ j, j < 12 → defaultValue (tyX7 j) = vp_V [.int 0, .null, .null, .null, .null, .null, .null, .null, .int 0, .null, .null, .null] j := by decide +kernel
theorem in_X8 : ∀ w ∈ u_ws RX8 TX8 5, w ∈ tb := in_of [182, 184, 186, 188, 190] (by decide +kernel) (by decide +kernel)
theorem df_X8 : ∀ j, j < 5 → defaultValue (tyX8 j) = vp_V [.null, .null, .int 0, .int 0, .null] j := by decide +kernel
theorem in_X9 : ∀ w ∈ u_ws RX9 TX9 20, w ∈ tb := in_of [908, 910, 912, 914, 916, 918, 920, 922, 924, 926, 928, 930, 932, 934, 936, 938, 940, 942, 944, 946] (by decide +kernel) (by decide +kernel)
theorem df_X9 : ∀ j, j < 20 → defaultValue (tyX9 j) = vp_V [.int 0, .int 0, .null, .null, .int 0, .int 0, .int 0, .int 0, .int 0, .int 0, .int 0, .null, .null, .null, .null, .null, .null, .int 0, .int 0, .int 0] j := by decide +kernel
theorem in_X10 : ∀ w ∈ u_ws RX10 TX10 7, w ∈ tb := in_of [106, 108, 110, 112, 114, 116, 118] (by decide +kernel) (by decide +kernel)
theorem df_X10 : ∀ j, j < 7 → defaultValue (tyX10 j) = vp_V [.null, .null, .null, .int 0, .int 0, .null, .null] j := by decide +kernel
theorem in_X11 : ∀ w ∈ u_ws RX11 TX11 7, w ∈ tb := in_of [485, 487, 489, 491, 493, 495, 497] (by decide +kernel) (by decide +kernel)
theorem df_X11 : ∀ j, j < 7 → defaultValue (tyX11 j) = vp_V [.null, .null, .null, .null, .null, .null, .null] j := by decide +kernel
theorem in_X12 : ∀ w ∈ u_ws RX12 TX12 128, w ∈ tb := in_of [1532, 1534, 1536, 1538, 1540, 1542, 1544, 1546, 1548, 1550, 1552, 1554, 1556, 1558, 1560, 1562, 1564, 1566, 1568, 1570, 1572, 1574, 1576, 1578, 1580, 1582, 1584, 1586, 1588, 1590, 1592, 1594, 1596, 1598, 1600, 1602, 1604, 1606, 1608, 1610, 1612, 1614, 1616, 1618, 1620, 1622, 1624, 1626, 1628, 1630, 1632, 1634, 1636, 1638, 1640, 1642, 1644, 1646, 1648, 1650, 1652, 1654, 1656, 1658, 1660, 1662, 1664, 1666, 1668, 1670, 1672, 1674, 1676, 1678, 1680, 1682, 1684, 1686, 1688, 1690, 1692, 1694, 1696, 1698, 1700, 1702, 1704, 1706, 1708, 1710, 1712, 1714, 1716, 1718, 1720, 1722, 1724, 1726, 1728, 1730, 1732, 1734, 1736, 1738, 1740, 1742, 1744, 1746, 1748, 1750, 1752, 1754, 1756, 1758, 1760, 1762, 1764, 1766, 1768, 1770, 1772, 1774, 1776, 1778, 1780, 1782, 1784, 1786] (by decide +kernel) (by decide +kernel)
theorem df_X12 : ∀ j, j < 128 → defaultValue (tyX12 j) = vp_V [.int 0, .null, .int 0, .int 0, .null, .null, .null, .int 0, .int 0, .null, .null, .int 0, .int 0, .null, .null, .null, .null, .null, .null, .null, .null, .null, .null, .int 0, .null, .null, .null, .null, .null, .null, .null, .int 0, .null, .null, .null, .int 0, .null, .null, .null, .null, .null, .null, .null, .null, .null, .null, .null, .null, .null, .null, .null, .int 0, .null, .null, .null, .null, .null, .null, .null, .null, .null, .int 0, .int 0, .int 0, .int 0, .int 0, .int 0, .int 0, .int 0, .int 0, .int 0, .null, .null, .int 0, .int 0, .null, .null, .null, .null, .null, .null, .null, .null, .null, .null, .null, .null, .null, .null, .null, .null, .null, .null, .null, .null, .null, .null, .null, .int 0, .int 0, .int 0, .int 0, .int 0, .null, .null, .int 0, .null, .null, .null, .null, .int 0, .null, .null, .null, .null, .null, .null, .null, .null, .int 0, .null, .int 0, .int 0, .int 0, .int 0, .int 0, .int 0, .int 0] j := by decide +kernel
theorem wd_obj : Cond.code objectInit ⟨#[0xb1]⟩ 1 none ∈ tb := tb_at 31 (by decide +kernel) (by decide +kernel)
end
section


theorem ln_eq {a0 a1 a2 a3 a4 a5 a6 a7 : Nat} : va_up (va_up (va_up (va_up (va_up (va_up (va_up (va_up (fun _ => none) (0 : Int32).toNatClampNeg (some a0)) (1 : Int32).toNatClampNeg (some a1)) (2 : Int32).toNatClampNeg (some a2)) (3 : Int32).toNatClampNeg (some a3)) (4 : Int32).toNatClampNeg (some a4)) (5 : Int32).toNatClampNeg (some a5)) (6 : Int32).toNatClampNeg (some a6)) (7 : Int32).toNatClampNeg (some a7) = fun i => [a0, a1, a2, a3, a4, a5, a6, a7][i]? := by
  funext i
  rw [show (0 : Int32).toNatClampNeg = 0 from rfl, show (1 : Int32).toNatClampNeg = 1 from rfl, show (2 : Int32).toNatClampNeg = 2 from rfl, show (3 : Int32).toNatClampNeg = 3 from rfl, show (4 : Int32).toNatClampNeg = 4 from rfl, show (5 : Int32).toNatClampNeg = 5 from rfl, show (6 : Int32).toNatClampNeg = 6 from rfl, show (7 : Int32).toNatClampNeg = 7 from rfl]
  match i with
  | 0 => rfl
  | 1 => rfl
  | 2 => rfl
  | 3 => rfl
  | 4 => rfl
  | 5 => rfl
  | 6 => rfl
  | 7 => rfl
  | n + 8 => simp [va_up]
end
section
theorem wd_30 : (Jvm.Cond.instanceMethod ({ cls := "java/lang/Object", name := "<init>", desc := "()V" } : Jvm.MethodName)) ∈ tb := tb_at 30 (by decide +kernel) (by decide +kernel)
theorem wd_121 : (Jvm.Cond.arrayClass Jvm.ClassFile.FieldType.int) ∈ tb := tb_at 121 (by decide +kernel) (by decide +kernel)
theorem wd_207 : (Jvm.Cond.methodLink "Sleepers$Line" (3 : Nat) ({ cls := "java/lang/Object", name := "<init>", desc := "()V" } : Jvm.MethodName)) ∈ tb := tb_at 207 (by decide +kernel) (by decide +kernel)
theorem wd_221 : (Jvm.Cond.methodLink "Sleepers$Book" (3 : Nat) ({ cls := "java/lang/Object", name := "<init>", desc := "()V" } : Jvm.MethodName)) ∈ tb := tb_at 221 (by decide +kernel) (by decide +kernel)
theorem wd_224 : (Jvm.Cond.fieldLink "Sleepers$Book" (9 : Nat) "Sleepers$Book" "tasks" "[I") ∈ tb := tb_at 224 (by decide +kernel) (by decide +kernel)
theorem wd_225 : (Jvm.Cond.fieldLink "Sleepers$Book" (15 : Nat) "Sleepers$Book" "numbers" "[I") ∈ tb := tb_at 225 (by decide +kernel) (by decide +kernel)
theorem dX0_init_0 : decode cX0_init 0 = .ok (.aload_n 0, 1) := by decide +kernel
theorem dX0_init_1 : decode cX0_init 1 = .ok (.invokespecial 3, 3) := by decide +kernel
theorem dX0_init_4 : decode cX0_init 4 = .ok (.aload_n 0, 1) := by decide +kernel
theorem dX0_init_5 : decode cX0_init 5 = .ok (.sipush 300, 3) := by decide +kernel
theorem dX0_init_8 : decode cX0_init 8 = .ok (.newarray .int, 2) := by decide +kernel
theorem dX0_init_10 : decode cX0_init 10 = .ok (.putfield 9, 3) := by decide +kernel
theorem dX0_init_13 : decode cX0_init 13 = .ok (.aload_n 0, 1) := by decide +kernel
theorem dX0_init_14 : decode cX0_init 14 = .ok (.sipush 300, 3) := by decide +kernel
theorem dX0_init_17 : decode cX0_init 17 = .ok (.newarray .int, 2) := by decide +kernel
theorem dX0_init_19 : decode cX0_init 19 = .ok (.putfield 15, 3) := by decide +kernel
theorem dX0_init_22 : decode cX0_init 22 = .ok (.return_, 1) := by decide +kernel
theorem dX2_init_0 : decode cX2_init 0 = .ok (.aload_n 0, 1) := by decide +kernel
theorem dX2_init_1 : decode cX2_init 1 = .ok (.invokespecial 3, 3) := by decide +kernel
theorem dX2_init_4 : decode cX2_init 4 = .ok (.return_, 1) := by decide +kernel
set_option maxHeartbeats 4000000 in
set_option maxRecDepth 100000 in
theorem ct_X2_init (l : Launch) (dC : Nat → ClassId) (dI : Nat → Nat → Nat) (h0 : Nat) (sz : Nat) : Met l yX2_init (.code yX2_init cX2_init 1 none :: tb) ({ frames := 1, cells := 0, slots := 0, locals := 12 }) (va_Pc [.ref h0] (fun U => U.heap.size = sz ∧ va_P (dC, dI) vwCl [(h0, .inr (2, [.null, .null]))] U.heap ∧ va_K (dC, dI) vwCl [] U ∧ va_D (fun _ => True) [(h0, .inr (2, [.null, .null]))])) (va_Qv (fun (_ : Unit) => True) (fun (_ : Unit) t => va_P (dC, dI) vwCl [(h0, .inr (2, [.null, .null]))] t.heap ∧ va_K (dC, dI) vwCl [] t ∧ va_D (va_A [(h0, .inr (2, [.null, .null]))] sz) [(h0, .inr (2, [.null, .null]))]) (va_A [(h0, .inr (2, [.null, .null]))] sz)) 0 0 (va_A [(h0, .inr (2, [.null, .null]))] sz) := by
  refine Met.ofW (cc := cX2_init) (maxL := 1) (ret := none) (by decide) rfl ?_
  intro p e s m args below meth c s₁ B hml hv
  obtain ⟨rfl, hsz, hP, hK, hD0⟩ := hv
  have hx := B.exec
  have hb := B.bytes
  have hr := B.returns
  have hts : ∀ w ∈ tb, w.before _ s = true := fun w h => atoms_spec (ws := (.code yX2_init cX2_init 1 none :: tb)) B.pre w (List.mem_cons_of_mem _ h)
  have hown : s.vm.findClass RX2 = some m.cls := findClass_of_methodNamed B.named
  have hlocks := B.notSynchronized
  have hin : meth.name = "<init>" := (name_of_methodNamed B.named B.method).1
  subst hsz
  have hD := hD0.self (sz := s.heap.size)
  generalize hAe : va_A [(h0, .inr (2, [.null, .null]))] s.heap.size = A at hD ⊢
  have hA : ∀ q : Nat, s.heap.size ≤ q → A q := fun q h => by rw [← hAe]; exact Or.inr h
  have hS : va_S A s.heap s.heap [] := va_S.rf
  have hP : va_P (dC, dI) vwCl [(h0, .inr (2, [.null, .null]))] s.heap := hP
  have hl := lv_entry ([.ref h0]) (n := 1) (Nat.le_of_ble_eq_true rfl)
  rw [lg_entry_eq]
  generalize (lg_sl ([.ref h0]) ++ List.replicate (1 - (lg_sl ([.ref h0])).length) Slot.unset).toArray = ls at hl ⊢
  have hl : lv_has ls 1 [(0, .ref h0)] := hl
  refine lv_aload_n hx hb dX2_init_0 rfl (lv_at hl 0 rfl) ?_
  refine W.objInit hx hb hown (hts _ wd_207) (hts _ wd_30) (hts _ wd_obj) rfl (by rw [hml]; exact hl.1) rfl dX2_init_1 (Nat.le_of_ble_eq_true rfl) (Nat.le_of_ble_eq_true rfl) ?_
  refine W.eq (g2 := F0 m 4 ls []) rfl ?_
  have hP9 := hP.sub (ws' := [(h0, .inr (2, [.null, .null]))]) [0] rfl
  have hD9 := hD.sub (ws' := [(h0, .inr (2, [.null, .null]))]) [0] (by decide) rfl
  have hK9 := hK.sub (tys' := []) [] rfl
  refine W.widen (k := 0) (n := 0) (Nat.le_of_ble_eq_true rfl) (Nat.le_of_ble_eq_true rfl) ?_
  exact W.vret hx hb hr (fun t ht hW => ⟨⟨(), rfl, trivial, by rw [ht]; exact hP9, va_K.moved hW.alike hK9, hD9⟩, hS.F ht⟩) hS.2.2 dX2_init_4
set_option maxHeartbeats 4000000 in
set_option maxRecDepth 100000 in
theorem ct_X0_init (l : Launch) (dC : Nat → ClassId) (dI : Nat → Nat → Nat) (h0 : Nat) (sz : Nat) : Met l yX0_init (.code yX0_init cX0_init 1 none :: tb) ({ frames := 1, cells := 2, slots := 600, locals := 12 }) (va_Pc [.ref h0] (fun U => U.heap.size = sz ∧ va_P (dC, dI) vwCl [(h0, .inr (0, [.int 0, .null, .null]))] U.heap ∧ va_K (dC, dI) vwCl [] U ∧ va_D (fun _ => True) [(h0, .inr (0, [.int 0, .null, .null]))])) (va_Qv (fun (_ : Unit) => True) (fun (_ : Unit) t => ∃ (q : Nat → Nat), va_P (dC, dI) vwCl [(h0, .inr (0, [.int 0, .ref (q 0), .ref (q 1)]))] t.heap ∧ va_K (dC, dI) vwCl [] t ∧ va_D (va_A [(h0, .inr (0, [.int 0, .null, .null]))] sz) [(h0, .inr (0, [.int 0, .ref (q 0), .ref (q 1)]))]) (va_A [(h0, .inr (0, [.int 0, .null, .null]))] sz)) 2 600 (va_A [(h0, .inr (0, [.int 0, .null, .null]))] sz) := by
  refine Met.ofW (cc := cX0_init) (maxL := 1) (ret := none) (by decide) rfl ?_
  intro p e s m args below meth c s₁ B hml hv
  obtain ⟨rfl, hsz, hP, hK, hD0⟩ := hv
  have hx := B.exec
  have hb := B.bytes
  have hr := B.returns
  have hts : ∀ w ∈ tb, w.before _ s = true := fun w h => atoms_spec (ws := (.code yX0_init cX0_init 1 none :: tb)) B.pre w (List.mem_cons_of_mem _ h)
  have hown : s.vm.findClass RX0 = some m.cls := findClass_of_methodNamed B.named
  have hlocks := B.notSynchronized
  have hin : meth.name = "<init>" := (name_of_methodNamed B.named B.method).1
  subst hsz
  have hD := hD0.self (sz := s.heap.size)
  generalize hAe : va_A [(h0, .inr (0, [.int 0, .null, .null]))] s.heap.size = A at hD ⊢
  have hA : ∀ q : Nat, s.heap.size ≤ q → A q := fun q h => by rw [← hAe]; exact Or.inr h
  have hS : va_S A s.heap s.heap [] := va_S.rf
  have hP : va_P (dC, dI) vwCl [(h0, .inr (0, [.int 0, .null, .null]))] s.heap := hP
  have hl := lv_entry ([.ref h0]) (n := 1) (Nat.le_of_ble_eq_true rfl)
  rw [lg_entry_eq]
  generalize (lg_sl ([.ref h0]) ++ List.replicate (1 - (lg_sl ([.ref h0])).length) Slot.unset).toArray = ls at hl ⊢
  have hl : lv_has ls 1 [(0, .ref h0)] := hl
  refine lv_aload_n hx hb dX0_init_0 rfl (lv_at hl 0 rfl) ?_
  refine W.objInit hx hb hown (hts _ wd_221) (hts _ wd_30) (hts _ wd_obj) rfl (by rw [hml]; exact hl.1) rfl dX0_init_1 (Nat.le_of_ble_eq_true rfl) (Nat.le_of_ble_eq_true rfl) ?_
  refine W.eq (g2 := F0 m 4 ls []) rfl ?_
  refine lv_aload_n hx hb dX0_init_4 rfl (lv_at hl 0 rfl) ?_
  refine lv_sipush (v := 300) hx hb dX0_init_5 (by decide) ?_
  refine va_newa (D := (dC, dI)) (atype := .int) (a0 := (300, .inl (fun _ => 0))) hx hb (hts _ wd_121) rfl hK hP hD hS hA (fun _ => rfl) (by decide) (by decide) (by decide) (Nat.le_of_ble_eq_true rfl) (Nat.le_of_ble_eq_true rfl) dX0_init_8 (fun q1 k2 H hK hP hD hS => ?_)
  have hK : va_K (dC, dI) vwCl [(k2, .int)] s := hK
  have hP : va_P (dC, dI) vwCl [(h0, .inr (0, [.int 0, .null, .null])), (q1, .inl (k2, 300, .inl (fun _ => 0)))] H := hP
  have hD : va_D A [(h0, .inr (0, [.int 0, .null, .null])), (q1, .inl (k2, 300, .inl (fun _ => 0)))] := hD
  refine W.widen (k := 1) (n := 300) (Nat.le_of_ble_eq_true rfl) (Nat.le_of_ble_eq_true rfl) ?_
  refine va_putF (D := (dC, dI)) (ci := 0) (v := .ref q1) (ty := (tyX0 1)) (C := RX0) (T := TX0) (N := 3) hx hb hts in_X0 tyX0 tyX0_ok nmX0 hown hK hP hD hS 0 rfl rfl 1 (by decide) (hts _ wd_224) (fun _ h9 => h9) rfl hin rfl (tyX0_ok 1 (by decide)) rfl rfl (Nat.le_of_ble_eq_true rfl) dX0_init_10 (fun H locs hP hD hS => ?_)
  have hP : va_P (dC, dI) vwCl [(h0, .inr (0, [.int 0, .ref q1, .null])), (q1, .inl (k2, 300, .inl (fun _ => 0)))] H := hP
  have hD : va_D A [(h0, .inr (0, [.int 0, .ref q1, .null])), (q1, .inl (k2, 300, .inl (fun _ => 0)))] := hD
  have hP := hP.sub (ws' := [(h0, .inr (0, [.int 0, .ref q1, .null]))]) [0] rfl
  have hD := hD.sub (ws' := [(h0, .inr (0, [.int 0, .ref q1, .null]))]) [0] (by decide) rfl
  have hK := hK.sub (tys' := []) [] rfl
  refine lv_aload_n hx hb dX0_init_13 rfl (lv_at hl 0 rfl) ?_
  refine lv_sipush (v := 300) hx hb dX0_init_14 (by decide) ?_
  refine va_newa (D := (dC, dI)) (atype := .int) (a0 := (300, .inl (fun _ => 0))) hx hb (hts _ wd_121) rfl hK hP hD hS hA (fun _ => rfl) (by decide) (by decide) (by decide) (Nat.le_of_ble_eq_true rfl) (Nat.le_of_ble_eq_true rfl) dX0_init_17 (fun q3 k4 H hK hP hD hS => ?_)
  have hK : va_K (dC, dI) vwCl [(k4, .int)] s := hK
  have hP : va_P (dC, dI) vwCl [(h0, .inr (0, [.int 0, .ref q1, .null])), (q3, .inl (k4, 300, .inl (fun _ => 0)))] H := hP
  have hD : va_D A [(h0, .inr (0, [.int 0, .ref q1, .null])), (q3, .inl (k4, 300, .inl (fun _ => 0)))] := hD
  refine W.widen (k := 2) (n := 600) (Nat.le_of_ble_eq_true rfl) (Nat.le_of_ble_eq_true rfl) ?_
  refine va_putF (D := (dC, dI)) (ci := 0) (v := .ref q3) (ty := (tyX0 2)) (C := RX0) (T := TX0) (N := 3) hx hb hts in_X0 tyX0 tyX0_ok nmX0 hown hK hP hD hS 0 rfl rfl 2 (by decide) (hts _ wd_225) (fun _ h9 => h9) rfl hin rfl (tyX0_ok 2 (by decide)) rfl rfl (Nat.le_of_ble_eq_true rfl) dX0_init_19 (fun H locs hP hD hS => ?_)
  have hP : va_P (dC, dI) vwCl [(h0, .inr (0, [.int 0, .ref q1, .ref q3])), (q3, .inl (k4, 300, .inl (fun _ => 0)))] H := hP
  have hD : va_D A [(h0, .inr (0, [.int 0, .ref q1, .ref q3])), (q3, .inl (k4, 300, .inl (fun _ => 0)))] := hD
  have hP := hP.sub (ws' := [(h0, .inr (0, [.int 0, .ref q1, .ref q3]))]) [0] rfl
  have hD := hD.sub (ws' := [(h0, .inr (0, [.int 0, .ref q1, .ref q3]))]) [0] (by decide) rfl
  have hK := hK.sub (tys' := []) [] rfl
  have hP9 := hP.sub (ws' := [(h0, .inr (0, [.int 0, .ref q1, .ref q3]))]) [0] rfl
  have hD9 := hD.sub (ws' := [(h0, .inr (0, [.int 0, .ref q1, .ref q3]))]) [0] (by decide) rfl
  have hK9 := hK.sub (tys' := []) [] rfl
  refine W.widen (k := 2) (n := 600) (Nat.le_of_ble_eq_true rfl) (Nat.le_of_ble_eq_true rfl) ?_
  exact W.vret hx hb hr (fun t ht hW => ⟨⟨(), rfl, trivial, (fun k => [q1, q3].getD k 0), by rw [ht]; exact hP9, va_K.moved hW.alike hK9, hD9⟩, hS.F ht⟩) hS.2.2 dX0_init_22
end
section
theorem wd_122 : (Jvm.Cond.arrayClass Jvm.ClassFile.FieldType.long) ∈ tb := tb_at 122 (by decide +kernel) (by decide +kernel)
theorem wd_130 : (Jvm.Cond.methodLink "Sleepers$Parser" (3 : Nat) ({ cls := "java/lang/Object", name := "<init>", desc := "()V" } : Jvm.MethodName)) ∈ tb := tb_at 130 (by decide +kernel) (by decide +kernel)
theorem wd_131 : (Jvm.Cond.fieldLink "Sleepers$Parser" (25 : Nat) "Sleepers$Parser" "tokens" "LSleepers$Tokens;") ∈ tb := tb_at 131 (by decide +kernel) (by decide +kernel)
theorem wd_140 : (Jvm.Cond.fieldLink "Sleepers$Parser" (9 : Nat) "Sleepers$Parser" "childAct" "[I") ∈ tb := tb_at 140 (by decide +kernel) (by decide +kernel)
theorem wd_141 : (Jvm.Cond.fieldLink "Sleepers$Parser" (15 : Nat) "Sleepers$Parser" "childPlace" "[I") ∈ tb := tb_at 141 (by decide +kernel) (by decide +kernel)
theorem wd_142 : (Jvm.Cond.fieldLink "Sleepers$Parser" (18 : Nat) "Sleepers$Parser" "childGiven" "[I") ∈ tb := tb_at 142 (by decide +kernel) (by decide +kernel)
theorem wd_143 : (Jvm.Cond.fieldLink "Sleepers$Parser" (21 : Nat) "Sleepers$Parser" "childName" "[J") ∈ tb := tb_at 143 (by decide +kernel) (by decide +kernel)
theorem wd_176 : (Jvm.Cond.methodLink "Sleepers$Tables" (3 : Nat) ({ cls := "java/lang/Object", name := "<init>", desc := "()V" } : Jvm.MethodName)) ∈ tb := tb_at 176 (by decide +kernel) (by decide +kernel)
theorem wd_177 : (Jvm.Cond.fieldLink "Sleepers$Tables" (9 : Nat) "Sleepers$Tables" "seen" "[I") ∈ tb := tb_at 177 (by decide +kernel) (by decide +kernel)
theorem wd_178 : (Jvm.Cond.fieldLink "Sleepers$Tables" (15 : Nat) "Sleepers$Tables" "open" "[I") ∈ tb := tb_at 178 (by decide +kernel) (by decide +kernel)
theorem wd_340 : (Jvm.Cond.methodLink "Sleepers$Scopes" (3 : Nat) ({ cls := "java/lang/Object", name := "<init>", desc := "()V" } : Jvm.MethodName)) ∈ tb := tb_at 340 (by decide +kernel) (by decide +kernel)
theorem wd_342 : (Jvm.Cond.fieldLink "Sleepers$Scopes" (9 : Nat) "Sleepers$Scopes" "outer" "[I") ∈ tb := tb_at 342 (by decide +kernel) (by decide +kernel)
theorem wd_345 : (Jvm.Cond.fieldLink "Sleepers$Scopes" (15 : Nat) "Sleepers$Scopes" "deep" "[I") ∈ tb := tb_at 345 (by decide +kernel) (by decide +kernel)
theorem wd_347 : (Jvm.Cond.fieldLink "Sleepers$Scopes" (18 : Nat) "Sleepers$Scopes" "loopAbout" "[I") ∈ tb := tb_at 347 (by decide +kernel) (by decide +kernel)
theorem wd_349 : (Jvm.Cond.fieldLink "Sleepers$Scopes" (21 : Nat) "Sleepers$Scopes" "onAt" "[I") ∈ tb := tb_at 349 (by decide +kernel) (by decide +kernel)
theorem wd_352 : (Jvm.Cond.fieldLink "Sleepers$Scopes" (24 : Nat) "Sleepers$Scopes" "finishAt" "[I") ∈ tb := tb_at 352 (by decide +kernel) (by decide +kernel)
theorem wd_356 : (Jvm.Cond.fieldLink "Sleepers$Scopes" (27 : Nat) "Sleepers$Scopes" "behindTry" "[I") ∈ tb := tb_at 356 (by decide +kernel) (by decide +kernel)
theorem wd_360 : (Jvm.Cond.fieldLink "Sleepers$Scopes" (30 : Nat) "Sleepers$Scopes" "marks" "[I") ∈ tb := tb_at 360 (by decide +kernel) (by decide +kernel)
theorem wd_362 : (Jvm.Cond.fieldLink "Sleepers$Scopes" (33 : Nat) "Sleepers$Scopes" "loopScope" "[I") ∈ tb := tb_at 362 (by decide +kernel) (by decide +kernel)
theorem wd_365 : (Jvm.Cond.fieldLink "Sleepers$Scopes" (36 : Nat) "Sleepers$Scopes" "loopAt" "[I") ∈ tb := tb_at 365 (by decide +kernel) (by decide +kernel)
theorem wd_367 : (Jvm.Cond.fieldLink "Sleepers$Scopes" (39 : Nat) "Sleepers$Scopes" "behindLoop" "[I") ∈ tb := tb_at 367 (by decide +kernel) (by decide +kernel)
theorem dX3_init_0 : decode cX3_init 0 = .ok (.aload_n 0, 1) := by decide +kernel
theorem dX3_init_1 : decode cX3_init 1 = .ok (.invokespecial 3, 3) := by decide +kernel
theorem dX3_init_4 : decode cX3_init 4 = .ok (.aload_n 0, 1) := by decide +kernel
theorem dX3_init_5 : decode cX3_init 5 = .ok (.sipush 460, 3) := by decide +kernel
theorem dX3_init_8 : decode cX3_init 8 = .ok (.newarray .int, 2) := by decide +kernel
theorem dX3_init_10 : decode cX3_init 10 = .ok (.putfield 9, 3) := by decide +kernel
theorem dX3_init_13 : decode cX3_init 13 = .ok (.aload_n 0, 1) := by decide +kernel
theorem dX3_init_14 : decode cX3_init 14 = .ok (.sipush 460, 3) := by decide +kernel
theorem dX3_init_17 : decode cX3_init 17 = .ok (.newarray .int, 2) := by decide +kernel
theorem dX3_init_19 : decode cX3_init 19 = .ok (.putfield 15, 3) := by decide +kernel
theorem dX3_init_22 : decode cX3_init 22 = .ok (.aload_n 0, 1) := by decide +kernel
theorem dX3_init_23 : decode cX3_init 23 = .ok (.sipush 460, 3) := by decide +kernel
theorem dX3_init_26 : decode cX3_init 26 = .ok (.newarray .int, 2) := by decide +kernel
theorem dX3_init_28 : decode cX3_init 28 = .ok (.putfield 18, 3) := by decide +kernel
theorem dX3_init_31 : decode cX3_init 31 = .ok (.aload_n 0, 1) := by decide +kernel
theorem dX3_init_32 : decode cX3_init 32 = .ok (.sipush 460, 3) := by decide +kernel
theorem dX3_init_35 : decode cX3_init 35 = .ok (.newarray .long, 2) := by decide +kernel
theorem dX3_init_37 : decode cX3_init 37 = .ok (.putfield 21, 3) := by decide +kernel
theorem dX3_init_40 : decode cX3_init 40 = .ok (.aload_n 0, 1) := by decide +kernel
theorem dX3_init_41 : decode cX3_init 41 = .ok (.aload_n 1, 1) := by decide +kernel
theorem dX3_init_42 : decode cX3_init 42 = .ok (.putfield 25, 3) := by decide +kernel
theorem dX3_init_45 : decode cX3_init 45 = .ok (.return_, 1) := by decide +kernel
theorem dX7_init_0 : decode cX7_init 0 = .ok (.aload_n 0, 1) := by decide +kernel
theorem dX7_init_1 : decode cX7_init 1 = .ok (.invokespecial 3, 3) := by decide +kernel
theorem dX7_init_4 : decode cX7_init 4 = .ok (.aload_n 0, 1) := by decide +kernel
theorem dX7_init_5 : decode cX7_init 5 = .ok (.sipush 460, 3) := by decide +kernel
theorem dX7_init_8 : decode cX7_init 8 = .ok (.newarray .int, 2) := by decide +kernel
theorem dX7_init_10 : decode cX7_init 10 = .ok (.putfield 9, 3) := by decide +kernel
theorem dX7_init_13 : decode cX7_init 13 = .ok (.aload_n 0, 1) := by decide +kernel
theorem dX7_init_14 : decode cX7_init 14 = .ok (.sipush 460, 3) := by decide +kernel
theorem dX7_init_17 : decode cX7_init 17 = .ok (.newarray .int, 2) := by decide +kernel
theorem dX7_init_19 : decode cX7_init 19 = .ok (.putfield 15, 3) := by decide +kernel
theorem dX7_init_22 : decode cX7_init 22 = .ok (.aload_n 0, 1) := by decide +kernel
theorem dX7_init_23 : decode cX7_init 23 = .ok (.sipush 460, 3) := by decide +kernel
theorem dX7_init_26 : decode cX7_init 26 = .ok (.newarray .int, 2) := by decide +kernel
theorem dX7_init_28 : decode cX7_init 28 = .ok (.putfield 18, 3) := by decide +kernel
theorem dX7_init_31 : decode cX7_init 31 = .ok (.aload_n 0, 1) := by decide +kernel
theorem dX7_init_32 : decode cX7_init 32 = .ok (.sipush 460, 3) := by decide +kernel
theorem dX7_init_35 : decode cX7_init 35 = .ok (.newarray .int, 2) := by decide +kernel
theorem dX7_init_37 : decode cX7_init 37 = .ok (.putfield 21, 3) := by decide +kernel
theorem dX7_init_40 : decode cX7_init 40 = .ok (.aload_n 0, 1) := by decide +kernel
theorem dX7_init_41 : decode cX7_init 41 = .ok (.sipush 460, 3) := by decide +kernel
theorem dX7_init_44 : decode cX7_init 44 = .ok (.newarray .int, 2) := by decide +kernel
theorem dX7_init_46 : decode cX7_init 46 = .ok (.putfield 24, 3) := by decide +kernel
theorem dX7_init_49 : decode cX7_init 49 = .ok (.aload_n 0, 1) := by decide +kernel
theorem dX7_init_50 : decode cX7_init 50 = .ok (.sipush 460, 3) := by decide +kernel
theorem dX7_init_53 : decode cX7_init 53 = .ok (.newarray .int, 2) := by decide +kernel
theorem dX7_init_55 : decode cX7_init 55 = .ok (.putfield 27, 3) := by decide +kernel
theorem dX7_init_58 : decode cX7_init 58 = .ok (.aload_n 0, 1) := by decide +kernel
theorem dX7_init_59 : decode cX7_init 59 = .ok (.sipush 460, 3) := by decide +kernel
theorem dX7_init_62 : decode cX7_init 62 = .ok (.newarray .int, 2) := by decide +kernel
theorem dX7_init_64 : decode cX7_init 64 = .ok (.putfield 30, 3) := by decide +kernel
theorem dX7_init_67 : decode cX7_init 67 = .ok (.aload_n 0, 1) := by decide +kernel
theorem dX7_init_68 : decode cX7_init 68 = .ok (.sipush 460, 3) := by decide +kernel
theorem dX7_init_71 : decode cX7_init 71 = .ok (.newarray .int, 2) := by decide +kernel
theorem dX7_init_73 : decode cX7_init 73 = .ok (.putfield 33, 3) := by decide +kernel
theorem dX7_init_76 : decode cX7_init 76 = .ok (.aload_n 0, 1) := by decide +kernel
theorem dX7_init_77 : decode cX7_init 77 = .ok (.sipush 460, 3) := by decide +kernel
theorem dX7_init_80 : decode cX7_init 80 = .ok (.newarray .int, 2) := by decide +kernel
theorem dX7_init_82 : decode cX7_init 82 = .ok (.putfield 36, 3) := by decide +kernel
theorem dX7_init_85 : decode cX7_init 85 = .ok (.aload_n 0, 1) := by decide +kernel
theorem dX7_init_86 : decode cX7_init 86 = .ok (.sipush 460, 3) := by decide +kernel
theorem dX7_init_89 : decode cX7_init 89 = .ok (.newarray .int, 2) := by decide +kernel
theorem dX7_init_91 : decode cX7_init 91 = .ok (.putfield 39, 3) := by decide +kernel
theorem dX7_init_94 : decode cX7_init 94 = .ok (.return_, 1) := by decide +kernel
theorem dX8_init_0 : decode cX8_init 0 = .ok (.aload_n 0, 1) := by decide +kernel
theorem dX8_init_1 : decode cX8_init 1 = .ok (.invokespecial 3, 3) := by decide +kernel
theorem dX8_init_4 : decode cX8_init 4 = .ok (.aload_n 0, 1) := by decide +kernel
theorem dX8_init_5 : decode cX8_init 5 = .ok (.sipush 8064, 3) := by decide +kernel
theorem dX8_init_8 : decode cX8_init 8 = .ok (.newarray .int, 2) := by decide +kernel
theorem dX8_init_10 : decode cX8_init 10 = .ok (.putfield 9, 3) := by decide +kernel
theorem dX8_init_13 : decode cX8_init 13 = .ok (.aload_n 0, 1) := by decide +kernel
theorem dX8_init_14 : decode cX8_init 14 = .ok (.sipush 8064, 3) := by decide +kernel
theorem dX8_init_17 : decode cX8_init 17 = .ok (.newarray .int, 2) := by decide +kernel
theorem dX8_init_19 : decode cX8_init 19 = .ok (.putfield 15, 3) := by decide +kernel
theorem dX8_init_22 : decode cX8_init 22 = .ok (.return_, 1) := by decide +kernel
set_option maxHeartbeats 4000000 in
set_option maxRecDepth 100000 in
theorem ct_X7_init (l : Launch) (dC : Nat → ClassId) (dI : Nat → Nat → Nat) (h0 : Nat) (sz : Nat) : Met l yX7_init (.code yX7_init cX7_init 1 none :: tb) ({ frames := 1, cells := 10, slots := 4600, locals := 12 }) (va_Pc [.ref h0] (fun U => U.heap.size = sz ∧ va_P (dC, dI) vwCl [(h0, .inr (7, [.int 0, .null, .null, .null, .null, .null, .null, .null, .int 0, .null, .null, .null]))] U.heap ∧ va_K (dC, dI) vwCl [] U ∧ va_D (fun _ => True) [(h0, .inr (7, [.int 0, .null, .null, .null, .null, .null, .null, .null, .int 0, .null, .null, .null]))])) (va_Qv (fun (_ : Unit) => True) (fun (_ : Unit) t => ∃ (q : Nat → Nat), va_P (dC, dI) vwCl [(h0, .inr (7, [.int 0, .ref (q 0), .ref (q 1), .ref (q 2), .ref (q 3), .ref (q 4), .ref (q 5), .ref (q 6), .int 0, .ref (q 7), .ref (q 8), .ref (q 9)]))] t.heap ∧ va_K (dC, dI) vwCl [] t ∧ va_D (va_A [(h0, .inr (7, [.int 0, .null, .null, .null, .null, .null, .null, .null, .int 0, .null, .null, .null]))] sz) [(h0, .inr (7, [.int 0, .ref (q 0), .ref (q 1), .ref (q 2), .ref (q 3), .ref (q 4), .ref (q 5), .ref (q 6), .int 0, .ref (q 7), .ref (q 8), .ref (q 9)]))]) (va_A [(h0, .inr (7, [.int 0, .null, .null, .null, .null, .null, .null, .null, .int 0, .null, .null, .null]))] sz)) 10 4600 (va_A [(h0, .inr (7, [.int 0, .null, .null, .null, .null, .null, .null, .null, .int 0, .null, .null, .null]))] sz) := by
  refine Met.ofW (cc := cX7_init) (maxL := 1) (ret := none) (by decide) rfl ?_
  intro p e s m args below meth c s₁ B hml hv
  obtain ⟨rfl, hsz, hP, hK, hD0⟩ := hv
  have hx := B.exec
  have hb := B.bytes
  have hr := B.returns
  have hts : ∀ w ∈ tb, w.before _ s = true := fun w h => atoms_spec (ws := (.code yX7_init cX7_init 1 none :: tb)) B.pre w (List.mem_cons_of_mem _ h)
  have hown : s.vm.findClass RX7 = some m.cls := findClass_of_methodNamed B.named
  have hlocks := B.notSynchronized
  have hin : meth.name = "<init>" := (name_of_methodNamed B.named B.method).1
  subst hsz
  have hD := hD0.self (sz := s.heap.size)
  generalize hAe : va_A [(h0, .inr (7, [.int 0, .null, .null, .null, .null, .null, .null, .null, .int 0, .null, .null, .null]))] s.heap.size = A at hD ⊢
  have hA : ∀ q : Nat, s.heap.size ≤ q → A q := fun q h => by rw [← hAe]; exact Or.inr h
  have hS : va_S A s.heap s.heap [] := va_S.rf
  have hP : va_P (dC, dI) vwCl [(h0, .inr (7, [.int 0, .null, .null, .null, .null, .null, .null, .null, .int 0, .null, .null, .null]))] s.heap := hP
  have hl := lv_entry ([.ref h0]) (n := 1) (Nat.le_of_ble_eq_true rfl)
  rw [lg_entry_eq]
  generalize (lg_sl ([.ref h0]) ++ List.replicate (1 - (lg_sl ([.ref h0])).length) Slot.unset).toArray = ls at hl ⊢
  have hl : lv_has ls 1 [(0, .ref h0)] := hl
  refine lv_aload_n hx hb dX7_init_0 rfl (lv_at hl 0 rfl) ?_
  refine W.objInit hx hb hown (hts _ wd_340) (hts _ wd_30) (hts _ wd_obj) rfl (by rw [hml]; exact hl.1) rfl dX7_init_1 (Nat.le_of_ble_eq_true rfl) (Nat.le_of_ble_eq_true rfl) ?_
  refine W.eq (g2 := F0 m 4 ls []) rfl ?_
  refine lv_aload_n hx hb dX7_init_4 rfl (lv_at hl 0 rfl) ?_
  refine lv_sipush (v := 460) hx hb dX7_init_5 (by decide) ?_
  refine va_newa (D := (dC, dI)) (atype := .int) (a0 := (460, .inl (fun _ => 0))) hx hb (hts _ wd_121) rfl hK hP hD hS hA (fun _ => rfl) (by decide) (by decide) (by decide) (Nat.le_of_ble_eq_true rfl) (Nat.le_of_ble_eq_true rfl) dX7_init_8 (fun q1 k2 H hK hP hD hS => ?_)
  have hK : va_K (dC, dI) vwCl [(k2, .int)] s := hK
  have hP : va_P (dC, dI) vwCl [(h0, .inr (7, [.int 0, .null, .null, .null, .null, .null, .null, .null, .int 0, .null, .null, .null])), (q1, .inl (k2, 460, .inl (fun _ => 0)))] H := hP
  have hD : va_D A [(h0, .inr (7, [.int 0, .null, .null, .null, .null, .null, .null, .null, .int 0, .null, .null, .null])), (q1, .inl (k2, 460, .inl (fun _ => 0)))] := hD
  refine W.widen (k := 1) (n := 460) (Nat.le_of_ble_eq_true rfl) (Nat.le_of_ble_eq_true rfl) ?_
  refine va_putF (D := (dC, dI)) (ci := 7) (v := .ref q1) (ty := (tyX7 1)) (C := RX7) (T := TX7) (N := 12) hx hb hts in_X7 tyX7 tyX7_ok nmX7 hown hK hP hD hS 0 rfl rfl 1 (by decide) (hts _ wd_342) (fun _ h9 => h9) rfl hin rfl (tyX7_ok 1 (by decide)) rfl rfl (Nat.le_of_ble_eq_true rfl) dX7_init_10 (fun H locs hP hD hS => ?_)
  have hP : va_P (dC, dI) vwCl [(h0, .inr (7, [.int 0, .ref q1, .null, .null, .null, .null, .null, .null, .int 0, .null, .null, .null])), (q1, .inl (k2, 460, .inl (fun _ => 0)))] H := hP
  have hD : va_D A [(h0, .inr (7, [.int 0, .ref q1, .null, .null, .null, .null, .null, .null, .int 0, .null, .null, .null])), (q1, .inl (k2, 460, .inl (fun _ => 0)))] := hD
  have hP := hP.sub (ws' := [(h0, .inr (7, [.int 0, .ref q1, .null, .null, .null, .null, .null, .null, .int 0, .null, .null, .null]))]) [0] rfl
  have hD := hD.sub (ws' := [(h0, .inr (7, [.int 0, .ref q1, .null, .null, .null, .null, .null, .null, .int 0, .null, .null, .null]))]) [0] (by decide) rfl
  have hK := hK.sub (tys' := []) [] rfl
  refine lv_aload_n hx hb dX7_init_13 rfl (lv_at hl 0 rfl) ?_
  refine lv_sipush (v := 460) hx hb dX7_init_14 (by decide) ?_
  refine va_newa (D := (dC, dI)) (atype := .int) (a0 := (460, .inl (fun _ => 0))) hx hb (hts _ wd_121) rfl hK hP hD hS hA (fun _ => rfl) (by decide) (by decide) (by decide) (Nat.le_of_ble_eq_true rfl) (Nat.le_of_ble_eq_true rfl) dX7_init_17 (fun q3 k4 H hK hP hD hS => ?_)
  have hK : va_K (dC, dI) vwCl [(k4, .int)] s := hK
  have hP : va_P (dC, dI) vwCl [(h0, .inr (7, [.int 0, .ref q1, .null, .null, .null, .null, .null, .null, .int 0, .null, .null, .null])), (q3, .inl (k4, 460, .inl (fun _ => 0)))] H := hP
  have hD : va_D A [(h0, .inr (7, [.int 0, .ref q1, .null, .null, .null, .null, .null, .null, .int 0, .null, .null, .null])), (q3, .inl (k4, 460, .inl (fun _ => 0)))] := hD
  refine W.widen (k := 2) (n := 920) (Nat.le_of_ble_eq_true rfl) (Nat.le_of_ble_eq_true rfl) ?_
  refine va_putF (D := (dC, dI)) (ci := 7) (v := .ref q3) (ty := (tyX7 2)) (C := RX7) (T := TX7) (N := 12) hx hb hts in_X7 tyX7 tyX7_ok nmX7 hown hK hP hD hS 0 rfl rfl 2 (by decide) (hts _ wd_345) (fun _ h9 => h9) rfl hin rfl (tyX7_ok 2 (by decide)) rfl rfl (Nat.le_of_ble_eq_true rfl) dX7_init_19 (fun H locs hP hD hS => ?_)
  have hP : va_P (dC, dI) vwCl [(h0, .inr (7, [.int 0, .ref q1, .ref q3, .null, .null, .null, .null, .null, .int 0, .null, .null, .null])), (q3, .inl (k4, 460, .inl (fun _ => 0)))] H := hP
  have hD : va_D A [(h0, .inr (7, [.int 0, .ref q1, .ref q3, .null, .null, .null, .null, .null, .int 0, .null, .null, .null])), (q3, .inl (k4, 460, .inl (fun _ => 0)))] := hD
  have hP := hP.sub (ws' := [(h0, .inr (7, [.int 0, .ref q1, .ref q3, .null, .null, .null, .null, .null, .int 0, .null, .null, .null]))]) [0] rfl
  have hD := hD.sub (ws' := [(h0, .inr (7, [.int 0, .ref q1, .ref q3, .null, .null, .null, .null, .null, .int 0, .null, .null, .null]))]) [0] (by decide) rfl
  have hK := hK.sub (tys' := []) [] rfl
  refine lv_aload_n hx hb dX7_init_22 rfl (lv_at hl 0 rfl) ?_
  refine lv_sipush (v := 460) hx hb dX7_init_23 (by decide) ?_
  refine va_newa (D := (dC, dI)) (atype := .int) (a0 := (460, .inl (fun _ => 0))) hx hb (hts _ wd_121) rfl hK hP hD hS hA (fun _ => rfl) (by decide) (by decide) (by decide) (Nat.le_of_ble_eq_true rfl) (Nat.le_of_ble_eq_true rfl) dX7_init_26 (fun q5 k6 H hK hP hD hS => ?_)
  have hK : va_K (dC, dI) vwCl [(k6, .int)] s := hK
  have hP : va_P (dC, dI) vwCl [(h0, .inr (7, [.int 0, .ref q1, .ref q3, .null, .null, .null, .null, .null, .int 0, .null, .null, .null])), (q5, .inl (k6, 460, .inl (fun _ => 0)))] H := hP
  have hD : va_D A [(h0, .inr (7, [.int 0, .ref q1, .ref q3, .null, .null, .null, .null, .null, .int 0, .null, .null, .null])), (q5, .inl (k6, 460, .inl (fun _ => 0)))] := hD
  refine W.widen (k := 3) (n := 1380) (Nat.le_of_ble_eq_true rfl) (Nat.le_of_ble_eq_true rfl) ?_
  refine va_putF (D := (dC, dI)) (ci := 7) (v := .ref q5) (ty := (tyX7 3)) (C := RX7) (T := TX7) (N := 12) hx hb hts in_X7 tyX7 tyX7_ok nmX7 hown hK hP hD hS 0 rfl rfl 3 (by decide) (hts _ wd_347) (fun _ h9 => h9) rfl hin rfl (tyX7_ok 3 (by decide)) rfl rfl (Nat.le_of_ble_eq_true rfl) dX7_init_28 (fun H locs hP hD hS => ?_)
  have hP : va_P (dC, dI) vwCl [(h0, .inr (7, [.int 0, .ref q1, .ref q3, .ref q5, .null, .null, .null, .null, .int 0, .null, .null, .null])), (q5, .inl (k6, 460, .inl (fun _ => 0)))] H := hP
  have hD : va_D A [(h0, .inr (7, [.int 0, .ref q1, .ref q3, .ref q5, .null, .null, .null, .null, .int 0, .null, .null, .null])), (q5, .inl (k6, 460, .inl (fun _ => 0)))] := hD
  have hP := hP.sub (ws' := [(h0, .inr (7, [.int 0, .ref q1, .ref q3, .ref q5, .null, .null, .null, .null, .int 0, .null, .null, .null]))]) [0] rfl
  have hD := hD.sub (ws' := [(h0, .inr (7, [.int 0, .ref q1, .ref q3, .ref q5, .null, .null, .null, .null, .int 0, .null, .null, .null]))]) [0] (by decide) rfl
  have hK := hK.sub (tys' := []) [] rfl
  refine lv_aload_n hx hb dX7_init_31 rfl (lv_at hl 0 rfl) ?_
  refine lv_sipush (v := 460) hx hb dX7_init_32 (by decide) ?_
  refine va_newa (D := (dC, dI)) (atype := .int) (a0 := (460, .inl (fun _ => 0))) hx hb (hts _ wd_121) rfl hK hP hD hS hA (fun _ => rfl) (by decide) (by decide) (by decide) (Nat.le_of_ble_eq_true rfl) (Nat.le_of_ble_eq_true rfl) dX7_init_35 (fun q7 k8 H hK hP hD hS => ?_)
  have hK : va_K (dC, dI) vwCl [(k8, .int)] s := hK
  have hP : va_P (dC, dI) vwCl [(h0, .inr (7, [.int 0, .ref q1, .ref q3, .ref q5, .null, .null, .null, .null, .int 0, .null, .null, .null])), (q7, .inl (k8, 460, .inl (fun _ => 0)))] H := hP
  have hD : va_D A [(h0, .inr (7, [.int 0, .ref q1, .ref q3, .ref q5, .null, .null, .null, .null, .int 0, .null, .null, .null])), (q7, .inl (k8, 460, .inl (fun _ => 0)))] := hD
  refine W.widen (k := 4) (n := 1840) (Nat.le_of_ble_eq_true rfl) (Nat.le_of_ble_eq_true rfl) ?_
  refine va_putF (D := (dC, dI)) (ci := 7) (v := .ref q7) (ty := (tyX7 4)) (C := RX7) (T := TX7) (N := 12) hx hb hts in_X7 tyX7 tyX7_ok nmX7 hown hK hP hD hS 0 rfl rfl 4 (by decide) (hts _ wd_349) (fun _ h9 => h9) rfl hin rfl (tyX7_ok 4 (by decide)) rfl rfl (Nat.le_of_ble_eq_true rfl) dX7_init_37 (fun H locs hP hD hS => ?_)
  have hP : va_P (dC, dI) vwCl [(h0, .inr (7, [.int 0, .ref q1, .ref q3, .ref q5, .ref q7, .null, .null, .null, .int 0, .null, .null, .null])), (q7, .inl (k8, 460, .inl (fun _ => 0)))] H := hP
  have hD : va_D A [(h0, .inr (7, [.int 0, .ref q1, .ref q3, .ref q5, .ref q7, .null, .null, .null, .int 0, .null, .null, .null])), (q7, .inl (k8, 460, .inl (fun _ => 0)))] := hD
  have hP := hP.sub (ws' := [(h0, .inr (7, [.int 0, .ref q1, .ref q3, .ref q5, .ref q7, .null, .null, .null, .int 0, .null, .null, .null]))]) [0] rfl
  have hD := hD.sub (ws' := [(h0, .inr (7, [.int 0, .ref q1, .ref q3, .ref q5, .ref q7, .null, .null, .null, .int 0, .null, .null, .null]))]) [0] (by decide) rfl
  have hK := hK.sub (tys' := []) [] rfl
  refine lv_aload_n hx hb dX7_init_40 rfl (lv_at hl 0 rfl) ?_
  refine lv_sipush (v := 460) hx hb dX7_init_41 (by decide) ?_
  refine va_newa (D := (dC, dI)) (atype := .int) (a0 := (460, .inl (fun _ => 0))) hx hb (hts _ wd_121) rfl hK hP hD hS hA (fun _ => rfl) (by decide) (by decide) (by decide) (Nat.le_of_ble_eq_true rfl) (Nat.le_of_ble_eq_true rfl) dX7_init_44 (fun q9 k10 H hK hP hD hS => ?_)
  have hK : va_K (dC, dI) vwCl [(k10, .int)] s := hK
  have hP : va_P (dC, dI) vwCl [(h0, .inr (7, [.int 0, .ref q1, .ref q3, .ref q5, .ref q7, .null, .null, .null, .int 0, .null, .null, .null])), (q9, .inl (k10, 460, .inl (fun _ => 0)))] H := hP
  have hD : va_D A [(h0, .inr (7, [.int 0, .ref q1, .ref q3, .ref q5, .ref q7, .null, .null, .null, .int 0, .null, .null, .null])), (q9, .inl (k10, 460, .inl (fun _ => 0)))] := hD
  refine W.widen (k := 5) (n := 2300) (Nat.le_of_ble_eq_true rfl) (Nat.le_of_ble_eq_true rfl) ?_
  refine va_putF (D := (dC, dI)) (ci := 7) (v := .ref q9) (ty := (tyX7 5)) (C := RX7) (T := TX7) (N := 12) hx hb hts in_X7 tyX7 tyX7_ok nmX7 hown hK hP hD hS 0 rfl rfl 5 (by decide) (hts _ wd_352) (fun _ h9 => h9) rfl hin rfl (tyX7_ok 5 (by decide)) rfl rfl (Nat.le_of_ble_eq_true rfl) dX7_init_46 (fun H locs hP hD hS => ?_)
  have hP : va_P (dC, dI) vwCl [(h0, .inr (7, [.int 0, .ref q1, .ref q3, .ref q5, .ref q7, .ref q9, .null, .null, .int 0, .null, .null, .null])), (q9, .inl (k10, 460, .inl (fun _ => 0)))] H := hP
  have hD : va_D A [(h0, .inr (7, [.int 0, .ref q1, .ref q3, .ref q5, .ref q7, .ref q9, .null, .null, .int 0, .null, .null, .null])), (q9, .inl (k10, 460, .inl (fun _ => 0)))] := hD
  have hP := hP.sub (ws' := [(h0, .inr (7, [.int 0, .ref q1, .ref q3, .ref q5, .ref q7, .ref q9, .null, .null, .int 0, .null, .null, .null]))]) [0] rfl
  have hD := hD.sub (ws' := [(h0, .inr (7, [.int 0, .ref q1, .ref q3, .ref q5, .ref q7, .ref q9, .null, .null, .int 0, .null, .null, .null]))]) [0] (by decide) rfl
  have hK := hK.sub (tys' := []) [] rfl
  refine lv_aload_n hx hb dX7_init_49 rfl (lv_at hl 0 rfl) ?_
  refine lv_sipush (v := 460) hx hb dX7_init_50 (by decide) ?_
  refine va_newa (D := (dC, dI)) (atype := .int) (a0 := (460, .inl (fun _ => 0))) hx hb (hts _ wd_121) rfl hK hP hD hS hA (fun _ => rfl) (by decide) (by decide) (by decide) (Nat.le_of_ble_eq_true rfl) (Nat.le_of_ble_eq_true rfl) dX7_init_53 (fun q11 k12 H hK hP hD hS => ?_)
  have hK : va_K (dC, dI) vwCl [(k12, .int)] s := hK
  have hP : va_P (dC, dI) vwCl [(h0, .inr (7, [.int 0, .ref q1, .ref q3, .ref q5, .ref q7, .ref q9, .null, .null, .int 0, .null, .null, .null])), (q11, .inl (k12, 460, .inl (fun _ => 0)))] H := hP
  have hD : va_D A [(h0, .inr (7, [.int 0, .ref q1, .ref q3, .ref q5, .ref q7, .ref q9, .null, .null, .int 0, .null, .null, .null])), (q11, .inl (k12, 460, .inl (fun _ => 0)))] := hD
  refine W.widen (k := 6) (n := 2760) (Nat.le_of_ble_eq_true rfl) (Nat.le_of_ble_eq_true rfl) ?_
  refine va_putF (D := (dC, dI)) (ci := 7) (v := .ref q11) (ty := (tyX7 6)) (C := RX7) (T := TX7) (N := 12) hx hb hts in_X7 tyX7 tyX7_ok nmX7 hown hK hP hD hS 0 rfl rfl 6 (by decide) (hts _ wd_356) (fun _ h9 => h9) rfl hin rfl (tyX7_ok 6 (by decide)) rfl rfl (Nat.le_of_ble_eq_true rfl) dX7_init_55 (fun H locs hP hD hS => ?_)
  have hP : va_P (dC, dI) vwCl [(h0, .inr (7, [.int 0, .ref q1, .ref q3, .ref q5, .ref q7, .ref q9, .ref q11, .null, .int 0, .null, .null, .null])), (q11, .inl (k12, 460, .inl (fun _ => 0)))] H := hP
  have hD : va_D A [(h0, .inr (7, [.int 0, .ref q1, .ref q3, .ref q5, .ref q7, .ref q9, .ref q11, .null, .int 0, .null, .null, .null])), (q11, .inl (k12, 460, .inl (fun _ => 0)))] := hD
  have hP := hP.sub (ws' := [(h0, .inr (7, [.int 0, .ref q1, .ref q3, .ref q5, .ref q7, .ref q9, .ref q11, .null, .int 0, .null, .null, .null]))]) [0] rfl
  have hD := hD.sub (ws' := [(h0, .inr (7, [.int 0, .ref q1, .ref q3, .ref q5, .ref q7, .ref q9, .ref q11, .null, .int 0, .null, .null, .null]))]) [0] (by decide) rfl
  have hK := hK.sub (tys' := []) [] rfl
  refine lv_aload_n hx hb dX7_init_58 rfl (lv_at hl 0 rfl) ?_
  refine lv_sipush (v := 460) hx hb dX7_init_59 (by decide) ?_
  refine va_newa (D := (dC, dI)) (atype := .int) (a0 := (460, .inl (fun _ => 0))) hx hb (hts _ wd_121) rfl hK hP hD hS hA (fun _ => rfl) (by decide) (by decide) (by decide) (Nat.le_of_ble_eq_true rfl) (Nat.le_of_ble_eq_true rfl) dX7_init_62 (fun q13 k14 H hK hP hD hS => ?_)
  have hK : va_K (dC, dI) vwCl [(k14, .int)] s := hK
  have hP : va_P (dC, dI) vwCl [(h0, .inr (7, [.int 0, .ref q1, .ref q3, .ref q5, .ref q7, .ref q9, .ref q11, .null, .int 0, .null, .null, .null])), (q13, .inl (k14, 460, .inl (fun _ => 0)))] H := hP
  have hD : va_D A [(h0, .inr (7, [.int 0, .ref q1, .ref q3, .ref q5, .ref q7, .ref q9, .ref q11, .null, .int 0, .null, .null, .null])), (q13, .inl (k14, 460, .inl (fun _ => 0)))] := hD
  refine W.widen (k := 7) (n := 3220) (Nat.le_of_ble_eq_true rfl) (Nat.le_of_ble_eq_true rfl) ?_
  refine va_putF (D := (dC, dI)) (ci := 7) (v := .ref q13) (ty := (tyX7 7)) (C := RX7) (T := TX7) (N := 12) hx hb hts in_X7 tyX7 tyX7_ok nmX7 hown hK hP hD hS 0 rfl rfl 7 (by decide) (hts _ wd_360) (fun _ h9 => h9) rfl hin rfl (tyX7_ok 7 (by decide)) rfl rfl (Nat.le_of_ble_eq_true rfl) dX7_init_64 (fun H locs hP hD hS => ?_)
  have hP : va_P (dC, dI) vwCl [(h0, .inr (7, [.int 0, .ref q1, .ref q3, .ref q5, .ref q7, .ref q9, .ref q11, .ref q13, .int 0, .null, .null, .null])), (q13, .inl (k14, 460, .inl (fun _ => 0)))] H := hP
  have hD : va_D A [(h0, .inr (7, [.int 0, .ref q1, .ref q3, .ref q5, .ref q7, .ref q9, .ref q11, .ref q13, .int 0, .null, .null, .null])), (q13, .inl (k14, 460, .inl (fun _ => 0)))] := hD
  have hP := hP.sub (ws' := [(h0, .inr (7, [.int 0, .ref q1, .ref q3, .ref q5, .ref q7, .ref q9, .ref q11, .ref q13, .int 0, .null, .null, .null]))]) [0] rfl
  have hD := hD.sub (ws' := [(h0, .inr (7, [.int 0, .ref q1, .ref q3, .ref q5, .ref q7, .ref q9, .ref q11, .ref q13, .int 0, .null, .null, .null]))]) [0] (by decide) rfl
  have hK := hK.sub (tys' := []) [] rfl
  refine lv_aload_n hx hb dX7_init_67 rfl (lv_at hl 0 rfl) ?_
  refine lv_sipush (v := 460) hx hb dX7_init_68 (by decide) ?_
  refine va_newa (D := (dC, dI)) (atype := .int) (a0 := (460, .inl (fun _ => 0))) hx hb (hts _ wd_121) rfl hK hP hD hS hA (fun _ => rfl) (by decide) (by decide) (by decide) (Nat.le_of_ble_eq_true rfl) (Nat.le_of_ble_eq_true rfl) dX7_init_71 (fun q15 k16 H hK hP hD hS => ?_)
  have hK : va_K (dC, dI) vwCl [(k16, .int)] s := hK
  have hP : va_P (dC, dI) vwCl [(h0, .inr (7, [.int 0, .ref q1, .ref q3, .ref q5, .ref q7, .ref q9, .ref q11, .ref q13, .int 0, .null, .null, .null])), (q15, .inl (k16, 460, .inl (fun _ => 0)))] H := hP
  have hD : va_D A [(h0, .inr (7, [.int 0, .ref q1, .ref q3, .ref q5, .ref q7, .ref q9, .ref q11, .ref q13, .int 0, .null, .null, .null])), (q15, .inl (k16, 460, .inl (fun _ => 0)))] := hD
  refine W.widen (k := 8) (n := 3680) (Nat.le_of_ble_eq_true rfl) (Nat.le_of_ble_eq_true rfl) ?_
  refine va_putF (D := (dC, dI)) (ci := 7) (v := .ref q15) (ty := (tyX7 9)) (C := RX7) (T := TX7) (N := 12) hx hb hts in_X7 tyX7 tyX7_ok nmX7 hown hK hP hD hS 0 rfl rfl 9 (by decide) (hts _ wd_362) (fun _ h9 => h9) rfl hin rfl (tyX7_ok 9 (by decide)) rfl rfl (Nat.le_of_ble_eq_true rfl) dX7_init_73 (fun H locs hP hD hS => ?_)
  have hP : va_P (dC, dI) vwCl [(h0, .inr (7, [.int 0, .ref q1, .ref q3, .ref q5, .ref q7, .ref q9, .ref q11, .ref q13, .int 0, .ref q15, .null, .null])), (q15, .inl (k16, 460, .inl (fun _ => 0)))] H := hP
  have hD : va_D A [(h0, .inr (7, [.int 0, .ref q1, .ref q3, .ref q5, .ref q7, .ref q9, .ref q11, .ref q13, .int 0, .ref q15, .null, .null])), (q15, .inl (k16, 460, .inl (fun _ => 0)))] := hD
  have hP := hP.sub (ws' := [(h0, .inr (7, [.int 0, .ref q1, .ref q3, .ref q5, .ref q7, .ref q9, .ref q11, .ref q13, .int 0, .ref q15, .null, .null]))]) [0] rfl
  have hD := hD.sub (ws' := [(h0, .inr (7, [.int 0, .ref q1, .ref q3, .ref q5, .ref q7, .ref q9, .ref q11, .ref q13, .int 0, .ref q15, .null, .null]))]) [0] (by decide) rfl
  have hK := hK.sub (tys' := []) [] rfl
  refine lv_aload_n hx hb dX7_init_76 rfl (lv_at hl 0 rfl) ?_
  refine lv_sipush (v := 460) hx hb dX7_init_77 (by decide) ?_
  refine va_newa (D := (dC, dI)) (atype := .int) (a0 := (460, .inl (fun _ => 0))) hx hb (hts _ wd_121) rfl hK hP hD hS hA (fun _ => rfl) (by decide) (by decide) (by decide) (Nat.le_of_ble_eq_true rfl) (Nat.le_of_ble_eq_true rfl) dX7_init_80 (fun q17 k18 H hK hP hD hS => ?_)
  have hK : va_K (dC, dI) vwCl [(k18, .int)] s := hK
  have hP : va_P (dC, dI) vwCl [(h0, .inr (7, [.int 0, .ref q1, .ref q3, .ref q5, .ref q7, .ref q9, .ref q11, .ref q13, .int 0, .ref q15, .null, .null])), (q17, .inl (k18, 460, .inl (fun _ => 0)))] H := hP
  have hD : va_D A [(h0, .inr (7, [.int 0, .ref q1, .ref q3, .ref q5, .ref q7, .ref q9, .ref q11, .ref q13, .int 0, .ref q15, .null, .null])), (q17, .inl (k18, 460, .inl (fun _ => 0)))] := hD
  refine W.widen (k := 9) (n := 4140) (Nat.le_of_ble_eq_true rfl) (Nat.le_of_ble_eq_true rfl) ?_
  refine va_putF (D := (dC, dI)) (ci := 7) (v := .ref q17) (ty := (tyX7 10)) (C := RX7) (T := TX7) (N := 12) hx hb hts in_X7 tyX7 tyX7_ok nmX7 hown hK hP hD hS 0 rfl rfl 10 (by decide) (hts _ wd_365) (fun _ h9 => h9) rfl hin rfl (tyX7_ok 10 (by decide)) rfl rfl (Nat.le_of_ble_eq_true rfl) dX7_init_82 (fun H locs hP hD hS => ?_)
  have hP : va_P (dC, dI) vwCl [(h0, .inr (7, [.int 0, .ref q1, .ref q3, .ref q5, .ref q7, .ref q9, .ref q11, .ref q13, .int 0, .ref q15, .ref q17, .null])), (q17, .inl (k18, 460, .inl (fun _ => 0)))] H := hP
  have hD : va_D A [(h0, .inr (7, [.int 0, .ref q1, .ref q3, .ref q5, .ref q7, .ref q9, .ref q11, .ref q13, .int 0, .ref q15, .ref q17, .null])), (q17, .inl (k18, 460, .inl (fun _ => 0)))] := hD
  have hP := hP.sub (ws' := [(h0, .inr (7, [.int 0, .ref q1, .ref q3, .ref q5, .ref q7, .ref q9, .ref q11, .ref q13, .int 0, .ref q15, .ref q17, .null]))]) [0] rfl
  have hD := hD.sub (ws' := [(h0, .inr (7, [.int 0, .ref q1, .ref q3, .ref q5, .ref q7, .ref q9, .ref q11, .ref q13, .int 0, .ref q15, .ref q17, .null]))]) [0] (by decide) rfl
  have hK := hK.sub (tys' := []) [] rfl
  refine lv_aload_n hx hb dX7_init_85 rfl (lv_at hl 0 rfl) ?_
  refine lv_sipush (v := 460) hx hb dX7_init_86 (by decide) ?_
  refine va_newa (D := (dC, dI)) (atype := .int) (a0 := (460, .inl (fun _ => 0))) hx hb (hts _ wd_121) rfl hK hP hD hS hA (fun _ => rfl) (by decide) (by decide) (by decide) (Nat.le_of_ble_eq_true rfl) (Nat.le_of_ble_eq_true rfl) dX7_init_89 (fun q19 k20 H hK hP hD hS => ?_)
  have hK : va_K (dC, dI) vwCl [(k20, .int)] s := hK
  have hP : va_P (dC, dI) vwCl [(h0, .inr (7, [.int 0, .ref q1, .ref q3, .ref q5, .ref q7, .ref q9, .ref q11, .ref q13, .int 0, .ref q15, .ref q17, .null])), (q19, .inl (k20, 460, .inl (fun _ => 0)))] H := hP
  have hD : va_D A [(h0, .inr (7, [.int 0, .ref q1, .ref q3, .ref q5, .ref q7, .ref q9, .ref q11, .ref q13, .int 0, .ref q15, .ref q17, .null])), (q19, .inl (k20, 460, .inl (fun _ => 0)))] := hD
  refine W.widen (k := 10) (n := 4600) (Nat.le_of_ble_eq_true rfl) (Nat.le_of_ble_eq_true rfl) ?_
  refine va_putF (D := (dC, dI)) (ci := 7) (v := .ref q19) (ty := (tyX7 11)) (C := RX7) (T := TX7) (N := 12) hx hb hts in_X7 tyX7 tyX7_ok nmX7 hown hK hP hD hS 0 rfl rfl 11 (by decide) (hts _ wd_367) (fun _ h9 => h9) rfl hin rfl (tyX7_ok 11 (by decide)) rfl rfl (Nat.le_of_ble_eq_true rfl) dX7_init_91 (fun H locs hP hD hS => ?_)
  have hP : va_P (dC, dI) vwCl [(h0, .inr (7, [.int 0, .ref q1, .ref q3, .ref q5, .ref q7, .ref q9, .ref q11, .ref q13, .int 0, .ref q15, .ref q17, .ref q19])), (q19, .inl (k20, 460, .inl (fun _ => 0)))] H := hP
  have hD : va_D A [(h0, .inr (7, [.int 0, .ref q1, .ref q3, .ref q5, .ref q7, .ref q9, .ref q11, .ref q13, .int 0, .ref q15, .ref q17, .ref q19])), (q19, .inl (k20, 460, .inl (fun _ => 0)))] := hD
  have hP := hP.sub (ws' := [(h0, .inr (7, [.int 0, .ref q1, .ref q3, .ref q5, .ref q7, .ref q9, .ref q11, .ref q13, .int 0, .ref q15, .ref q17, .ref q19]))]) [0] rfl
  have hD := hD.sub (ws' := [(h0, .inr (7, [.int 0, .ref q1, .ref q3, .ref q5, .ref q7, .ref q9, .ref q11, .ref q13, .int 0, .ref q15, .ref q17, .ref q19]))]) [0] (by decide) rfl
  have hK := hK.sub (tys' := []) [] rfl
  have hP9 := hP.sub (ws' := [(h0, .inr (7, [.int 0, .ref q1, .ref q3, .ref q5, .ref q7, .ref q9, .ref q11, .ref q13, .int 0, .ref q15, .ref q17, .ref q19]))]) [0] rfl
  have hD9 := hD.sub (ws' := [(h0, .inr (7, [.int 0, .ref q1, .ref q3, .ref q5, .ref q7, .ref q9, .ref q11, .ref q13, .int 0, .ref q15, .ref q17, .ref q19]))]) [0] (by decide) rfl
  have hK9 := hK.sub (tys' := []) [] rfl
  refine W.widen (k := 10) (n := 4600) (Nat.le_of_ble_eq_true rfl) (Nat.le_of_ble_eq_true rfl) ?_
  exact W.vret hx hb hr (fun t ht hW => ⟨⟨(), rfl, trivial, (fun k => [q1, q3, q5, q7, q9, q11, q13, q15, q17, q19].getD k 0), by rw [ht]; exact hP9, va_K.moved hW.alike hK9, hD9⟩, hS.F ht⟩) hS.2.2 dX7_init_94
set_option maxHeartbeats 4000000 in
set_option maxRecDepth 100000 in
theorem ct_X8_init (l : Launch) (dC : Nat → ClassId) (dI : Nat → Nat → Nat) (h0 : Nat) (sz : Nat) : Met l yX8_init (.code yX8_init cX8_init 1 none :: tb) ({ frames := 1, cells := 2, slots := 16128, locals := 12 }) (va_Pc [.ref h0] (fun U => U.heap.size = sz ∧ va_P (dC, dI) vwCl [(h0, .inr (8, [.null, .null, .int 0, .int 0, .null]))] U.heap ∧ va_K (dC, dI) vwCl [] U ∧ va_D (fun _ => True) [(h0, .inr (8, [.null, .null, .int 0, .int 0, .null]))])) (va_Qv (fun (_ : Unit) => True) (fun (_ : Unit) t => ∃ (q : Nat → Nat), va_P (dC, dI) vwCl [(h0, .inr (8, [.ref (q 0), .ref (q 1), .int 0, .int 0, .null]))] t.heap ∧ va_K (dC, dI) vwCl [] t ∧ va_D (va_A [(h0, .inr (8, [.null, .null, .int 0, .int 0, .null]))] sz) [(h0, .inr (8, [.ref (q 0), .ref (q 1), .int 0, .int 0, .null]))]) (va_A [(h0, .inr (8, [.null, .null, .int 0, .int 0, .null]))] sz)) 2 16128 (va_A [(h0, .inr (8, [.null, .null, .int 0, .int 0, .null]))] sz) := by
  refine Met.ofW (cc := cX8_init) (maxL := 1) (ret := none) (by decide) rfl ?_
  intro p e s m args below meth c s₁ B hml hv
  obtain ⟨rfl, hsz, hP, hK, hD0⟩ := hv
  have hx := B.exec
  have hb := B.bytes
  have hr := B.returns
  have hts : ∀ w ∈ tb, w.before _ s = true := fun w h => atoms_spec (ws := (.code yX8_init cX8_init 1 none :: tb)) B.pre w (List.mem_cons_of_mem _ h)
  have hown : s.vm.findClass RX8 = some m.cls := findClass_of_methodNamed B.named
  have hlocks := B.notSynchronized
  have hin : meth.name = "<init>" := (name_of_methodNamed B.named B.method).1
  subst hsz
  have hD := hD0.self (sz := s.heap.size)
  generalize hAe : va_A [(h0, .inr (8, [.null, .null, .int 0, .int 0, .null]))] s.heap.size = A at hD ⊢
  have hA : ∀ q : Nat, s.heap.size ≤ q → A q := fun q h => by rw [← hAe]; exact Or.inr h
  have hS : va_S A s.heap s.heap [] := va_S.rf
  have hP : va_P (dC, dI) vwCl [(h0, .inr (8, [.null, .null, .int 0, .int 0, .null]))] s.heap := hP
  have hl := lv_entry ([.ref h0]) (n := 1) (Nat.le_of_ble_eq_true rfl)
  rw [lg_entry_eq]
  generalize (lg_sl ([.ref h0]) ++ List.replicate (1 - (lg_sl ([.ref h0])).length) Slot.unset).toArray = ls at hl ⊢
  have hl : lv_has ls 1 [(0, .ref h0)] := hl
  refine lv_aload_n hx hb dX8_init_0 rfl (lv_at hl 0 rfl) ?_
  refine W.objInit hx hb hown (hts _ wd_176) (hts _ wd_30) (hts _ wd_obj) rfl (by rw [hml]; exact hl.1) rfl dX8_init_1 (Nat.le_of_ble_eq_true rfl) (Nat.le_of_ble_eq_true rfl) ?_
  refine W.eq (g2 := F0 m 4 ls []) rfl ?_
  refine lv_aload_n hx hb dX8_init_4 rfl (lv_at hl 0 rfl) ?_
  refine lv_sipush (v := 8064) hx hb dX8_init_5 (by decide) ?_
  refine va_newa (D := (dC, dI)) (atype := .int) (a0 := (8064, .inl (fun _ => 0))) hx hb (hts _ wd_121) rfl hK hP hD hS hA (fun _ => rfl) (by decide) (by decide) (by decide) (Nat.le_of_ble_eq_true rfl) (Nat.le_of_ble_eq_true rfl) dX8_init_8 (fun q1 k2 H hK hP hD hS => ?_)
  have hK : va_K (dC, dI) vwCl [(k2, .int)] s := hK
  have hP : va_P (dC, dI) vwCl [(h0, .inr (8, [.null, .null, .int 0, .int 0, .null])), (q1, .inl (k2, 8064, .inl (fun _ => 0)))] H := hP
  have hD : va_D A [(h0, .inr (8, [.null, .null, .int 0, .int 0, .null])), (q1, .inl (k2, 8064, .inl (fun _ => 0)))] := hD
  refine W.widen (k := 1) (n := 8064) (Nat.le_of_ble_eq_true rfl) (Nat.le_of_ble_eq_true rfl) ?_
  refine va_putF (D := (dC, dI)) (ci := 8) (v := .ref q1) (ty := (tyX8 0)) (C := RX8) (T := TX8) (N := 5) hx hb hts in_X8 tyX8 tyX8_ok nmX8 hown hK hP hD hS 0 rfl rfl 0 (by decide) (hts _ wd_177) (fun _ h9 => h9) rfl hin rfl (tyX8_ok 0 (by decide)) rfl rfl (Nat.le_of_ble_eq_true rfl) dX8_init_10 (fun H locs hP hD hS => ?_)
  have hP : va_P (dC, dI) vwCl [(h0, .inr (8, [.ref q1, .null, .int 0, .int 0, .null])), (q1, .inl (k2, 8064, .inl (fun _ => 0)))] H := hP
  have hD : va_D A [(h0, .inr (8, [.ref q1, .null, .int 0, .int 0, .null])), (q1, .inl (k2, 8064, .inl (fun _ => 0)))] := hD
  have hP := hP.sub (ws' := [(h0, .inr (8, [.ref q1, .null, .int 0, .int 0, .null]))]) [0] rfl
  have hD := hD.sub (ws' := [(h0, .inr (8, [.ref q1, .null, .int 0, .int 0, .null]))]) [0] (by decide) rfl
  have hK := hK.sub (tys' := []) [] rfl
  refine lv_aload_n hx hb dX8_init_13 rfl (lv_at hl 0 rfl) ?_
  refine lv_sipush (v := 8064) hx hb dX8_init_14 (by decide) ?_
  refine va_newa (D := (dC, dI)) (atype := .int) (a0 := (8064, .inl (fun _ => 0))) hx hb (hts _ wd_121) rfl hK hP hD hS hA (fun _ => rfl) (by decide) (by decide) (by decide) (Nat.le_of_ble_eq_true rfl) (Nat.le_of_ble_eq_true rfl) dX8_init_17 (fun q3 k4 H hK hP hD hS => ?_)
  have hK : va_K (dC, dI) vwCl [(k4, .int)] s := hK
  have hP : va_P (dC, dI) vwCl [(h0, .inr (8, [.ref q1, .null, .int 0, .int 0, .null])), (q3, .inl (k4, 8064, .inl (fun _ => 0)))] H := hP
  have hD : va_D A [(h0, .inr (8, [.ref q1, .null, .int 0, .int 0, .null])), (q3, .inl (k4, 8064, .inl (fun _ => 0)))] := hD
  refine W.widen (k := 2) (n := 16128) (Nat.le_of_ble_eq_true rfl) (Nat.le_of_ble_eq_true rfl) ?_
  refine va_putF (D := (dC, dI)) (ci := 8) (v := .ref q3) (ty := (tyX8 1)) (C := RX8) (T := TX8) (N := 5) hx hb hts in_X8 tyX8 tyX8_ok nmX8 hown hK hP hD hS 0 rfl rfl 1 (by decide) (hts _ wd_178) (fun _ h9 => h9) rfl hin rfl (tyX8_ok 1 (by decide)) rfl rfl (Nat.le_of_ble_eq_true rfl) dX8_init_19 (fun H locs hP hD hS => ?_)
  have hP : va_P (dC, dI) vwCl [(h0, .inr (8, [.ref q1, .ref q3, .int 0, .int 0, .null])), (q3, .inl (k4, 8064, .inl (fun _ => 0)))] H := hP
  have hD : va_D A [(h0, .inr (8, [.ref q1, .ref q3, .int 0, .int 0, .null])), (q3, .inl (k4, 8064, .inl (fun _ => 0)))] := hD
  have hP := hP.sub (ws' := [(h0, .inr (8, [.ref q1, .ref q3, .int 0, .int 0, .null]))]) [0] rfl
  have hD := hD.sub (ws' := [(h0, .inr (8, [.ref q1, .ref q3, .int 0, .int 0, .null]))]) [0] (by decide) rfl
  have hK := hK.sub (tys' := []) [] rfl
  have hP9 := hP.sub (ws' := [(h0, .inr (8, [.ref q1, .ref q3, .int 0, .int 0, .null]))]) [0] rfl
  have hD9 := hD.sub (ws' := [(h0, .inr (8, [.ref q1, .ref q3, .int 0, .int 0, .null]))]) [0] (by decide) rfl
  have hK9 := hK.sub (tys' := []) [] rfl
  refine W.widen (k := 2) (n := 16128) (Nat.le_of_ble_eq_true rfl) (Nat.le_of_ble_eq_true rfl) ?_
  exact W.vret hx hb hr (fun t ht hW => ⟨⟨(), rfl, trivial, (fun k => [q1, q3].getD k 0), by rw [ht]; exact hP9, va_K.moved hW.alike hK9, hD9⟩, hS.F ht⟩) hS.2.2 dX8_init_22
set_option maxHeartbeats 4000000 in
set_option maxRecDepth 100000 in
theorem ct_X3_init (l : Launch) (dC : Nat → ClassId) (dI : Nat → Nat → Nat) (h0 : Nat) (h1 : Nat) (sz : Nat) : Met l yX3_init (.code yX3_init cX3_init 2 none :: tb) ({ frames := 1, cells := 4, slots := 1840, locals := 12 }) (va_Pc [.ref h0, .ref h1] (fun U => U.heap.size = sz ∧ va_P (dC, dI) vwCl [(h0, .inr (3, [.null, .null, .null, .int 0, .int 0, .int 0, .int 0, .int 0, .int 0, .null, .null, .null, .null]))] U.heap ∧ va_K (dC, dI) vwCl [] U ∧ va_D (fun _ => True) [(h0, .inr (3, [.null, .null, .null, .int 0, .int 0, .int 0, .int 0, .int 0, .int 0, .null, .null, .null, .null]))])) (va_Qv (fun (_ : Unit) => True) (fun (_ : Unit) t => ∃ (q : Nat → Nat), va_P (dC, dI) vwCl [(h0, .inr (3, [.ref h1, .null, .null, .int 0, .int 0, .int 0, .int 0, .int 0, .int 0, .ref (q 0), .ref (q 1), .ref (q 2), .ref (q 3)]))] t.heap ∧ va_K (dC, dI) vwCl [] t ∧ va_D (va_A [(h0, .inr (3, [.null, .null, .null, .int 0, .int 0, .int 0, .int 0, .int 0, .int 0, .null, .null, .null, .null]))] sz) [(h0, .inr (3, [.ref h1, .null, .null, .int 0, .int 0, .int 0, .int 0, .int 0, .int 0, .ref (q 0), .ref (q 1), .ref (q 2), .ref (q 3)]))]) (va_A [(h0, .inr (3, [.null, .null, .null, .int 0, .int 0, .int 0, .int 0, .int 0, .int 0, .null, .null, .null, .null]))] sz)) 4 1840 (va_A [(h0, .inr (3, [.null, .null, .null, .int 0, .int 0, .int 0, .int 0, .int 0, .int 0, .null, .null, .null, .null]))] sz) := by
  refine Met.ofW (cc := cX3_init) (maxL := 2) (ret := none) (by decide) rfl ?_
  intro p e s m args below meth c s₁ B hml hv
  obtain ⟨rfl, hsz, hP, hK, hD0⟩ := hv
  have hx := B.exec
  have hb := B.bytes
  have hr := B.returns
  have hts : ∀ w ∈ tb, w.before _ s = true := fun w h => atoms_spec (ws := (.code yX3_init cX3_init 2 none :: tb)) B.pre w (List.mem_cons_of_mem _ h)
  have hown : s.vm.findClass RX3 = some m.cls := findClass_of_methodNamed B.named
  have hlocks := B.notSynchronized
  have hin : meth.name = "<init>" := (name_of_methodNamed B.named B.method).1
  subst hsz
  have hD := hD0.self (sz := s.heap.size)
  generalize hAe : va_A [(h0, .inr (3, [.null, .null, .null, .int 0, .int 0, .int 0, .int 0, .int 0, .int 0, .null, .null, .null, .null]))] s.heap.size = A at hD ⊢
  have hA : ∀ q : Nat, s.heap.size ≤ q → A q := fun q h => by rw [← hAe]; exact Or.inr h
  have hS : va_S A s.heap s.heap [] := va_S.rf
  have hP : va_P (dC, dI) vwCl [(h0, .inr (3, [.null, .null, .null, .int 0, .int 0, .int 0, .int 0, .int 0, .int 0, .null, .null, .null, .null]))] s.heap := hP
  have hl := lv_entry ([.ref h0, .ref h1]) (n := 2) (Nat.le_of_ble_eq_true rfl)
  rw [lg_entry_eq]
  generalize (lg_sl ([.ref h0, .ref h1]) ++ List.replicate (2 - (lg_sl ([.ref h0, .ref h1])).length) Slot.unset).toArray = ls at hl ⊢
  have hl : lv_has ls 2 [(0, .ref h0), (1, .ref h1)] := hl
  refine lv_aload_n hx hb dX3_init_0 rfl (lv_at hl 0 rfl) ?_
  refine W.objInit hx hb hown (hts _ wd_130) (hts _ wd_30) (hts _ wd_obj) rfl (by rw [hml]; exact hl.1) rfl dX3_init_1 (Nat.le_of_ble_eq_true rfl) (Nat.le_of_ble_eq_true rfl) ?_
  refine W.eq (g2 := F0 m 4 ls []) rfl ?_
  refine lv_aload_n hx hb dX3_init_4 rfl (lv_at hl 0 rfl) ?_
  refine lv_sipush (v := 460) hx hb dX3_init_5 (by decide) ?_
  refine va_newa (D := (dC, dI)) (atype := .int) (a0 := (460, .inl (fun _ => 0))) hx hb (hts _ wd_121) rfl hK hP hD hS hA (fun _ => rfl) (by decide) (by decide) (by decide) (Nat.le_of_ble_eq_true rfl) (Nat.le_of_ble_eq_true rfl) dX3_init_8 (fun q1 k2 H hK hP hD hS => ?_)
  have hK : va_K (dC, dI) vwCl [(k2, .int)] s := hK
  have hP : va_P (dC, dI) vwCl [(h0, .inr (3, [.null, .null, .null, .int 0, .int 0, .int 0, .int 0, .int 0, .int 0, .null, .null, .null, .null])), (q1, .inl (k2, 460, .inl (fun _ => 0)))] H := hP
  have hD : va_D A [(h0, .inr (3, [.null, .null, .null, .int 0, .int 0, .int 0, .int 0, .int 0, .int 0, .null, .null, .null, .null])), (q1, .inl (k2, 460, .inl (fun _ => 0)))] := hD
  refine W.widen (k := 1) (n := 460) (Nat.le_of_ble_eq_true rfl) (Nat.le_of_ble_eq_true rfl) ?_
  refine va_putF (D := (dC, dI)) (ci := 3) (v := .ref q1) (ty := (tyX3 9)) (C := RX3) (T := TX3) (N := 13) hx hb hts in_X3 tyX3 tyX3_ok nmX3 hown hK hP hD hS 0 rfl rfl 9 (by decide) (hts _ wd_140) (fun _ h9 => h9) rfl hin rfl (tyX3_ok 9 (by decide)) rfl rfl (Nat.le_of_ble_eq_true rfl) dX3_init_10 (fun H locs hP hD hS => ?_)
  have hP : va_P (dC, dI) vwCl [(h0, .inr (3, [.null, .null, .null, .int 0, .int 0, .int 0, .int 0, .int 0, .int 0, .ref q1, .null, .null, .null])), (q1, .inl (k2, 460, .inl (fun _ => 0)))] H := hP
  have hD : va_D A [(h0, .inr (3, [.null, .null, .null, .int 0, .int 0, .int 0, .int 0, .int 0, .int 0, .ref q1, .null, .null, .null])), (q1, .inl (k2, 460, .inl (fun _ => 0)))] := hD
  have hP := hP.sub (ws' := [(h0, .inr (3, [.null, .null, .null, .int 0, .int 0, .int 0, .int 0, .int 0, .int 0, .ref q1, .null, .null, .null]))]) [0] rfl
  have hD := hD.sub (ws' := [(h0, .inr (3, [.null, .null, .null, .int 0, .int 0, .int 0, .int 0, .int 0, .int 0, .ref q1, .null, .null, .null]))]) [0] (by decide) rfl
  have hK := hK.sub (tys' := []) [] rfl
  refine lv_aload_n hx hb dX3_init_13 rfl (lv_at hl 0 rfl) ?_
  refine lv_sipush (v := 460) hx hb dX3_init_14 (by decide) ?_
  refine va_newa (D := (dC, dI)) (atype := .int) (a0 := (460, .inl (fun _ => 0))) hx hb (hts _ wd_121) rfl hK hP hD hS hA (fun _ => rfl) (by decide) (by decide) (by decide) (Nat.le_of_ble_eq_true rfl) (Nat.le_of_ble_eq_true rfl) dX3_init_17 (fun q3 k4 H hK hP hD hS => ?_)
  have hK : va_K (dC, dI) vwCl [(k4, .int)] s := hK
  have hP : va_P (dC, dI) vwCl [(h0, .inr (3, [.null, .null, .null, .int 0, .int 0, .int 0, .int 0, .int 0, .int 0, .ref q1, .null, .null, .null])), (q3, .inl (k4, 460, .inl (fun _ => 0)))] H := hP
  have hD : va_D A [(h0, .inr (3, [.null, .null, .null, .int 0, .int 0, .int 0, .int 0, .int 0, .int 0, .ref q1, .null, .null, .null])), (q3, .inl (k4, 460, .inl (fun _ => 0)))] := hD
  refine W.widen (k := 2) (n := 920) (Nat.le_of_ble_eq_true rfl) (Nat.le_of_ble_eq_true rfl) ?_
  refine va_putF (D := (dC, dI)) (ci := 3) (v := .ref q3) (ty := (tyX3 10)) (C := RX3) (T := TX3) (N := 13) hx hb hts in_X3 tyX3 tyX3_ok nmX3 hown hK hP hD hS 0 rfl rfl 10 (by decide) (hts _ wd_141) (fun _ h9 => h9) rfl hin rfl (tyX3_ok 10 (by decide)) rfl rfl (Nat.le_of_ble_eq_true rfl) dX3_init_19 (fun H locs hP hD hS => ?_)
  have hP : va_P (dC, dI) vwCl [(h0, .inr (3, [.null, .null, .null, .int 0, .int 0, .int 0, .int 0, .int 0, .int 0, .ref q1, .ref q3, .null, .null])), (q3, .inl (k4, 460, .inl (fun _ => 0)))] H := hP
  have hD : va_D A [(h0, .inr (3, [.null, .null, .null, .int 0, .int 0, .int 0, .int 0, .int 0, .int 0, .ref q1, .ref q3, .null, .null])), (q3, .inl (k4, 460, .inl (fun _ => 0)))] := hD
  have hP := hP.sub (ws' := [(h0, .inr (3, [.null, .null, .null, .int 0, .int 0, .int 0, .int 0, .int 0, .int 0, .ref q1, .ref q3, .null, .null]))]) [0] rfl
  have hD := hD.sub (ws' := [(h0, .inr (3, [.null, .null, .null, .int 0, .int 0, .int 0, .int 0, .int 0, .int 0, .ref q1, .ref q3, .null, .null]))]) [0] (by decide) rfl
  have hK := hK.sub (tys' := []) [] rfl
  refine lv_aload_n hx hb dX3_init_22 rfl (lv_at hl 0 rfl) ?_
  refine lv_sipush (v := 460) hx hb dX3_init_23 (by decide) ?_
  refine va_newa (D := (dC, dI)) (atype := .int) (a0 := (460, .inl (fun _ => 0))) hx hb (hts _ wd_121) rfl hK hP hD hS hA (fun _ => rfl) (by decide) (by decide) (by decide) (Nat.le_of_ble_eq_true rfl) (Nat.le_of_ble_eq_true rfl) dX3_init_26 (fun q5 k6 H hK hP hD hS => ?_)
  have hK : va_K (dC, dI) vwCl [(k6, .int)] s := hK
  have hP : va_P (dC, dI) vwCl [(h0, .inr (3, [.null, .null, .null, .int 0, .int 0, .int 0, .int 0, .int 0, .int 0, .ref q1, .ref q3, .null, .null])), (q5, .inl (k6, 460, .inl (fun _ => 0)))] H := hP
  have hD : va_D A [(h0, .inr (3, [.null, .null, .null, .int 0, .int 0, .int 0, .int 0, .int 0, .int 0, .ref q1, .ref q3, .null, .null])), (q5, .inl (k6, 460, .inl (fun _ => 0)))] := hD
  refine W.widen (k := 3) (n := 1380) (Nat.le_of_ble_eq_true rfl) (Nat.le_of_ble_eq_true rfl) ?_
  refine va_putF (D := (dC, dI)) (ci := 3) (v := .ref q5) (ty := (tyX3 11)) (C := RX3) (T := TX3) (N := 13) hx hb hts in_X3 tyX3 tyX3_ok nmX3 hown hK hP hD hS 0 rfl rfl 11 (by decide) (hts _ wd_142) (fun _ h9 => h9) rfl hin rfl (tyX3_ok 11 (by decide)) rfl rfl (Nat.le_of_ble_eq_true rfl) dX3_init_28 (fun H locs hP hD hS => ?_)
  have hP : va_P (dC, dI) vwCl [(h0, .inr (3, [.null, .null, .null, .int 0, .int 0, .int 0, .int 0, .int 0, .int 0, .ref q1, .ref q3, .ref q5, .null])), (q5, .inl (k6, 460, .inl (fun _ => 0)))] H := hP
  have hD : va_D A [(h0, .inr (3, [.null, .null, .null, .int 0, .int 0, .int 0, .int 0, .int 0, .int 0, .ref q1, .ref q3, .ref q5, .null])), (q5, .inl (k6, 460, .inl (fun _ => 0)))] := hD
  have hP := hP.sub (ws' := [(h0, .inr (3, [.null, .null, .null, .int 0, .int 0, .int 0, .int 0, .int 0, .int 0, .ref q1, .ref q3, .ref q5, .null]))]) [0] rfl
  have hD := hD.sub (ws' := [(h0, .inr (3, [.null, .null, .null, .int 0, .int 0, .int 0, .int 0, .int 0, .int 0, .ref q1, .ref q3, .ref q5, .null]))]) [0] (by decide) rfl
  have hK := hK.sub (tys' := []) [] rfl
  refine lv_aload_n hx hb dX3_init_31 rfl (lv_at hl 0 rfl) ?_
  refine lv_sipush (v := 460) hx hb dX3_init_32 (by decide) ?_
  refine va_newa (D := (dC, dI)) (atype := .long) (a0 := (460, .inr (.inl (fun _ => 0)))) hx hb (hts _ wd_122) rfl hK hP hD hS hA (fun _ => rfl) (by decide) (by decide) (by decide) (Nat.le_of_ble_eq_true rfl) (Nat.le_of_ble_eq_true rfl) dX3_init_35 (fun q7 k8 H hK hP hD hS => ?_)
  have hK : va_K (dC, dI) vwCl [(k8, .long)] s := hK
  have hP : va_P (dC, dI) vwCl [(h0, .inr (3, [.null, .null, .null, .int 0, .int 0, .int 0, .int 0, .int 0, .int 0, .ref q1, .ref q3, .ref q5, .null])), (q7, .inl (k8, 460, .inr (.inl (fun _ => 0))))] H := hP
  have hD : va_D A [(h0, .inr (3, [.null, .null, .null, .int 0, .int 0, .int 0, .int 0, .int 0, .int 0, .ref q1, .ref q3, .ref q5, .null])), (q7, .inl (k8, 460, .inr (.inl (fun _ => 0))))] := hD
  refine W.widen (k := 4) (n := 1840) (Nat.le_of_ble_eq_true rfl) (Nat.le_of_ble_eq_true rfl) ?_
  refine va_putF (D := (dC, dI)) (ci := 3) (v := .ref q7) (ty := (tyX3 12)) (C := RX3) (T := TX3) (N := 13) hx hb hts in_X3 tyX3 tyX3_ok nmX3 hown hK hP hD hS 0 rfl rfl 12 (by decide) (hts _ wd_143) (fun _ h9 => h9) rfl hin rfl (tyX3_ok 12 (by decide)) rfl rfl (Nat.le_of_ble_eq_true rfl) dX3_init_37 (fun H locs hP hD hS => ?_)
  have hP : va_P (dC, dI) vwCl [(h0, .inr (3, [.null, .null, .null, .int 0, .int 0, .int 0, .int 0, .int 0, .int 0, .ref q1, .ref q3, .ref q5, .ref q7])), (q7, .inl (k8, 460, .inr (.inl (fun _ => 0))))] H := hP
  have hD : va_D A [(h0, .inr (3, [.null, .null, .null, .int 0, .int 0, .int 0, .int 0, .int 0, .int 0, .ref q1, .ref q3, .ref q5, .ref q7])), (q7, .inl (k8, 460, .inr (.inl (fun _ => 0))))] := hD
  have hP := hP.sub (ws' := [(h0, .inr (3, [.null, .null, .null, .int 0, .int 0, .int 0, .int 0, .int 0, .int 0, .ref q1, .ref q3, .ref q5, .ref q7]))]) [0] rfl
  have hD := hD.sub (ws' := [(h0, .inr (3, [.null, .null, .null, .int 0, .int 0, .int 0, .int 0, .int 0, .int 0, .ref q1, .ref q3, .ref q5, .ref q7]))]) [0] (by decide) rfl
  have hK := hK.sub (tys' := []) [] rfl
  refine lv_aload_n hx hb dX3_init_40 rfl (lv_at hl 0 rfl) ?_
  refine lv_aload_n hx hb dX3_init_41 rfl (lv_at hl 1 rfl) ?_
  refine va_putF (D := (dC, dI)) (ci := 3) (v := .ref h1) (ty := (tyX3 0)) (C := RX3) (T := TX3) (N := 13) hx hb hts in_X3 tyX3 tyX3_ok nmX3 hown hK hP hD hS 0 rfl rfl 0 (by decide) (hts _ wd_131) (fun _ h9 => h9) rfl hin rfl (tyX3_ok 0 (by decide)) rfl rfl (Nat.le_of_ble_eq_true rfl) dX3_init_42 (fun H locs hP hD hS => ?_)
  have hP : va_P (dC, dI) vwCl [(h0, .inr (3, [.ref h1, .null, .null, .int 0, .int 0, .int 0, .int 0, .int 0, .int 0, .ref q1, .ref q3, .ref q5, .ref q7]))] H := hP
  have hD : va_D A [(h0, .inr (3, [.ref h1, .null, .null, .int 0, .int 0, .int 0, .int 0, .int 0, .int 0, .ref q1, .ref q3, .ref q5, .ref q7]))] := hD
  have hP9 := hP.sub (ws' := [(h0, .inr (3, [.ref h1, .null, .null, .int 0, .int 0, .int 0, .int 0, .int 0, .int 0, .ref q1, .ref q3, .ref q5, .ref q7]))]) [0] rfl
  have hD9 := hD.sub (ws' := [(h0, .inr (3, [.ref h1, .null, .null, .int 0, .int 0, .int 0, .int 0, .int 0, .int 0, .ref q1, .ref q3, .ref q5, .ref q7]))]) [0] (by decide) rfl
  have hK9 := hK.sub (tys' := []) [] rfl
  refine W.widen (k := 4) (n := 1840) (Nat.le_of_ble_eq_true rfl) (Nat.le_of_ble_eq_true rfl) ?_
  exact W.vret hx hb hr (fun t ht hW => ⟨⟨(), rfl, trivial, (fun k => [q1, q3, q5, q7].getD k 0), by rw [ht]; exact hP9, va_K.moved hW.alike hK9, hD9⟩, hS.F ht⟩) hS.2.2 dX3_init_45
end
section
theorem wd_11 : (Jvm.Cond.initialized "Sleepers$Book") ∈ tb := tb_at 11 (by decide +kernel) (by decide +kernel)
theorem wd_14 : (Jvm.Cond.initialized "Sleepers$Scopes") ∈ tb := tb_at 14 (by decide +kernel) (by decide +kernel)
theorem wd_217 : (Jvm.Cond.instantiable "Sleepers$Book" (3 : Nat)) ∈ tb := tb_at 217 (by decide +kernel) (by decide +kernel)
theorem wd_219 : (Jvm.Cond.instanceMethod ({ cls := "Sleepers$Book", name := "<init>", desc := "()V" } : Jvm.MethodName)) ∈ tb := tb_at 219 (by decide +kernel) (by decide +kernel)
theorem wd_220 : (Jvm.Cond.code ({ cls := "Sleepers$Book", name := "<init>", desc := "()V" } : Jvm.MethodName) prog_2_method_1_code (1 : Nat) (Option.none : Option Jvm.ClassFile.FieldType)) ∈ tb := tb_at 220 (by decide +kernel) (by decide +kernel)
theorem wd_298 : (Jvm.Cond.methodLink "Sleepers$Runner" (3 : Nat) ({ cls := "java/lang/Object", name := "<init>", desc := "()V" } : Jvm.MethodName)) ∈ tb := tb_at 298 (by decide +kernel) (by decide +kernel)
theorem wd_299 : (Jvm.Cond.classLink "Sleepers$Runner" (9 : Nat) "Sleepers$Book") ∈ tb := tb_at 299 (by decide +kernel) (by decide +kernel)
theorem wd_305 : (Jvm.Cond.fieldLink "Sleepers$Runner" (12 : Nat) "Sleepers$Runner" "puts" "LSleepers$Book;") ∈ tb := tb_at 305 (by decide +kernel) (by decide +kernel)
theorem wd_307 : (Jvm.Cond.fieldLink "Sleepers$Runner" (22 : Nat) "Sleepers$Runner" "hall" "LSleepers$Hall;") ∈ tb := tb_at 307 (by decide +kernel) (by decide +kernel)
theorem wd_308 : (Jvm.Cond.fieldLink "Sleepers$Runner" (18 : Nat) "Sleepers$Runner" "numbers" "[I") ∈ tb := tb_at 308 (by decide +kernel) (by decide +kernel)
theorem wd_334 : (Jvm.Cond.methodLink "Sleepers$Program" (5 : Nat) ({ cls := "java/lang/Object", name := "<init>", desc := "()V" } : Jvm.MethodName)) ∈ tb := tb_at 334 (by decide +kernel) (by decide +kernel)
theorem wd_335 : (Jvm.Cond.classLink "Sleepers$Program" (21 : Nat) "Sleepers$Scopes") ∈ tb := tb_at 335 (by decide +kernel) (by decide +kernel)
theorem wd_336 : (Jvm.Cond.instantiable "Sleepers$Scopes" (12 : Nat)) ∈ tb := tb_at 336 (by decide +kernel) (by decide +kernel)
theorem wd_338 : (Jvm.Cond.instanceMethod ({ cls := "Sleepers$Scopes", name := "<init>", desc := "()V" } : Jvm.MethodName)) ∈ tb := tb_at 338 (by decide +kernel) (by decide +kernel)
theorem wd_339 : (Jvm.Cond.code ({ cls := "Sleepers$Scopes", name := "<init>", desc := "()V" } : Jvm.MethodName) prog_9_method_1_code (1 : Nat) (Option.none : Option Jvm.ClassFile.FieldType)) ∈ tb := tb_at 339 (by decide +kernel) (by decide +kernel)
theorem wd_399 : (Jvm.Cond.fieldLink "Sleepers$Program" (11 : Nat) "Sleepers$Program" "op" "[I") ∈ tb := tb_at 399 (by decide +kernel) (by decide +kernel)
theorem wd_402 : (Jvm.Cond.fieldLink "Sleepers$Program" (15 : Nat) "Sleepers$Program" "arg" "[I") ∈ tb := tb_at 402 (by decide +kernel) (by decide +kernel)
theorem wd_406 : (Jvm.Cond.fieldLink "Sleepers$Program" (18 : Nat) "Sleepers$Program" "scope" "[I") ∈ tb := tb_at 406 (by decide +kernel) (by decide +kernel)
theorem wd_409 : (Jvm.Cond.fieldLink "Sleepers$Program" (24 : Nat) "Sleepers$Program" "scopes" "LSleepers$Scopes;") ∈ tb := tb_at 409 (by decide +kernel) (by decide +kernel)
theorem wd_416 : (Jvm.Cond.fieldLink "Sleepers$Program" (28 : Nat) "Sleepers$Program" "start" "[I") ∈ tb := tb_at 416 (by decide +kernel) (by decide +kernel)
theorem wd_419 : (Jvm.Cond.fieldLink "Sleepers$Program" (31 : Nat) "Sleepers$Program" "end" "[I") ∈ tb := tb_at 419 (by decide +kernel) (by decide +kernel)
theorem wd_421 : (Jvm.Cond.fieldLink "Sleepers$Program" (34 : Nat) "Sleepers$Program" "given" "[I") ∈ tb := tb_at 421 (by decide +kernel) (by decide +kernel)
theorem wd_425 : (Jvm.Cond.fieldLink "Sleepers$Program" (37 : Nat) "Sleepers$Program" "cells" "[I") ∈ tb := tb_at 425 (by decide +kernel) (by decide +kernel)
theorem wd_427 : (Jvm.Cond.fieldLink "Sleepers$Program" (40 : Nat) "Sleepers$Program" "waits" "[I") ∈ tb := tb_at 427 (by decide +kernel) (by decide +kernel)
theorem wd_429 : (Jvm.Cond.fieldLink "Sleepers$Program" (43 : Nat) "Sleepers$Program" "standAt" "[I") ∈ tb := tb_at 429 (by decide +kernel) (by decide +kernel)
theorem wd_431 : (Jvm.Cond.fieldLink "Sleepers$Program" (46 : Nat) "Sleepers$Program" "names" "[J") ∈ tb := tb_at 431 (by decide +kernel) (by decide +kernel)
theorem wd_432 : (Jvm.Cond.fieldLink "Sleepers$Program" (50 : Nat) "Sleepers$Program" "cellNames" "[J") ∈ tb := tb_at 432 (by decide +kernel) (by decide +kernel)
theorem dX5_init_0 : decode cX5_init 0 = .ok (.aload_n 0, 1) := by decide +kernel
theorem dX5_init_1 : decode cX5_init 1 = .ok (.invokespecial 5, 3) := by decide +kernel
theorem dX5_init_4 : decode cX5_init 4 = .ok (.aload_n 0, 1) := by decide +kernel
theorem dX5_init_5 : decode cX5_init 5 = .ok (.sipush 8064, 3) := by decide +kernel
theorem dX5_init_8 : decode cX5_init 8 = .ok (.newarray .int, 2) := by decide +kernel
theorem dX5_init_10 : decode cX5_init 10 = .ok (.putfield 11, 3) := by decide +kernel
theorem dX5_init_13 : decode cX5_init 13 = .ok (.aload_n 0, 1) := by decide +kernel
theorem dX5_init_14 : decode cX5_init 14 = .ok (.sipush 8064, 3) := by decide +kernel
theorem dX5_init_17 : decode cX5_init 17 = .ok (.newarray .int, 2) := by decide +kernel
theorem dX5_init_19 : decode cX5_init 19 = .ok (.putfield 15, 3) := by decide +kernel
theorem dX5_init_22 : decode cX5_init 22 = .ok (.aload_n 0, 1) := by decide +kernel
theorem dX5_init_23 : decode cX5_init 23 = .ok (.sipush 8064, 3) := by decide +kernel
theorem dX5_init_26 : decode cX5_init 26 = .ok (.newarray .int, 2) := by decide +kernel
theorem dX5_init_28 : decode cX5_init 28 = .ok (.putfield 18, 3) := by decide +kernel
theorem dX5_init_31 : decode cX5_init 31 = .ok (.aload_n 0, 1) := by decide +kernel
theorem dX5_init_32 : decode cX5_init 32 = .ok (.new 21, 3) := by decide +kernel
theorem dX5_init_35 : decode cX5_init 35 = .ok (.dup, 1) := by decide +kernel
theorem dX5_init_36 : decode cX5_init 36 = .ok (.invokespecial 23, 3) := by decide +kernel
theorem dX5_init_39 : decode cX5_init 39 = .ok (.putfield 24, 3) := by decide +kernel
theorem dX5_init_42 : decode cX5_init 42 = .ok (.aload_n 0, 1) := by decide +kernel
theorem dX5_init_43 : decode cX5_init 43 = .ok (.bipush 12, 2) := by decide +kernel
theorem dX5_init_45 : decode cX5_init 45 = .ok (.newarray .int, 2) := by decide +kernel
theorem dX5_init_47 : decode cX5_init 47 = .ok (.putfield 28, 3) := by decide +kernel
theorem dX5_init_50 : decode cX5_init 50 = .ok (.aload_n 0, 1) := by decide +kernel
theorem dX5_init_51 : decode cX5_init 51 = .ok (.bipush 12, 2) := by decide +kernel
theorem dX5_init_53 : decode cX5_init 53 = .ok (.newarray .int, 2) := by decide +kernel
theorem dX5_init_55 : decode cX5_init 55 = .ok (.putfield 31, 3) := by decide +kernel
theorem dX5_init_58 : decode cX5_init 58 = .ok (.aload_n 0, 1) := by decide +kernel
theorem dX5_init_59 : decode cX5_init 59 = .ok (.bipush 12, 2) := by decide +kernel
theorem dX5_init_61 : decode cX5_init 61 = .ok (.newarray .int, 2) := by decide +kernel
theorem dX5_init_63 : decode cX5_init 63 = .ok (.putfield 34, 3) := by decide +kernel
theorem dX5_init_66 : decode cX5_init 66 = .ok (.aload_n 0, 1) := by decide +kernel
theorem dX5_init_67 : decode cX5_init 67 = .ok (.bipush 12, 2) := by decide +kernel
theorem dX5_init_69 : decode cX5_init 69 = .ok (.newarray .int, 2) := by decide +kernel
theorem dX5_init_71 : decode cX5_init 71 = .ok (.putfield 37, 3) := by decide +kernel
theorem dX5_init_74 : decode cX5_init 74 = .ok (.aload_n 0, 1) := by decide +kernel
theorem dX5_init_75 : decode cX5_init 75 = .ok (.bipush 12, 2) := by decide +kernel
theorem dX5_init_77 : decode cX5_init 77 = .ok (.newarray .int, 2) := by decide +kernel
theorem dX5_init_79 : decode cX5_init 79 = .ok (.putfield 40, 3) := by decide +kernel
theorem dX5_init_82 : decode cX5_init 82 = .ok (.aload_n 0, 1) := by decide +kernel
theorem dX5_init_83 : decode cX5_init 83 = .ok (.sipush 192, 3) := by decide +kernel
theorem dX5_init_86 : decode cX5_init 86 = .ok (.newarray .int, 2) := by decide +kernel
theorem dX5_init_88 : decode cX5_init 88 = .ok (.putfield 43, 3) := by decide +kernel
theorem dX5_init_91 : decode cX5_init 91 = .ok (.aload_n 0, 1) := by decide +kernel
theorem dX5_init_92 : decode cX5_init 92 = .ok (.bipush 12, 2) := by decide +kernel
theorem dX5_init_94 : decode cX5_init 94 = .ok (.newarray .long, 2) := by decide +kernel
theorem dX5_init_96 : decode cX5_init 96 = .ok (.putfield 46, 3) := by decide +kernel
theorem dX5_init_99 : decode cX5_init 99 = .ok (.aload_n 0, 1) := by decide +kernel
theorem dX5_init_100 : decode cX5_init 100 = .ok (.sipush 144, 3) := by decide +kernel
theorem dX5_init_103 : decode cX5_init 103 = .ok (.newarray .long, 2) := by decide +kernel
theorem dX5_init_105 : decode cX5_init 105 = .ok (.putfield 50, 3) := by decide +kernel
theorem dX5_init_108 : decode cX5_init 108 = .ok (.return_, 1) := by decide +kernel
theorem dX6_init_0 : decode cX6_init 0 = .ok (.aload_n 0, 1) := by decide +kernel
theorem dX6_init_1 : decode cX6_init 1 = .ok (.invokespecial 3, 3) := by decide +kernel
theorem dX6_init_4 : decode cX6_init 4 = .ok (.aload_n 0, 1) := by decide +kernel
theorem dX6_init_5 : decode cX6_init 5 = .ok (.new 9, 3) := by decide +kernel
theorem dX6_init_8 : decode cX6_init 8 = .ok (.dup, 1) := by decide +kernel
theorem dX6_init_9 : decode cX6_init 9 = .ok (.invokespecial 11, 3) := by decide +kernel
theorem dX6_init_12 : decode cX6_init 12 = .ok (.putfield 12, 3) := by decide +kernel
theorem dX6_init_15 : decode cX6_init 15 = .ok (.aload_n 0, 1) := by decide +kernel
theorem dX6_init_16 : decode cX6_init 16 = .ok (.bipush 64, 2) := by decide +kernel
theorem dX6_init_18 : decode cX6_init 18 = .ok (.newarray .int, 2) := by decide +kernel
theorem dX6_init_20 : decode cX6_init 20 = .ok (.putfield 18, 3) := by decide +kernel
theorem dX6_init_23 : decode cX6_init 23 = .ok (.aload_n 0, 1) := by decide +kernel
theorem dX6_init_24 : decode cX6_init 24 = .ok (.aload_n 1, 1) := by decide +kernel
theorem dX6_init_25 : decode cX6_init 25 = .ok (.putfield 22, 3) := by decide +kernel
theorem dX6_init_28 : decode cX6_init 28 = .ok (.return_, 1) := by decide +kernel
set_option maxHeartbeats 4000000 in
set_option maxRecDepth 100000 in
theorem ct_X5_init (l : Launch) (dC : Nat → ClassId) (dI : Nat → Nat → Nat) (h0 : Nat) (sz : Nat) : Met l yX5_init (.code yX5_init cX5_init 1 none :: tb) ({ frames := 2, cells := 22, slots := 29212, locals := 32 }) (va_Pc [.ref h0] (fun U => U.heap.size = sz ∧ va_P (dC, dI) vwCl [(h0, .inr (5, [.int 0, .null, .null, .null, .null, .int 0, .null, .null, .null, .null, .null, .null, .null, .null]))] U.heap ∧ va_K (dC, dI) vwCl [] U ∧ va_D (fun _ => True) [(h0, .inr (5, [.int 0, .null, .null, .null, .null, .int 0, .null, .null, .null, .null, .null, .null, .null, .null]))] ∧ va_Nw (.methodLinkNest RX5 23 yX7_init "Sleepers") U)) (va_Qv (fun (_ : Unit) => True) (fun (_ : Unit) t => ∃ (q : Nat → Nat), ∃ (sc : Nat), ∃ (qc : Nat → Nat), va_P (dC, dI) vwCl [(h0, .inr (5, [.int 0, .ref (q 0), .ref (q 1), .ref (q 2), .ref sc, .int 0, .ref (q 3), .ref (q 4), .ref (q 5), .ref (q 6), .ref (q 7), .ref (q 8), .ref (q 9), .ref (q 10)])), (sc, .inr (7, [.int 0, .ref (qc 0), .ref (qc 1), .ref (qc 2), .ref (qc 3), .ref (qc 4), .ref (qc 5), .ref (qc 6), .int 0, .ref (qc 7), .ref (qc 8), .ref (qc 9)]))] t.heap ∧ va_K (dC, dI) vwCl [] t ∧ va_D (va_A [(h0, .inr (5, [.int 0, .null, .null, .null, .null, .int 0, .null, .null, .null, .null, .null, .null, .null, .null]))] sz) [(h0, .inr (5, [.int 0, .ref (q 0), .ref (q 1), .ref (q 2), .ref sc, .int 0, .ref (q 3), .ref (q 4), .ref (q 5), .ref (q 6), .ref (q 7), .ref (q 8), .ref (q 9), .ref (q 10)])), (sc, .inr (7, [.int 0, .ref (qc 0), .ref (qc 1), .ref (qc 2), .ref (qc 3), .ref (qc 4), .ref (qc 5), .ref (qc 6), .int 0, .ref (qc 7), .ref (qc 8), .ref (qc 9)]))]) (va_A [(h0, .inr (5, [.int 0, .null, .null, .null, .null, .int 0, .null, .null, .null, .null, .null, .null, .null, .null]))] sz)) 22 29212 (va_A [(h0, .inr (5, [.int 0, .null, .null, .null, .null, .int 0, .null, .null, .null, .null, .null, .null, .null, .null]))] sz) := by
  refine Met.ofW (cc := cX5_init) (maxL := 1) (ret := none) (by decide) rfl ?_
  intro p e s m args below meth c s₁ B hml hv
  obtain ⟨rfl, hsz, hP, hK, hD0, hZ0⟩ := hv
  have hx := B.exec
  have hb := B.bytes
  have hr := B.returns
  have hts : ∀ w ∈ tb, w.before _ s = true := fun w h => atoms_spec (ws := (.code yX5_init cX5_init 1 none :: tb)) B.pre w (List.mem_cons_of_mem _ h)
  have hown : s.vm.findClass RX5 = some m.cls := findClass_of_methodNamed B.named
  have hlocks := B.notSynchronized
  have hin : meth.name = "<init>" := (name_of_methodNamed B.named B.method).1
  subst hsz
  have hD := hD0.self (sz := s.heap.size)
  generalize hAe : va_A [(h0, .inr (5, [.int 0, .null, .null, .null, .null, .int 0, .null, .null, .null, .null, .null, .null, .null, .null]))] s.heap.size = A at hD ⊢
  have hA : ∀ q : Nat, s.heap.size ≤ q → A q := fun q h => by rw [← hAe]; exact Or.inr h
  have hS : va_S A s.heap s.heap [] := va_S.rf
  have hP : va_P (dC, dI) vwCl [(h0, .inr (5, [.int 0, .null, .null, .null, .null, .int 0, .null, .null, .null, .null, .null, .null, .null, .null]))] s.heap := hP
  have hl := lv_entry ([.ref h0]) (n := 1) (Nat.le_of_ble_eq_true rfl)
  rw [lg_entry_eq]
  generalize (lg_sl ([.ref h0]) ++ List.replicate (1 - (lg_sl ([.ref h0])).length) Slot.unset).toArray = ls at hl ⊢
  have hl : lv_has ls 1 [(0, .ref h0)] := hl
  refine lv_aload_n hx hb dX5_init_0 rfl (lv_at hl 0 rfl) ?_
  refine W.objInit hx hb hown (hts _ wd_334) (hts _ wd_30) (hts _ wd_obj) rfl (by rw [hml]; exact hl.1) rfl dX5_init_1 (Nat.le_of_ble_eq_true rfl) (Nat.le_of_ble_eq_true rfl) ?_
  refine W.eq (g2 := F0 m 4 ls []) rfl ?_
  refine lv_aload_n hx hb dX5_init_4 rfl (lv_at hl 0 rfl) ?_
  refine lv_sipush (v := 8064) hx hb dX5_init_5 (by decide) ?_
  refine va_newa (D := (dC, dI)) (atype := .int) (a0 := (8064, .inl (fun _ => 0))) hx hb (hts _ wd_121) rfl hK hP hD hS hA (fun _ => rfl) (by decide) (by decide) (by decide) (Nat.le_of_ble_eq_true rfl) (Nat.le_of_ble_eq_true rfl) dX5_init_8 (fun q1 k2 H hK hP hD hS => ?_)
  have hK : va_K (dC, dI) vwCl [(k2, .int)] s := hK
  have hP : va_P (dC, dI) vwCl [(h0, .inr (5, [.int 0, .null, .null, .null, .null, .int 0, .null, .null, .null, .null, .null, .null, .null, .null])), (q1, .inl (k2, 8064, .inl (fun _ => 0)))] H := hP
  have hD : va_D A [(h0, .inr (5, [.int 0, .null, .null, .null, .null, .int 0, .null, .null, .null, .null, .null, .null, .null, .null])), (q1, .inl (k2, 8064, .inl (fun _ => 0)))] := hD
  refine W.widen (k := 1) (n := 8064) (Nat.le_of_ble_eq_true rfl) (Nat.le_of_ble_eq_true rfl) ?_
  refine va_putF (D := (dC, dI)) (ci := 5) (v := .ref q1) (ty := (tyX5 1)) (C := RX5) (T := TX5) (N := 14) hx hb hts in_X5 tyX5 tyX5_ok nmX5 hown hK hP hD hS 0 rfl rfl 1 (by decide) (hts _ wd_399) (fun _ h9 => h9) rfl hin rfl (tyX5_ok 1 (by decide)) rfl rfl (Nat.le_of_ble_eq_true rfl) dX5_init_10 (fun H locs hP hD hS => ?_)
  have hP : va_P (dC, dI) vwCl [(h0, .inr (5, [.int 0, .ref q1, .null, .null, .null, .int 0, .null, .null, .null, .null, .null, .null, .null, .null])), (q1, .inl (k2, 8064, .inl (fun _ => 0)))] H := hP
  have hD : va_D A [(h0, .inr (5, [.int 0, .ref q1, .null, .null, .null, .int 0, .null, .null, .null, .null, .null, .null, .null, .null])), (q1, .inl (k2, 8064, .inl (fun _ => 0)))] := hD
  have hP := hP.sub (ws' := [(h0, .inr (5, [.int 0, .ref q1, .null, .null, .null, .int 0, .null, .null, .null, .null, .null, .null, .null, .null]))]) [0] rfl
  have hD := hD.sub (ws' := [(h0, .inr (5, [.int 0, .ref q1, .null, .null, .null, .int 0, .null, .null, .null, .null, .null, .null, .null, .null]))]) [0] (by decide) rfl
  have hK := hK.sub (tys' := []) [] rfl
  refine lv_aload_n hx hb dX5_init_13 rfl (lv_at hl 0 rfl) ?_
  refine lv_sipush (v := 8064) hx hb dX5_init_14 (by decide) ?_
  refine va_newa (D := (dC, dI)) (atype := .int) (a0 := (8064, .inl (fun _ => 0))) hx hb (hts _ wd_121) rfl hK hP hD hS hA (fun _ => rfl) (by decide) (by decide) (by decide) (Nat.le_of_ble_eq_true rfl) (Nat.le_of_ble_eq_true rfl) dX5_init_17 (fun q3 k4 H hK hP hD hS => ?_)
  have hK : va_K (dC, dI) vwCl [(k4, .int)] s := hK
  have hP : va_P (dC, dI) vwCl [(h0, .inr (5, [.int 0, .ref q1, .null, .null, .null, .int 0, .null, .null, .null, .null, .null, .null, .null, .null])), (q3, .inl (k4, 8064, .inl (fun _ => 0)))] H := hP
  have hD : va_D A [(h0, .inr (5, [.int 0, .ref q1, .null, .null, .null, .int 0, .null, .null, .null, .null, .null, .null, .null, .null])), (q3, .inl (k4, 8064, .inl (fun _ => 0)))] := hD
  refine W.widen (k := 2) (n := 16128) (Nat.le_of_ble_eq_true rfl) (Nat.le_of_ble_eq_true rfl) ?_
  refine va_putF (D := (dC, dI)) (ci := 5) (v := .ref q3) (ty := (tyX5 2)) (C := RX5) (T := TX5) (N := 14) hx hb hts in_X5 tyX5 tyX5_ok nmX5 hown hK hP hD hS 0 rfl rfl 2 (by decide) (hts _ wd_402) (fun _ h9 => h9) rfl hin rfl (tyX5_ok 2 (by decide)) rfl rfl (Nat.le_of_ble_eq_true rfl) dX5_init_19 (fun H locs hP hD hS => ?_)
  have hP : va_P (dC, dI) vwCl [(h0, .inr (5, [.int 0, .ref q1, .ref q3, .null, .null, .int 0, .null, .null, .null, .null, .null, .null, .null, .null])), (q3, .inl (k4, 8064, .inl (fun _ => 0)))] H := hP
  have hD : va_D A [(h0, .inr (5, [.int 0, .ref q1, .ref q3, .null, .null, .int 0, .null, .null, .null, .null, .null, .null, .null, .null])), (q3, .inl (k4, 8064, .inl (fun _ => 0)))] := hD
  have hP := hP.sub (ws' := [(h0, .inr (5, [.int 0, .ref q1, .ref q3, .null, .null, .int 0, .null, .null, .null, .null, .null, .null, .null, .null]))]) [0] rfl
  have hD := hD.sub (ws' := [(h0, .inr (5, [.int 0, .ref q1, .ref q3, .null, .null, .int 0, .null, .null, .null, .null, .null, .null, .null, .null]))]) [0] (by decide) rfl
  have hK := hK.sub (tys' := []) [] rfl
  refine lv_aload_n hx hb dX5_init_22 rfl (lv_at hl 0 rfl) ?_
  refine lv_sipush (v := 8064) hx hb dX5_init_23 (by decide) ?_
  refine va_newa (D := (dC, dI)) (atype := .int) (a0 := (8064, .inl (fun _ => 0))) hx hb (hts _ wd_121) rfl hK hP hD hS hA (fun _ => rfl) (by decide) (by decide) (by decide) (Nat.le_of_ble_eq_true rfl) (Nat.le_of_ble_eq_true rfl) dX5_init_26 (fun q5 k6 H hK hP hD hS => ?_)
  have hK : va_K (dC, dI) vwCl [(k6, .int)] s := hK
  have hP : va_P (dC, dI) vwCl [(h0, .inr (5, [.int 0, .ref q1, .ref q3, .null, .null, .int 0, .null, .null, .null, .null, .null, .null, .null, .null])), (q5, .inl (k6, 8064, .inl (fun _ => 0)))] H := hP
  have hD : va_D A [(h0, .inr (5, [.int 0, .ref q1, .ref q3, .null, .null, .int 0, .null, .null, .null, .null, .null, .null, .null, .null])), (q5, .inl (k6, 8064, .inl (fun _ => 0)))] := hD
  refine W.widen (k := 3) (n := 24192) (Nat.le_of_ble_eq_true rfl) (Nat.le_of_ble_eq_true rfl) ?_
  refine va_putF (D := (dC, dI)) (ci := 5) (v := .ref q5) (ty := (tyX5 3)) (C := RX5) (T := TX5) (N := 14) hx hb hts in_X5 tyX5 tyX5_ok nmX5 hown hK hP hD hS 0 rfl rfl 3 (by decide) (hts _ wd_406) (fun _ h9 => h9) rfl hin rfl (tyX5_ok 3 (by decide)) rfl rfl (Nat.le_of_ble_eq_true rfl) dX5_init_28 (fun H locs hP hD hS => ?_)
  have hP : va_P (dC, dI) vwCl [(h0, .inr (5, [.int 0, .ref q1, .ref q3, .ref q5, .null, .int 0, .null, .null, .null, .null, .null, .null, .null, .null])), (q5, .inl (k6, 8064, .inl (fun _ => 0)))] H := hP
  have hD : va_D A [(h0, .inr (5, [.int 0, .ref q1, .ref q3, .ref q5, .null, .int 0, .null, .null, .null, .null, .null, .null, .null, .null])), (q5, .inl (k6, 8064, .inl (fun _ => 0)))] := hD
  have hP := hP.sub (ws' := [(h0, .inr (5, [.int 0, .ref q1, .ref q3, .ref q5, .null, .int 0, .null, .null, .null, .null, .null, .null, .null, .null]))]) [0] rfl
  have hD := hD.sub (ws' := [(h0, .inr (5, [.int 0, .ref q1, .ref q3, .ref q5, .null, .int 0, .null, .null, .null, .null, .null, .null, .null, .null]))]) [0] (by decide) rfl
  have hK := hK.sub (tys' := []) [] rfl
  refine lv_aload_n hx hb dX5_init_31 rfl (lv_at hl 0 rfl) ?_
  refine va_new (ci := 7) (fs := [.int 0, .null, .null, .null, .null, .null, .null, .null, .int 0, .null, .null, .null]) (C := RX7) (T := TX7) (N := 12) hx hb hts in_X7 tyX7 tyX7_ok hown (hts _ wd_335) (hts _ wd_336) (hts _ wd_14) hK hP hD hS hA rfl df_X7 (Nat.le_of_ble_eq_true rfl) (Nat.le_of_ble_eq_true rfl) dX5_init_32 (fun q7 H hP hD hS => ?_)
  have hP : va_P (dC, dI) vwCl [(h0, .inr (5, [.int 0, .ref q1, .ref q3, .ref q5, .null, .int 0, .null, .null, .null, .null, .null, .null, .null, .null])), (q7, .inr (7, [.int 0, .null, .null, .null, .null, .null, .null, .null, .int 0, .null, .null, .null]))] H := hP
  have hD : va_D A [(h0, .inr (5, [.int 0, .ref q1, .ref q3, .ref q5, .null, .int 0, .null, .null, .null, .null, .null, .null, .null, .null])), (q7, .inr (7, [.int 0, .null, .null, .null, .null, .null, .null, .null, .int 0, .null, .null, .null]))] := hD
  refine W.widen (k := 4) (n := 24204) (Nat.le_of_ble_eq_true rfl) (Nat.le_of_ble_eq_true rfl) ?_
  refine lv_dup hx hb dX5_init_35 rfl ?_
  have hPc := hP.sub (ws' := [(q7, .inr (7, [.int 0, .null, .null, .null, .null, .null, .null, .null, .int 0, .null, .null, .null]))]) [1] rfl
  have hDc := hD.sub (ws' := [(q7, .inr (7, [.int 0, .null, .null, .null, .null, .null, .null, .null, .int 0, .null, .null, .null]))]) [1] (by decide) rfl
  have hKc := hK.sub (tys' := []) [] rfl
  have hFc := va_free (wc := [(q7, .inr (7, [.int 0, .null, .null, .null, .null, .null, .null, .null, .int 0, .null, .null, .null]))]) hD hS hA [1] rfl
  refine va_callv (va_runIN (As := []) (rest := [.ref q7, .ref h0]) ⟨hx, hb, hml, hown, hts⟩ (ct_X7_init l dC dI q7 H.size) ⟨va_cnB 0 hts (gd_c wd_339) rfl rfl rfl hZ0 (hts _ wd_14) (by decide +kernel) ⟨Nat.le_of_ble_eq_true rfl, Nat.le_of_ble_eq_true rfl⟩, rfl, hts _ wd_338⟩ ⟨fun a U g mk q => by obtain ⟨q0, q1, qP, qK, qD⟩ := q; exact ⟨q0, q1, qP, va_K.moved (u := U) (U := U.calling g mk a) (Vm.Alike.refl U.vm) qK, qD⟩, fun U hU hW => ⟨rfl, by rw [hU], by rw [hU]; exact hPc, va_K.moved hW.alike hKc, hDc.weaken (fun _ _ _ _ => trivial)⟩⟩ rfl rfl hl.1 rfl (lv_room (Nat.le_of_ble_eq_true rfl)) dX5_init_36 ⟨Nat.le_of_ble_eq_true rfl, Nat.le_of_ble_eq_true rfl⟩) hS (fun q _ h => hFc q h) hFc (fun u t H1 locs ht hvm hw hB hz1 hk1 hS => ?_)
  obtain ⟨x8, hP1, hK1, hD1⟩ := hB
  rw [ht] at hP1
  have hK1 := va_K.moved hvm.symm hK1
  obtain ⟨hP, hD⟩ := va_join (wr := [(h0, .inr (5, [.int 0, .ref q1, .ref q3, .ref q5, .null, .int 0, .null, .null, .null, .null, .null, .null, .null, .null]))]) (w1 := [(q7, .inr (7, [.int 0, .ref (x8 0), .ref (x8 1), .ref (x8 2), .ref (x8 3), .ref (x8 4), .ref (x8 5), .ref (x8 6), .int 0, .ref (x8 7), .ref (x8 8), .ref (x8 9)]))]) hP hD [1] [0] rfl rfl (by decide) (by decide) hk1 hFc hP1 hD1
  have hK := (hK.sub (tys' := []) [] rfl).app (hK1.sub (tys' := []) [] rfl)
  generalize H1 = H at hP hS ⊢
  have hP : va_P (dC, dI) vwCl [(h0, .inr (5, [.int 0, .ref q1, .ref q3, .ref q5, .null, .int 0, .null, .null, .null, .null, .null, .null, .null, .null])), (q7, .inr (7, [.int 0, .ref (x8 0), .ref (x8 1), .ref (x8 2), .ref (x8 3), .ref (x8 4), .ref (x8 5), .ref (x8 6), .int 0, .ref (x8 7), .ref (x8 8), .ref (x8 9)]))] H := hP
  have hD : va_D A [(h0, .inr (5, [.int 0, .ref q1, .ref q3, .ref q5, .null, .int 0, .null, .null, .null, .null, .null, .null, .null, .null])), (q7, .inr (7, [.int 0, .ref (x8 0), .ref (x8 1), .ref (x8 2), .ref (x8 3), .ref (x8 4), .ref (x8 5), .ref (x8 6), .int 0, .ref (x8 7), .ref (x8 8), .ref (x8 9)]))] := hD
  have hK : va_K (dC, dI) vwCl [] s := hK
  refine W.widen (k := 14) (n := 28804) (Nat.le_of_ble_eq_true rfl) (Nat.le_of_ble_eq_true rfl) ?_
  refine va_putF (D := (dC, dI)) (ci := 5) (v := .ref q7) (ty := (tyX5 4)) (C := RX5) (T := TX5) (N := 14) hx hb hts in_X5 tyX5 tyX5_ok nmX5 hown hK hP hD hS 0 rfl rfl 4 (by decide) (hts _ wd_409) (fun _ h9 => h9) rfl hin rfl (tyX5_ok 4 (by decide)) rfl rfl (Nat.le_of_ble_eq_true rfl) dX5_init_39 (fun H locs hP hD hS => ?_)
  have hP : va_P (dC, dI) vwCl [(h0, .inr (5, [.int 0, .ref q1, .ref q3, .ref q5, .ref q7, .int 0, .null, .null, .null, .null, .null, .null, .null, .null])), (q7, .inr (7, [.int 0, .ref (x8 0), .ref (x8 1), .ref (x8 2), .ref (x8 3), .ref (x8 4), .ref (x8 5), .ref (x8 6), .int 0, .ref (x8 7), .ref (x8 8), .ref (x8 9)]))] H := hP
  have hD : va_D A [(h0, .inr (5, [.int 0, .ref q1, .ref q3, .ref q5, .ref q7, .int 0, .null, .null, .null, .null, .null, .null, .null, .null])), (q7, .inr (7, [.int 0, .ref (x8 0), .ref (x8 1), .ref (x8 2), .ref (x8 3), .ref (x8 4), .ref (x8 5), .ref (x8 6), .int 0, .ref (x8 7), .ref (x8 8), .ref (x8 9)]))] := hD
  refine lv_aload_n hx hb dX5_init_42 rfl (lv_at hl 0 rfl) ?_
  refine lv_bipush (v := 12) hx hb dX5_init_43 (by decide) ?_
  refine va_newa (D := (dC, dI)) (atype := .int) (a0 := (12, .inl (fun _ => 0))) hx hb (hts _ wd_121) rfl hK hP hD hS hA (fun _ => rfl) (by decide) (by decide) (by decide) (Nat.le_of_ble_eq_true rfl) (Nat.le_of_ble_eq_true rfl) dX5_init_45 (fun q9 k10 H hK hP hD hS => ?_)
  have hK : va_K (dC, dI) vwCl [(k10, .int)] s := hK
  have hP : va_P (dC, dI) vwCl [(h0, .inr (5, [.int 0, .ref q1, .ref q3, .ref q5, .ref q7, .int 0, .null, .null, .null, .null, .null, .null, .null, .null])), (q7, .inr (7, [.int 0, .ref (x8 0), .ref (x8 1), .ref (x8 2), .ref (x8 3), .ref (x8 4), .ref (x8 5), .ref (x8 6), .int 0, .ref (x8 7), .ref (x8 8), .ref (x8 9)])), (q9, .inl (k10, 12, .inl (fun _ => 0)))] H := hP
  have hD : va_D A [(h0, .inr (5, [.int 0, .ref q1, .ref q3, .ref q5, .ref q7, .int 0, .null, .null, .null, .null, .null, .null, .null, .null])), (q7, .inr (7, [.int 0, .ref (x8 0), .ref (x8 1), .ref (x8 2), .ref (x8 3), .ref (x8 4), .ref (x8 5), .ref (x8 6), .int 0, .ref (x8 7), .ref (x8 8), .ref (x8 9)])), (q9, .inl (k10, 12, .inl (fun _ => 0)))] := hD
  refine W.widen (k := 15) (n := 28816) (Nat.le_of_ble_eq_true rfl) (Nat.le_of_ble_eq_true rfl) ?_
  refine va_putF (D := (dC, dI)) (ci := 5) (v := .ref q9) (ty := (tyX5 6)) (C := RX5) (T := TX5) (N := 14) hx hb hts in_X5 tyX5 tyX5_ok nmX5 hown hK hP hD hS 0 rfl rfl 6 (by decide) (hts _ wd_416) (fun _ h9 => h9) rfl hin rfl (tyX5_ok 6 (by decide)) rfl rfl (Nat.le_of_ble_eq_true rfl) dX5_init_47 (fun H locs hP hD hS => ?_)
  have hP : va_P (dC, dI) vwCl [(h0, .inr (5, [.int 0, .ref q1, .ref q3, .ref q5, .ref q7, .int 0, .ref q9, .null, .null, .null, .null, .null, .null, .null])), (q7, .inr (7, [.int 0, .ref (x8 0), .ref (x8 1), .ref (x8 2), .ref (x8 3), .ref (x8 4), .ref (x8 5), .ref (x8 6), .int 0, .ref (x8 7), .ref (x8 8), .ref (x8 9)])), (q9, .inl (k10, 12, .inl (fun _ => 0)))] H := hP
  have hD : va_D A [(h0, .inr (5, [.int 0, .ref q1, .ref q3, .ref q5, .ref q7, .int 0, .ref q9, .null, .null, .null, .null, .null, .null, .null])), (q7, .inr (7, [.int 0, .ref (x8 0), .ref (x8 1), .ref (x8 2), .ref (x8 3), .ref (x8 4), .ref (x8 5), .ref (x8 6), .int 0, .ref (x8 7), .ref (x8 8), .ref (x8 9)])), (q9, .inl (k10, 12, .inl (fun _ => 0)))] := hD
  have hP := hP.sub (ws' := [(h0, .inr (5, [.int 0, .ref q1, .ref q3, .ref q5, .ref q7, .int 0, .ref q9, .null, .null, .null, .null, .null, .null, .null])), (q7, .inr (7, [.int 0, .ref (x8 0), .ref (x8 1), .ref (x8 2), .ref (x8 3), .ref (x8 4), .ref (x8 5), .ref (x8 6), .int 0, .ref (x8 7), .ref (x8 8), .ref (x8 9)]))]) [0, 1] rfl
  have hD := hD.sub (ws' := [(h0, .inr (5, [.int 0, .ref q1, .ref q3, .ref q5, .ref q7, .int 0, .ref q9, .null, .null, .null, .null, .null, .null, .null])), (q7, .inr (7, [.int 0, .ref (x8 0), .ref (x8 1), .ref (x8 2), .ref (x8 3), .ref (x8 4), .ref (x8 5), .ref (x8 6), .int 0, .ref (x8 7), .ref (x8 8), .ref (x8 9)]))]) [0, 1] (by decide) rfl
  have hK := hK.sub (tys' := []) [] rfl
  refine lv_aload_n hx hb dX5_init_50 rfl (lv_at hl 0 rfl) ?_
  refine lv_bipush (v := 12) hx hb dX5_init_51 (by decide) ?_
  refine va_newa (D := (dC, dI)) (atype := .int) (a0 := (12, .inl (fun _ => 0))) hx hb (hts _ wd_121) rfl hK hP hD hS hA (fun _ => rfl) (by decide) (by decide) (by decide) (Nat.le_of_ble_eq_true rfl) (Nat.le_of_ble_eq_true rfl) dX5_init_53 (fun q11 k12 H hK hP hD hS => ?_)
  have hK : va_K (dC, dI) vwCl [(k12, .int)] s := hK
  have hP : va_P (dC, dI) vwCl [(h0, .inr (5, [.int 0, .ref q1, .ref q3, .ref q5, .ref q7, .int 0, .ref q9, .null, .null, .null, .null, .null, .null, .null])), (q7, .inr (7, [.int 0, .ref (x8 0), .ref (x8 1), .ref (x8 2), .ref (x8 3), .ref (x8 4), .ref (x8 5), .ref (x8 6), .int 0, .ref (x8 7), .ref (x8 8), .ref (x8 9)])), (q11, .inl (k12, 12, .inl (fun _ => 0)))] H := hP
  have hD : va_D A [(h0, .inr (5, [.int 0, .ref q1, .ref q3, .ref q5, .ref q7, .int 0, .ref q9, .null, .null, .null, .null, .null, .null, .null])), (q7, .inr (7, [.int 0, .ref (x8 0), .ref (x8 1), .ref (x8 2), .ref (x8 3), .ref (x8 4), .ref (x8 5), .ref (x8 6), .int 0, .ref (x8 7), .ref (x8 8), .ref (x8 9)])), (q11, .inl (k12, 12, .inl (fun _ => 0)))] := hD
  refine W.widen (k := 16) (n := 28828) (Nat.le_of_ble_eq_true rfl) (Nat.le_of_ble_eq_true rfl) ?_
  refine va_putF (D := (dC, dI)) (ci := 5) (v := .ref q11) (ty := (tyX5 7)) (C := RX5) (T := TX5) (N := 14) hx hb hts in_X5 tyX5 tyX5_ok nmX5 hown hK hP hD hS 0 rfl rfl 7 (by decide) (hts _ wd_419) (fun _ h9 => h9) rfl hin rfl (tyX5_ok 7 (by decide)) rfl rfl (Nat.le_of_ble_eq_true rfl) dX5_init_55 (fun H locs hP hD hS => ?_)
  have hP : va_P (dC, dI) vwCl [(h0, .inr (5, [.int 0, .ref q1, .ref q3, .ref q5, .ref q7, .int 0, .ref q9, .ref q11, .null, .null, .null, .null, .null, .null])), (q7, .inr (7, [.int 0, .ref (x8 0), .ref (x8 1), .ref (x8 2), .ref (x8 3), .ref (x8 4), .ref (x8 5), .ref (x8 6), .int 0, .ref (x8 7), .ref (x8 8), .ref (x8 9)])), (q11, .inl (k12, 12, .inl (fun _ => 0)))] H := hP
  have hD : va_D A [(h0, .inr (5, [.int 0, .ref q1, .ref q3, .ref q5, .ref q7, .int 0, .ref q9, .ref q11, .null, .null, .null, .null, .null, .null])), (q7, .inr (7, [.int 0, .ref (x8 0), .ref (x8 1), .ref (x8 2), .ref (x8 3), .ref (x8 4), .ref (x8 5), .ref (x8 6), .int 0, .ref (x8 7), .ref (x8 8), .ref (x8 9)])), (q11, .inl (k12, 12, .inl (fun _ => 0)))] := hD
  have hP := hP.sub (ws' := [(h0, .inr (5, [.int 0, .ref q1, .ref q3, .ref q5, .ref q7, .int 0, .ref q9, .ref q11, .null, .null, .null, .null, .null, .null])), (q7, .inr (7, [.int 0, .ref (x8 0), .ref (x8 1), .ref (x8 2), .ref (x8 3), .ref (x8 4), .ref (x8 5), .ref (x8 6), .int 0, .ref (x8 7), .ref (x8 8), .ref (x8 9)]))]) [0, 1] rfl
  have hD := hD.sub (ws' := [(h0, .inr (5, [.int 0, .ref q1, .ref q3, .ref q5, .ref q7, .int 0, .ref q9, .ref q11, .null, .null, .null, .null, .null, .null])), (q7, .inr (7, [.int 0, .ref (x8 0), .ref (x8 1), .ref (x8 2), .ref (x8 3), .ref (x8 4), .ref (x8 5), .ref (x8 6), .int 0, .ref (x8 7), .ref (x8 8), .ref (x8 9)]))]) [0, 1] (by decide) rfl
  have hK := hK.sub (tys' := []) [] rfl
  refine lv_aload_n hx hb dX5_init_58 rfl (lv_at hl 0 rfl) ?_
  refine lv_bipush (v := 12) hx hb dX5_init_59 (by decide) ?_
  refine va_newa (D := (dC, dI)) (atype := .int) (a0 := (12, .inl (fun _ => 0))) hx hb (hts _ wd_121) rfl hK hP hD hS hA (fun _ => rfl) (by decide) (by decide) (by decide) (Nat.le_of_ble_eq_true rfl) (Nat.le_of_ble_eq_true rfl) dX5_init_61 (fun q13 k14 H hK hP hD hS => ?_)
  have hK : va_K (dC, dI) vwCl [(k14, .int)] s := hK
  have hP : va_P (dC, dI) vwCl [(h0, .inr (5, [.int 0, .ref q1, .ref q3, .ref q5, .ref q7, .int 0, .ref q9, .ref q11, .null, .null, .null, .null, .null, .null])), (q7, .inr (7, [.int 0, .ref (x8 0), .ref (x8 1), .ref (x8 2), .ref (x8 3), .ref (x8 4), .ref (x8 5), .ref (x8 6), .int 0, .ref (x8 7), .ref (x8 8), .ref (x8 9)])), (q13, .inl (k14, 12, .inl (fun _ => 0)))] H := hP
  have hD : va_D A [(h0, .inr (5, [.int 0, .ref q1, .ref q3, .ref q5, .ref q7, .int 0, .ref q9, .ref q11, .null, .null, .null, .null, .null, .null])), (q7, .inr (7, [.int 0, .ref (x8 0), .ref (x8 1), .ref (x8 2), .ref (x8 3), .ref (x8 4), .ref (x8 5), .ref (x8 6), .int 0, .ref (x8 7), .ref (x8 8), .ref (x8 9)])), (q13, .inl (k14, 12, .inl (fun _ => 0)))] := hD
  refine W.widen (k := 17) (n := 28840) (Nat.le_of_ble_eq_true rfl) (Nat.le_of_ble_eq_true rfl) ?_
  refine va_putF (D := (dC, dI)) (ci := 5) (v := .ref q13) (ty := (tyX5 8)) (C := RX5) (T := TX5) (N := 14) hx hb hts in_X5 tyX5 tyX5_ok nmX5 hown hK hP hD hS 0 rfl rfl 8 (by decide) (hts _ wd_421) (fun _ h9 => h9) rfl hin rfl (tyX5_ok 8 (by decide)) rfl rfl (Nat.le_of_ble_eq_true rfl) dX5_init_63 (fun H locs hP hD hS => ?_)
  have hP : va_P (dC, dI) vwCl [(h0, .inr (5, [.int 0, .ref q1, .ref q3, .ref q5, .ref q7, .int 0, .ref q9, .ref q11, .ref q13, .null, .null, .null, .null, .null])), (q7, .inr (7, [.int 0, .ref (x8 0), .ref (x8 1), .ref (x8 2), .ref (x8 3), .ref (x8 4), .ref (x8 5), .ref (x8 6), .int 0, .ref (x8 7), .ref (x8 8), .ref (x8 9)])), (q13, .inl (k14, 12, .inl (fun _ => 0)))] H := hP
  have hD : va_D A [(h0, .inr (5, [.int 0, .ref q1, .ref q3, .ref q5, .ref q7, .int 0, .ref q9, .ref q11, .ref q13, .null, .null, .null, .null, .null])), (q7, .inr (7, [.int 0, .ref (x8 0), .ref (x8 1), .ref (x8 2), .ref (x8 3), .ref (x8 4), .ref (x8 5), .ref (x8 6), .int 0, .ref (x8 7), .ref (x8 8), .ref (x8 9)])), (q13, .inl (k14, 12, .inl (fun _ => 0)))] := hD
  have hP := hP.sub (ws' := [(h0, .inr (5, [.int 0, .ref q1, .ref q3, .ref q5, .ref q7, .int 0, .ref q9, .ref q11, .ref q13, .null, .null, .null, .null, .null])), (q7, .inr (7, [.int 0, .ref (x8 0), .ref (x8 1), .ref (x8 2), .ref (x8 3), .ref (x8 4), .ref (x8 5), .ref (x8 6), .int 0, .ref (x8 7), .ref (x8 8), .ref (x8 9)]))]) [0, 1] rfl
  have hD := hD.sub (ws' := [(h0, .inr (5, [.int 0, .ref q1, .ref q3, .ref q5, .ref q7, .int 0, .ref q9, .ref q11, .ref q13, .null, .null, .null, .null, .null])), (q7, .inr (7, [.int 0, .ref (x8 0), .ref (x8 1), .ref (x8 2), .ref (x8 3), .ref (x8 4), .ref (x8 5), .ref (x8 6), .int 0, .ref (x8 7), .ref (x8 8), .ref (x8 9)]))]) [0, 1] (by decide) rfl
  have hK := hK.sub (tys' := []) [] rfl
  refine lv_aload_n hx hb dX5_init_66 rfl (lv_at hl 0 rfl) ?_
  refine lv_bipush (v := 12) hx hb dX5_init_67 (by decide) ?_
  refine va_newa (D := (dC, dI)) (atype := .int) (a0 := (12, .inl (fun _ => 0))) hx hb (hts _ wd_121) rfl hK hP hD hS hA (fun _ => rfl) (by decide) (by decide) (by decide) (Nat.le_of_ble_eq_true rfl) (Nat.le_of_ble_eq_true rfl) dX5_init_69 (fun q15 k16 H hK hP hD hS => ?_)
  have hK : va_K (dC, dI) vwCl [(k16, .int)] s := hK
  have hP : va_P (dC, dI) vwCl [(h0, .inr (5, [.int 0, .ref q1, .ref q3, .ref q5, .ref q7, .int 0, .ref q9, .ref q11, .ref q13, .null, .null, .null, .null, .null])), (q7, .inr (7, [.int 0, .ref (x8 0), .ref (x8 1), .ref (x8 2), .ref (x8 3), .ref (x8 4), .ref (x8 5), .ref (x8 6), .int 0, .ref (x8 7), .ref (x8 8), .ref (x8 9)])), (q15, .inl (k16, 12, .inl (fun _ => 0)))] H := hP
  have hD : va_D A [(h0, .inr (5, [.int 0, .ref q1, .ref q3, .ref q5, .ref q7, .int 0, .ref q9, .ref q11, .ref q13, .null, .null, .null, .null, .null])), (q7, .inr (7, [.int 0, .ref (x8 0), .ref (x8 1), .ref (x8 2), .ref (x8 3), .ref (x8 4), .ref (x8 5), .ref (x8 6), .int 0, .ref (x8 7), .ref (x8 8), .ref (x8 9)])), (q15, .inl (k16, 12, .inl (fun _ => 0)))] := hD
  refine W.widen (k := 18) (n := 28852) (Nat.le_of_ble_eq_true rfl) (Nat.le_of_ble_eq_true rfl) ?_
  refine va_putF (D := (dC, dI)) (ci := 5) (v := .ref q15) (ty := (tyX5 9)) (C := RX5) (T := TX5) (N := 14) hx hb hts in_X5 tyX5 tyX5_ok nmX5 hown hK hP hD hS 0 rfl rfl 9 (by decide) (hts _ wd_425) (fun _ h9 => h9) rfl hin rfl (tyX5_ok 9 (by decide)) rfl rfl (Nat.le_of_ble_eq_true rfl) dX5_init_71 (fun H locs hP hD hS => ?_)
  have hP : va_P (dC, dI) vwCl [(h0, .inr (5, [.int 0, .ref q1, .ref q3, .ref q5, .ref q7, .int 0, .ref q9, .ref q11, .ref q13, .ref q15, .null, .null, .null, .null])), (q7, .inr (7, [.int 0, .ref (x8 0), .ref (x8 1), .ref (x8 2), .ref (x8 3), .ref (x8 4), .ref (x8 5), .ref (x8 6), .int 0, .ref (x8 7), .ref (x8 8), .ref (x8 9)])), (q15, .inl (k16, 12, .inl (fun _ => 0)))] H := hP
  have hD : va_D A [(h0, .inr (5, [.int 0, .ref q1, .ref q3, .ref q5, .ref q7, .int 0, .ref q9, .ref q11, .ref q13, .ref q15, .null, .null, .null, .null])), (q7, .inr (7, [.int 0, .ref (x8 0), .ref (x8 1), .ref (x8 2), .ref (x8 3), .ref (x8 4), .ref (x8 5), .ref (x8 6), .int 0, .ref (x8 7), .ref (x8 8), .ref (x8 9)])), (q15, .inl (k16, 12, .inl (fun _ => 0)))] := hD
  have hP := hP.sub (ws' := [(h0, .inr (5, [.int 0, .ref q1, .ref q3, .ref q5, .ref q7, .int 0, .ref q9, .ref q11, .ref q13, .ref q15, .null, .null, .null, .null])), (q7, .inr (7, [.int 0, .ref (x8 0), .ref (x8 1), .ref (x8 2), .ref (x8 3), .ref (x8 4), .ref (x8 5), .ref (x8 6), .int 0, .ref (x8 7), .ref (x8 8), .ref (x8 9)]))]) [0, 1] rfl
  have hD := hD.sub (ws' := [(h0, .inr (5, [.int 0, .ref q1, .ref q3, .ref q5, .ref q7, .int 0, .ref q9, .ref q11, .ref q13, .ref q15, .null, .null, .null, .null])), (q7, .inr (7, [.int 0, .ref (x8 0), .ref (x8 1), .ref (x8 2), .ref (x8 3), .ref (x8 4), .ref (x8 5), .ref (x8 6), .int 0, .ref (x8 7), .ref (x8 8), .ref (x8 9)]))]) [0, 1] (by decide) rfl
  have hK := hK.sub (tys' := []) [] rfl
  refine lv_aload_n hx hb dX5_init_74 rfl (lv_at hl 0 rfl) ?_
  refine lv_bipush (v := 12) hx hb dX5_init_75 (by decide) ?_
  refine va_newa (D := (dC, dI)) (atype := .int) (a0 := (12, .inl (fun _ => 0))) hx hb (hts _ wd_121) rfl hK hP hD hS hA (fun _ => rfl) (by decide) (by decide) (by decide) (Nat.le_of_ble_eq_true rfl) (Nat.le_of_ble_eq_true rfl) dX5_init_77 (fun q17 k18 H hK hP hD hS => ?_)
  have hK : va_K (dC, dI) vwCl [(k18, .int)] s := hK
  have hP : va_P (dC, dI) vwCl [(h0, .inr (5, [.int 0, .ref q1, .ref q3, .ref q5, .ref q7, .int 0, .ref q9, .ref q11, .ref q13, .ref q15, .null, .null, .null, .null])), (q7, .inr (7, [.int 0, .ref (x8 0), .ref (x8 1), .ref (x8 2), .ref (x8 3), .ref (x8 4), .ref (x8 5), .ref (x8 6), .int 0, .ref (x8 7), .ref (x8 8), .ref (x8 9)])), (q17, .inl (k18, 12, .inl (fun _ => 0)))] H := hP
  have hD : va_D A [(h0, .inr (5, [.int 0, .ref q1, .ref q3, .ref q5, .ref q7, .int 0, .ref q9, .ref q11, .ref q13, .ref q15, .null, .null, .null, .null])), (q7, .inr (7, [.int 0, .ref (x8 0), .ref (x8 1), .ref (x8 2), .ref (x8 3), .ref (x8 4), .ref (x8 5), .ref (x8 6), .int 0, .ref (x8 7), .ref (x8 8), .ref (x8 9)])), (q17, .inl (k18, 12, .inl (fun _ => 0)))] := hD
  refine W.widen (k := 19) (n := 28864) (Nat.le_of_ble_eq_true rfl) (Nat.le_of_ble_eq_true rfl) ?_
  refine va_putF (D := (dC, dI)) (ci := 5) (v := .ref q17) (ty := (tyX5 10)) (C := RX5) (T := TX5) (N := 14) hx hb hts in_X5 tyX5 tyX5_ok nmX5 hown hK hP hD hS 0 rfl rfl 10 (by decide) (hts _ wd_427) (fun _ h9 => h9) rfl hin rfl (tyX5_ok 10 (by decide)) rfl rfl (Nat.le_of_ble_eq_true rfl) dX5_init_79 (fun H locs hP hD hS => ?_)
  have hP : va_P (dC, dI) vwCl [(h0, .inr (5, [.int 0, .ref q1, .ref q3, .ref q5, .ref q7, .int 0, .ref q9, .ref q11, .ref q13, .ref q15, .ref q17, .null, .null, .null])), (q7, .inr (7, [.int 0, .ref (x8 0), .ref (x8 1), .ref (x8 2), .ref (x8 3), .ref (x8 4), .ref (x8 5), .ref (x8 6), .int 0, .ref (x8 7), .ref (x8 8), .ref (x8 9)])), (q17, .inl (k18, 12, .inl (fun _ => 0)))] H := hP
  have hD : va_D A [(h0, .inr (5, [.int 0, .ref q1, .ref q3, .ref q5, .ref q7, .int 0, .ref q9, .ref q11, .ref q13, .ref q15, .ref q17, .null, .null, .null])), (q7, .inr (7, [.int 0, .ref (x8 0), .ref (x8 1), .ref (x8 2), .ref (x8 3), .ref (x8 4), .ref (x8 5), .ref (x8 6), .int 0, .ref (x8 7), .ref (x8 8), .ref (x8 9)])), (q17, .inl (k18, 12, .inl (fun _ => 0)))] := hD
  have hP := hP.sub (ws' := [(h0, .inr (5, [.int 0, .ref q1, .ref q3, .ref q5, .ref q7, .int 0, .ref q9, .ref q11, .ref q13, .ref q15, .ref q17, .null, .null, .null])), (q7, .inr (7, [.int 0, .ref (x8 0), .ref (x8 1), .ref (x8 2), .ref (x8 3), .ref (x8 4), .ref (x8 5), .ref (x8 6), .int 0, .ref (x8 7), .ref (x8 8), .ref (x8 9)]))]) [0, 1] rfl
  have hD := hD.sub (ws' := [(h0, .inr (5, [.int 0, .ref q1, .ref q3, .ref q5, .ref q7, .int 0, .ref q9, .ref q11, .ref q13, .ref q15, .ref q17, .null, .null, .null])), (q7, .inr (7, [.int 0, .ref (x8 0), .ref (x8 1), .ref (x8 2), .ref (x8 3), .ref (x8 4), .ref (x8 5), .ref (x8 6), .int 0, .ref (x8 7), .ref (x8 8), .ref (x8 9)]))]) [0, 1] (by decide) rfl
  have hK := hK.sub (tys' := []) [] rfl
  refine lv_aload_n hx hb dX5_init_82 rfl (lv_at hl 0 rfl) ?_
  refine lv_sipush (v := 192) hx hb dX5_init_83 (by decide) ?_
  refine va_newa (D := (dC, dI)) (atype := .int) (a0 := (192, .inl (fun _ => 0))) hx hb (hts _ wd_121) rfl hK hP hD hS hA (fun _ => rfl) (by decide) (by decide) (by decide) (Nat.le_of_ble_eq_true rfl) (Nat.le_of_ble_eq_true rfl) dX5_init_86 (fun q19 k20 H hK hP hD hS => ?_)
  have hK : va_K (dC, dI) vwCl [(k20, .int)] s := hK
  have hP : va_P (dC, dI) vwCl [(h0, .inr (5, [.int 0, .ref q1, .ref q3, .ref q5, .ref q7, .int 0, .ref q9, .ref q11, .ref q13, .ref q15, .ref q17, .null, .null, .null])), (q7, .inr (7, [.int 0, .ref (x8 0), .ref (x8 1), .ref (x8 2), .ref (x8 3), .ref (x8 4), .ref (x8 5), .ref (x8 6), .int 0, .ref (x8 7), .ref (x8 8), .ref (x8 9)])), (q19, .inl (k20, 192, .inl (fun _ => 0)))] H := hP
  have hD : va_D A [(h0, .inr (5, [.int 0, .ref q1, .ref q3, .ref q5, .ref q7, .int 0, .ref q9, .ref q11, .ref q13, .ref q15, .ref q17, .null, .null, .null])), (q7, .inr (7, [.int 0, .ref (x8 0), .ref (x8 1), .ref (x8 2), .ref (x8 3), .ref (x8 4), .ref (x8 5), .ref (x8 6), .int 0, .ref (x8 7), .ref (x8 8), .ref (x8 9)])), (q19, .inl (k20, 192, .inl (fun _ => 0)))] := hD
  refine W.widen (k := 20) (n := 29056) (Nat.le_of_ble_eq_true rfl) (Nat.le_of_ble_eq_true rfl) ?_
  refine va_putF (D := (dC, dI)) (ci := 5) (v := .ref q19) (ty := (tyX5 11)) (C := RX5) (T := TX5) (N := 14) hx hb hts in_X5 tyX5 tyX5_ok nmX5 hown hK hP hD hS 0 rfl rfl 11 (by decide) (hts _ wd_429) (fun _ h9 => h9) rfl hin rfl (tyX5_ok 11 (by decide)) rfl rfl (Nat.le_of_ble_eq_true rfl) dX5_init_88 (fun H locs hP hD hS => ?_)
  have hP : va_P (dC, dI) vwCl [(h0, .inr (5, [.int 0, .ref q1, .ref q3, .ref q5, .ref q7, .int 0, .ref q9, .ref q11, .ref q13, .ref q15, .ref q17, .ref q19, .null, .null])), (q7, .inr (7, [.int 0, .ref (x8 0), .ref (x8 1), .ref (x8 2), .ref (x8 3), .ref (x8 4), .ref (x8 5), .ref (x8 6), .int 0, .ref (x8 7), .ref (x8 8), .ref (x8 9)])), (q19, .inl (k20, 192, .inl (fun _ => 0)))] H := hP
  have hD : va_D A [(h0, .inr (5, [.int 0, .ref q1, .ref q3, .ref q5, .ref q7, .int 0, .ref q9, .ref q11, .ref q13, .ref q15, .ref q17, .ref q19, .null, .null])), (q7, .inr (7, [.int 0, .ref (x8 0), .ref (x8 1), .ref (x8 2), .ref (x8 3), .ref (x8 4), .ref (x8 5), .ref (x8 6), .int 0, .ref (x8 7), .ref (x8 8), .ref (x8 9)])), (q19, .inl (k20, 192, .inl (fun _ => 0)))] := hD
  have hP := hP.sub (ws' := [(h0, .inr (5, [.int 0, .ref q1, .ref q3, .ref q5, .ref q7, .int 0, .ref q9, .ref q11, .ref q13, .ref q15, .ref q17, .ref q19, .null, .null])), (q7, .inr (7, [.int 0, .ref (x8 0), .ref (x8 1), .ref (x8 2), .ref (x8 3), .ref (x8 4), .ref (x8 5), .ref (x8 6), .int 0, .ref (x8 7), .ref (x8 8), .ref (x8 9)]))]) [0, 1] rfl
  have hD := hD.sub (ws' := [(h0, .inr (5, [.int 0, .ref q1, .ref q3, .ref q5, .ref q7, .int 0, .ref q9, .ref q11, .ref q13, .ref q15, .ref q17, .ref q19, .null, .null])), (q7, .inr (7, [.int 0, .ref (x8 0), .ref (x8 1), .ref (x8 2), .ref (x8 3), .ref (x8 4), .ref (x8 5), .ref (x8 6), .int 0, .ref (x8 7), .ref (x8 8), .ref (x8 9)]))]) [0, 1] (by decide) rfl
  have hK := hK.sub (tys' := []) [] rfl
  refine lv_aload_n hx hb dX5_init_91 rfl (lv_at hl 0 rfl) ?_
  refine lv_bipush (v := 12) hx hb dX5_init_92 (by decide) ?_
  refine va_newa (D := (dC, dI)) (atype := .long) (a0 := (12, .inr (.inl (fun _ => 0)))) hx hb (hts _ wd_122) rfl hK hP hD hS hA (fun _ => rfl) (by decide) (by decide) (by decide) (Nat.le_of_ble_eq_true rfl) (Nat.le_of_ble_eq_true rfl) dX5_init_94 (fun q21 k22 H hK hP hD hS => ?_)
  have hK : va_K (dC, dI) vwCl [(k22, .long)] s := hK
  have hP : va_P (dC, dI) vwCl [(h0, .inr (5, [.int 0, .ref q1, .ref q3, .ref q5, .ref q7, .int 0, .ref q9, .ref q11, .ref q13, .ref q15, .ref q17, .ref q19, .null, .null])), (q7, .inr (7, [.int 0, .ref (x8 0), .ref (x8 1), .ref (x8 2), .ref (x8 3), .ref (x8 4), .ref (x8 5), .ref (x8 6), .int 0, .ref (x8 7), .ref (x8 8), .ref (x8 9)])), (q21, .inl (k22, 12, .inr (.inl (fun _ => 0))))] H := hP
  have hD : va_D A [(h0, .inr (5, [.int 0, .ref q1, .ref q3, .ref q5, .ref q7, .int 0, .ref q9, .ref q11, .ref q13, .ref q15, .ref q17, .ref q19, .null, .null])), (q7, .inr (7, [.int 0, .ref (x8 0), .ref (x8 1), .ref (x8 2), .ref (x8 3), .ref (x8 4), .ref (x8 5), .ref (x8 6), .int 0, .ref (x8 7), .ref (x8 8), .ref (x8 9)])), (q21, .inl (k22, 12, .inr (.inl (fun _ => 0))))] := hD
  refine W.widen (k := 21) (n := 29068) (Nat.le_of_ble_eq_true rfl) (Nat.le_of_ble_eq_true rfl) ?_
  refine va_putF (D := (dC, dI)) (ci := 5) (v := .ref q21) (ty := (tyX5 12)) (C := RX5) (T := TX5) (N := 14) hx hb hts in_X5 tyX5 tyX5_ok nmX5 hown hK hP hD hS 0 rfl rfl 12 (by decide) (hts _ wd_431) (fun _ h9 => h9) rfl hin rfl (tyX5_ok 12 (by decide)) rfl rfl (Nat.le_of_ble_eq_true rfl) dX5_init_96 (fun H locs hP hD hS => ?_)
  have hP : va_P (dC, dI) vwCl [(h0, .inr (5, [.int 0, .ref q1, .ref q3, .ref q5, .ref q7, .int 0, .ref q9, .ref q11, .ref q13, .ref q15, .ref q17, .ref q19, .ref q21, .null])), (q7, .inr (7, [.int 0, .ref (x8 0), .ref (x8 1), .ref (x8 2), .ref (x8 3), .ref (x8 4), .ref (x8 5), .ref (x8 6), .int 0, .ref (x8 7), .ref (x8 8), .ref (x8 9)])), (q21, .inl (k22, 12, .inr (.inl (fun _ => 0))))] H := hP
  have hD : va_D A [(h0, .inr (5, [.int 0, .ref q1, .ref q3, .ref q5, .ref q7, .int 0, .ref q9, .ref q11, .ref q13, .ref q15, .ref q17, .ref q19, .ref q21, .null])), (q7, .inr (7, [.int 0, .ref (x8 0), .ref (x8 1), .ref (x8 2), .ref (x8 3), .ref (x8 4), .ref (x8 5), .ref (x8 6), .int 0, .ref (x8 7), .ref (x8 8), .ref (x8 9)])), (q21, .inl (k22, 12, .inr (.inl (fun _ => 0))))] := hD
  have hP := hP.sub (ws' := [(h0, .inr (5, [.int 0, .ref q1, .ref q3, .ref q5, .ref q7, .int 0, .ref q9, .ref q11, .ref q13, .ref q15, .ref q17, .ref q19, .ref q21, .null])), (q7, .inr (7, [.int 0, .ref (x8 0), .ref (x8 1), .ref (x8 2), .ref (x8 3), .ref (x8 4), .ref (x8 5), .ref (x8 6), .int 0, .ref (x8 7), .ref (x8 8), .ref (x8 9)]))]) [0, 1] rfl
  have hD := hD.sub (ws' := [(h0, .inr (5, [.int 0, .ref q1, .ref q3, .ref q5, .ref q7, .int 0, .ref q9, .ref q11, .ref q13, .ref q15, .ref q17, .ref q19, .ref q21, .null])), (q7, .inr (7, [.int 0, .ref (x8 0), .ref (x8 1), .ref (x8 2), .ref (x8 3), .ref (x8 4), .ref (x8 5), .ref (x8 6), .int 0, .ref (x8 7), .ref (x8 8), .ref (x8 9)]))]) [0, 1] (by decide) rfl
  have hK := hK.sub (tys' := []) [] rfl
  refine lv_aload_n hx hb dX5_init_99 rfl (lv_at hl 0 rfl) ?_
  refine lv_sipush (v := 144) hx hb dX5_init_100 (by decide) ?_
  refine va_newa (D := (dC, dI)) (atype := .long) (a0 := (144, .inr (.inl (fun _ => 0)))) hx hb (hts _ wd_122) rfl hK hP hD hS hA (fun _ => rfl) (by decide) (by decide) (by decide) (Nat.le_of_ble_eq_true rfl) (Nat.le_of_ble_eq_true rfl) dX5_init_103 (fun q23 k24 H hK hP hD hS => ?_)
  have hK : va_K (dC, dI) vwCl [(k24, .long)] s := hK
  have hP : va_P (dC, dI) vwCl [(h0, .inr (5, [.int 0, .ref q1, .ref q3, .ref q5, .ref q7, .int 0, .ref q9, .ref q11, .ref q13, .ref q15, .ref q17, .ref q19, .ref q21, .null])), (q7, .inr (7, [.int 0, .ref (x8 0), .ref (x8 1), .ref (x8 2), .ref (x8 3), .ref (x8 4), .ref (x8 5), .ref (x8 6), .int 0, .ref (x8 7), .ref (x8 8), .ref (x8 9)])), (q23, .inl (k24, 144, .inr (.inl (fun _ => 0))))] H := hP
  have hD : va_D A [(h0, .inr (5, [.int 0, .ref q1, .ref q3, .ref q5, .ref q7, .int 0, .ref q9, .ref q11, .ref q13, .ref q15, .ref q17, .ref q19, .ref q21, .null])), (q7, .inr (7, [.int 0, .ref (x8 0), .ref (x8 1), .ref (x8 2), .ref (x8 3), .ref (x8 4), .ref (x8 5), .ref (x8 6), .int 0, .ref (x8 7), .ref (x8 8), .ref (x8 9)])), (q23, .inl (k24, 144, .inr (.inl (fun _ => 0))))] := hD
  refine W.widen (k := 22) (n := 29212) (Nat.le_of_ble_eq_true rfl) (Nat.le_of_ble_eq_true rfl) ?_
  refine va_putF (D := (dC, dI)) (ci := 5) (v := .ref q23) (ty := (tyX5 13)) (C := RX5) (T := TX5) (N := 14) hx hb hts in_X5 tyX5 tyX5_ok nmX5 hown hK hP hD hS 0 rfl rfl 13 (by decide) (hts _ wd_432) (fun _ h9 => h9) rfl hin rfl (tyX5_ok 13 (by decide)) rfl rfl (Nat.le_of_ble_eq_true rfl) dX5_init_105 (fun H locs hP hD hS => ?_)
  have hP : va_P (dC, dI) vwCl [(h0, .inr (5, [.int 0, .ref q1, .ref q3, .ref q5, .ref q7, .int 0, .ref q9, .ref q11, .ref q13, .ref q15, .ref q17, .ref q19, .ref q21, .ref q23])), (q7, .inr (7, [.int 0, .ref (x8 0), .ref (x8 1), .ref (x8 2), .ref (x8 3), .ref (x8 4), .ref (x8 5), .ref (x8 6), .int 0, .ref (x8 7), .ref (x8 8), .ref (x8 9)])), (q23, .inl (k24, 144, .inr (.inl (fun _ => 0))))] H := hP
  have hD : va_D A [(h0, .inr (5, [.int 0, .ref q1, .ref q3, .ref q5, .ref q7, .int 0, .ref q9, .ref q11, .ref q13, .ref q15, .ref q17, .ref q19, .ref q21, .ref q23])), (q7, .inr (7, [.int 0, .ref (x8 0), .ref (x8 1), .ref (x8 2), .ref (x8 3), .ref (x8 4), .ref (x8 5), .ref (x8 6), .int 0, .ref (x8 7), .ref (x8 8), .ref (x8 9)])), (q23, .inl (k24, 144, .inr (.inl (fun _ => 0))))] := hD
  have hP := hP.sub (ws' := [(h0, .inr (5, [.int 0, .ref q1, .ref q3, .ref q5, .ref q7, .int 0, .ref q9, .ref q11, .ref q13, .ref q15, .ref q17, .ref q19, .ref q21, .ref q23])), (q7, .inr (7, [.int 0, .ref (x8 0), .ref (x8 1), .ref (x8 2), .ref (x8 3), .ref (x8 4), .ref (x8 5), .ref (x8 6), .int 0, .ref (x8 7), .ref (x8 8), .ref (x8 9)]))]) [0, 1] rfl
  have hD := hD.sub (ws' := [(h0, .inr (5, [.int 0, .ref q1, .ref q3, .ref q5, .ref q7, .int 0, .ref q9, .ref q11, .ref q13, .ref q15, .ref q17, .ref q19, .ref q21, .ref q23])), (q7, .inr (7, [.int 0, .ref (x8 0), .ref (x8 1), .ref (x8 2), .ref (x8 3), .ref (x8 4), .ref (x8 5), .ref (x8 6), .int 0, .ref (x8 7), .ref (x8 8), .ref (x8 9)]))]) [0, 1] (by decide) rfl
  have hK := hK.sub (tys' := []) [] rfl
  have hP9 := hP.sub (ws' := [(h0, .inr (5, [.int 0, .ref q1, .ref q3, .ref q5, .ref q7, .int 0, .ref q9, .ref q11, .ref q13, .ref q15, .ref q17, .ref q19, .ref q21, .ref q23])), (q7, .inr (7, [.int 0, .ref (x8 0), .ref (x8 1), .ref (x8 2), .ref (x8 3), .ref (x8 4), .ref (x8 5), .ref (x8 6), .int 0, .ref (x8 7), .ref (x8 8), .ref (x8 9)]))]) [0, 1] rfl
  have hD9 := hD.sub (ws' := [(h0, .inr (5, [.int 0, .ref q1, .ref q3, .ref q5, .ref q7, .int 0, .ref q9, .ref q11, .ref q13, .ref q15, .ref q17, .ref q19, .ref q21, .ref q23])), (q7, .inr (7, [.int 0, .ref (x8 0), .ref (x8 1), .ref (x8 2), .ref (x8 3), .ref (x8 4), .ref (x8 5), .ref (x8 6), .int 0, .ref (x8 7), .ref (x8 8), .ref (x8 9)]))]) [0, 1] (by decide) rfl
  have hK9 := hK.sub (tys' := []) [] rfl
  refine W.widen (k := 22) (n := 29212) (Nat.le_of_ble_eq_true rfl) (Nat.le_of_ble_eq_true rfl) ?_
  exact W.vret hx hb hr (fun t ht hW => ⟨⟨(), rfl, trivial, (fun k => [q1, q3, q5, q9, q11, q13, q15, q17, q19, q21, q23].getD k 0), q7, x8, by rw [ht]; exact hP9, va_K.moved hW.alike hK9, hD9⟩, hS.F ht⟩) hS.2.2 dX5_init_108
set_option maxHeartbeats 4000000 in
set_option maxRecDepth 100000 in
theorem ct_X6_init (l : Launch) (dC : Nat → ClassId) (dI : Nat → Nat → Nat) (h0 : Nat) (h1 : Nat) (sz : Nat) : Met l yX6_init (.code yX6_init cX6_init 2 none :: tb) ({ frames := 2, cells := 4, slots := 667, locals := 32 }) (va_Pc [.ref h0, .ref h1] (fun U => U.heap.size = sz ∧ va_P (dC, dI) vwCl [(h0, .inr (6, [.int 0, .int 0, .null, .null, .null, .int 0, .int 0, .int 0]))] U.heap ∧ va_K (dC, dI) vwCl [] U ∧ va_D (fun _ => True) [(h0, .inr (6, [.int 0, .int 0, .null, .null, .null, .int 0, .int 0, .int 0]))] ∧ va_Nw (.methodLinkNest RX6 11 yX0_init "Sleepers") U)) (va_Qv (fun (_ : Unit) => True) (fun (_ : Unit) t => ∃ (pu : Nat), ∃ (nu : Nat), ∃ (qu : Nat → Nat), va_P (dC, dI) vwCl [(h0, .inr (6, [.int 0, .int 0, .ref pu, .ref h1, .ref nu, .int 0, .int 0, .int 0])), (pu, .inr (0, [.int 0, .ref (qu 0), .ref (qu 1)]))] t.heap ∧ va_K (dC, dI) vwCl [] t ∧ va_D (va_A [(h0, .inr (6, [.int 0, .int 0, .null, .null, .null, .int 0, .int 0, .int 0]))] sz) [(h0, .inr (6, [.int 0, .int 0, .ref pu, .ref h1, .ref nu, .int 0, .int 0, .int 0])), (pu, .inr (0, [.int 0, .ref (qu 0), .ref (qu 1)]))]) (va_A [(h0, .inr (6, [.int 0, .int 0, .null, .null, .null, .int 0, .int 0, .int 0]))] sz)) 4 667 (va_A [(h0, .inr (6, [.int 0, .int 0, .null, .null, .null, .int 0, .int 0, .int 0]))] sz) := by
  refine Met.ofW (cc := cX6_init) (maxL := 2) (ret := none) (by decide) rfl ?_
  intro p e s m args below meth c s₁ B hml hv
  obtain ⟨rfl, hsz, hP, hK, hD0, hZ0⟩ := hv
  have hx := B.exec
  have hb := B.bytes
  have hr := B.returns
  have hts : ∀ w ∈ tb, w.before _ s = true := fun w h => atoms_spec (ws := (.code yX6_init cX6_init 2 none :: tb)) B.pre w (List.mem_cons_of_mem _ h)
  have hown : s.vm.findClass RX6 = some m.cls := findClass_of_methodNamed B.named
  have hlocks := B.notSynchronized
  have hin : meth.name = "<init>" := (name_of_methodNamed B.named B.method).1
  subst hsz
  have hD := hD0.self (sz := s.heap.size)
  generalize hAe : va_A [(h0, .inr (6, [.int 0, .int 0, .null, .null, .null, .int 0, .int 0, .int 0]))] s.heap.size = A at hD ⊢
  have hA : ∀ q : Nat, s.heap.size ≤ q → A q := fun q h => by rw [← hAe]; exact Or.inr h
  have hS : va_S A s.heap s.heap [] := va_S.rf
  have hP : va_P (dC, dI) vwCl [(h0, .inr (6, [.int 0, .int 0, .null, .null, .null, .int 0, .int 0, .int 0]))] s.heap := hP
  have hl := lv_entry ([.ref h0, .ref h1]) (n := 2) (Nat.le_of_ble_eq_true rfl)
  rw [lg_entry_eq]
  generalize (lg_sl ([.ref h0, .ref h1]) ++ List.replicate (2 - (lg_sl ([.ref h0, .ref h1])).length) Slot.unset).toArray = ls at hl ⊢
  have hl : lv_has ls 2 [(0, .ref h0), (1, .ref h1)] := hl
  refine lv_aload_n hx hb dX6_init_0 rfl (lv_at hl 0 rfl) ?_
  refine W.objInit hx hb hown (hts _ wd_298) (hts _ wd_30) (hts _ wd_obj) rfl (by rw [hml]; exact hl.1) rfl dX6_init_1 (Nat.le_of_ble_eq_true rfl) (Nat.le_of_ble_eq_true rfl) ?_
  refine W.eq (g2 := F0 m 4 ls []) rfl ?_
  refine lv_aload_n hx hb dX6_init_4 rfl (lv_at hl 0 rfl) ?_
  refine va_new (ci := 0) (fs := [.int 0, .null, .null]) (C := RX0) (T := TX0) (N := 3) hx hb hts in_X0 tyX0 tyX0_ok hown (hts _ wd_299) (hts _ wd_217) (hts _ wd_11) hK hP hD hS hA rfl df_X0 (Nat.le_of_ble_eq_true rfl) (Nat.le_of_ble_eq_true rfl) dX6_init_5 (fun q1 H hP hD hS => ?_)
  have hP : va_P (dC, dI) vwCl [(h0, .inr (6, [.int 0, .int 0, .null, .null, .null, .int 0, .int 0, .int 0])), (q1, .inr (0, [.int 0, .null, .null]))] H := hP
  have hD : va_D A [(h0, .inr (6, [.int 0, .int 0, .null, .null, .null, .int 0, .int 0, .int 0])), (q1, .inr (0, [.int 0, .null, .null]))] := hD
  refine W.widen (k := 1) (n := 3) (Nat.le_of_ble_eq_true rfl) (Nat.le_of_ble_eq_true rfl) ?_
  refine lv_dup hx hb dX6_init_8 rfl ?_
  have hPc := hP.sub (ws' := [(q1, .inr (0, [.int 0, .null, .null]))]) [1] rfl
  have hDc := hD.sub (ws' := [(q1, .inr (0, [.int 0, .null, .null]))]) [1] (by decide) rfl
  have hKc := hK.sub (tys' := []) [] rfl
  have hFc := va_free (wc := [(q1, .inr (0, [.int 0, .null, .null]))]) hD hS hA [1] rfl
  refine va_callv (va_runIN (As := []) (rest := [.ref q1, .ref h0]) ⟨hx, hb, hml, hown, hts⟩ (ct_X0_init l dC dI q1 H.size) ⟨va_cnB 0 hts (gd_c wd_220) rfl rfl rfl hZ0 (hts _ wd_11) (by decide +kernel) ⟨Nat.le_of_ble_eq_true rfl, Nat.le_of_ble_eq_true rfl⟩, rfl, hts _ wd_219⟩ ⟨fun a U g mk q => by obtain ⟨q0, q1, qP, qK, qD⟩ := q; exact ⟨q0, q1, qP, va_K.moved (u := U) (U := U.calling g mk a) (Vm.Alike.refl U.vm) qK, qD⟩, fun U hU hW => ⟨rfl, by rw [hU], by rw [hU]; exact hPc, va_K.moved hW.alike hKc, hDc.weaken (fun _ _ _ _ => trivial)⟩⟩ rfl rfl hl.1 rfl (lv_room (Nat.le_of_ble_eq_true rfl)) dX6_init_9 ⟨Nat.le_of_ble_eq_true rfl, Nat.le_of_ble_eq_true rfl⟩) hS (fun q _ h => hFc q h) hFc (fun u t H1 locs ht hvm hw hB hz1 hk1 hS => ?_)
  obtain ⟨x2, hP1, hK1, hD1⟩ := hB
  rw [ht] at hP1
  have hK1 := va_K.moved hvm.symm hK1
  obtain ⟨hP, hD⟩ := va_join (wr := [(h0, .inr (6, [.int 0, .int 0, .null, .null, .null, .int 0, .int 0, .int 0]))]) (w1 := [(q1, .inr (0, [.int 0, .ref (x2 0), .ref (x2 1)]))]) hP hD [1] [0] rfl rfl (by decide) (by decide) hk1 hFc hP1 hD1
  have hK := (hK.sub (tys' := []) [] rfl).app (hK1.sub (tys' := []) [] rfl)
  generalize H1 = H at hP hS ⊢
  have hP : va_P (dC, dI) vwCl [(h0, .inr (6, [.int 0, .int 0, .null, .null, .null, .int 0, .int 0, .int 0])), (q1, .inr (0, [.int 0, .ref (x2 0), .ref (x2 1)]))] H := hP
  have hD : va_D A [(h0, .inr (6, [.int 0, .int 0, .null, .null, .null, .int 0, .int 0, .int 0])), (q1, .inr (0, [.int 0, .ref (x2 0), .ref (x2 1)]))] := hD
  have hK : va_K (dC, dI) vwCl [] s := hK
  refine W.widen (k := 3) (n := 603) (Nat.le_of_ble_eq_true rfl) (Nat.le_of_ble_eq_true rfl) ?_
  refine va_putF (D := (dC, dI)) (ci := 6) (v := .ref q1) (ty := (tyX6 2)) (C := RX6) (T := TX6) (N := 8) hx hb hts in_X6 tyX6 tyX6_ok nmX6 hown hK hP hD hS 0 rfl rfl 2 (by decide) (hts _ wd_305) (fun _ h9 => h9) rfl hin rfl (tyX6_ok 2 (by decide)) rfl rfl (Nat.le_of_ble_eq_true rfl) dX6_init_12 (fun H locs hP hD hS => ?_)
  have hP : va_P (dC, dI) vwCl [(h0, .inr (6, [.int 0, .int 0, .ref q1, .null, .null, .int 0, .int 0, .int 0])), (q1, .inr (0, [.int 0, .ref (x2 0), .ref (x2 1)]))] H := hP
  have hD : va_D A [(h0, .inr (6, [.int 0, .int 0, .ref q1, .null, .null, .int 0, .int 0, .int 0])), (q1, .inr (0, [.int 0, .ref (x2 0), .ref (x2 1)]))] := hD
  refine lv_aload_n hx hb dX6_init_15 rfl (lv_at hl 0 rfl) ?_
  refine lv_bipush (v := 64) hx hb dX6_init_16 (by decide) ?_
  refine va_newa (D := (dC, dI)) (atype := .int) (a0 := (64, .inl (fun _ => 0))) hx hb (hts _ wd_121) rfl hK hP hD hS hA (fun _ => rfl) (by decide) (by decide) (by decide) (Nat.le_of_ble_eq_true rfl) (Nat.le_of_ble_eq_true rfl) dX6_init_18 (fun q3 k4 H hK hP hD hS => ?_)
  have hK : va_K (dC, dI) vwCl [(k4, .int)] s := hK
  have hP : va_P (dC, dI) vwCl [(h0, .inr (6, [.int 0, .int 0, .ref q1, .null, .null, .int 0, .int 0, .int 0])), (q1, .inr (0, [.int 0, .ref (x2 0), .ref (x2 1)])), (q3, .inl (k4, 64, .inl (fun _ => 0)))] H := hP
  have hD : va_D A [(h0, .inr (6, [.int 0, .int 0, .ref q1, .null, .null, .int 0, .int 0, .int 0])), (q1, .inr (0, [.int 0, .ref (x2 0), .ref (x2 1)])), (q3, .inl (k4, 64, .inl (fun _ => 0)))] := hD
  refine W.widen (k := 4) (n := 667) (Nat.le_of_ble_eq_true rfl) (Nat.le_of_ble_eq_true rfl) ?_
  refine va_putF (D := (dC, dI)) (ci := 6) (v := .ref q3) (ty := (tyX6 4)) (C := RX6) (T := TX6) (N := 8) hx hb hts in_X6 tyX6 tyX6_ok nmX6 hown hK hP hD hS 0 rfl rfl 4 (by decide) (hts _ wd_308) (fun _ h9 => h9) rfl hin rfl (tyX6_ok 4 (by decide)) rfl rfl (Nat.le_of_ble_eq_true rfl) dX6_init_20 (fun H locs hP hD hS => ?_)
  have hP : va_P (dC, dI) vwCl [(h0, .inr (6, [.int 0, .int 0, .ref q1, .null, .ref q3, .int 0, .int 0, .int 0])), (q1, .inr (0, [.int 0, .ref (x2 0), .ref (x2 1)])), (q3, .inl (k4, 64, .inl (fun _ => 0)))] H := hP
  have hD : va_D A [(h0, .inr (6, [.int 0, .int 0, .ref q1, .null, .ref q3, .int 0, .int 0, .int 0])), (q1, .inr (0, [.int 0, .ref (x2 0), .ref (x2 1)])), (q3, .inl (k4, 64, .inl (fun _ => 0)))] := hD
  have hP := hP.sub (ws' := [(h0, .inr (6, [.int 0, .int 0, .ref q1, .null, .ref q3, .int 0, .int 0, .int 0])), (q1, .inr (0, [.int 0, .ref (x2 0), .ref (x2 1)]))]) [0, 1] rfl
  have hD := hD.sub (ws' := [(h0, .inr (6, [.int 0, .int 0, .ref q1, .null, .ref q3, .int 0, .int 0, .int 0])), (q1, .inr (0, [.int 0, .ref (x2 0), .ref (x2 1)]))]) [0, 1] (by decide) rfl
  have hK := hK.sub (tys' := []) [] rfl
  refine lv_aload_n hx hb dX6_init_23 rfl (lv_at hl 0 rfl) ?_
  refine lv_aload_n hx hb dX6_init_24 rfl (lv_at hl 1 rfl) ?_
  refine va_putF (D := (dC, dI)) (ci := 6) (v := .ref h1) (ty := (tyX6 3)) (C := RX6) (T := TX6) (N := 8) hx hb hts in_X6 tyX6 tyX6_ok nmX6 hown hK hP hD hS 0 rfl rfl 3 (by decide) (hts _ wd_307) (fun _ h9 => h9) rfl hin rfl (tyX6_ok 3 (by decide)) rfl rfl (Nat.le_of_ble_eq_true rfl) dX6_init_25 (fun H locs hP hD hS => ?_)
  have hP : va_P (dC, dI) vwCl [(h0, .inr (6, [.int 0, .int 0, .ref q1, .ref h1, .ref q3, .int 0, .int 0, .int 0])), (q1, .inr (0, [.int 0, .ref (x2 0), .ref (x2 1)]))] H := hP
  have hD : va_D A [(h0, .inr (6, [.int 0, .int 0, .ref q1, .ref h1, .ref q3, .int 0, .int 0, .int 0])), (q1, .inr (0, [.int 0, .ref (x2 0), .ref (x2 1)]))] := hD
  have hP9 := hP.sub (ws' := [(h0, .inr (6, [.int 0, .int 0, .ref q1, .ref h1, .ref q3, .int 0, .int 0, .int 0])), (q1, .inr (0, [.int 0, .ref (x2 0), .ref (x2 1)]))]) [0, 1] rfl
  have hD9 := hD.sub (ws' := [(h0, .inr (6, [.int 0, .int 0, .ref q1, .ref h1, .ref q3, .int 0, .int 0, .int 0])), (q1, .inr (0, [.int 0, .ref (x2 0), .ref (x2 1)]))]) [0, 1] (by decide) rfl
  have hK9 := hK.sub (tys' := []) [] rfl
  refine W.widen (k := 4) (n := 667) (Nat.le_of_ble_eq_true rfl) (Nat.le_of_ble_eq_true rfl) ?_
  exact W.vret hx hb hr (fun t ht hW => ⟨⟨(), rfl, trivial, q1, q3, x2, by rw [ht]; exact hP9, va_K.moved hW.alike hK9, hD9⟩, hS.F ht⟩) hS.2.2 dX6_init_28
end
section
theorem wd_10 : (Jvm.Cond.initialized "Sleepers$Line") ∈ tb := tb_at 10 (by decide +kernel) (by decide +kernel)
theorem wd_198 : (Jvm.Cond.methodLink "Sleepers$Hall" (3 : Nat) ({ cls := "java/lang/Object", name := "<init>", desc := "()V" } : Jvm.MethodName)) ∈ tb := tb_at 198 (by decide +kernel) (by decide +kernel)
theorem wd_199 : (Jvm.Cond.classLink "Sleepers$Hall" (9 : Nat) "Sleepers$Task") ∈ tb := tb_at 199 (by decide +kernel) (by decide +kernel)
theorem wd_201 : (Jvm.Cond.classLink "Sleepers$Hall" (27 : Nat) "Sleepers$Line") ∈ tb := tb_at 201 (by decide +kernel) (by decide +kernel)
theorem wd_203 : (Jvm.Cond.instantiable "Sleepers$Line" (2 : Nat)) ∈ tb := tb_at 203 (by decide +kernel) (by decide +kernel)
theorem wd_205 : (Jvm.Cond.instanceMethod ({ cls := "Sleepers$Line", name := "<init>", desc := "()V" } : Jvm.MethodName)) ∈ tb := tb_at 205 (by decide +kernel) (by decide +kernel)
theorem wd_206 : (Jvm.Cond.code ({ cls := "Sleepers$Line", name := "<init>", desc := "()V" } : Jvm.MethodName) prog_4_method_1_code (1 : Nat) (Option.none : Option Jvm.ClassFile.FieldType)) ∈ tb := tb_at 206 (by decide +kernel) (by decide +kernel)
theorem wd_216 : (Jvm.Cond.classLink "Sleepers$Hall" (38 : Nat) "Sleepers$Book") ∈ tb := tb_at 216 (by decide +kernel) (by decide +kernel)
theorem wd_235 : (Jvm.Cond.fieldLink "Sleepers$Hall" (11 : Nat) "Sleepers$Hall" "tasks" "[LSleepers$Task;") ∈ tb := tb_at 235 (by decide +kernel) (by decide +kernel)
theorem wd_241 : (Jvm.Cond.fieldLink "Sleepers$Hall" (17 : Nat) "Sleepers$Hall" "row" "[I") ∈ tb := tb_at 241 (by decide +kernel) (by decide +kernel)
theorem wd_248 : (Jvm.Cond.fieldLink "Sleepers$Hall" (21 : Nat) "Sleepers$Hall" "letters" "[I") ∈ tb := tb_at 248 (by decide +kernel) (by decide +kernel)
theorem wd_250 : (Jvm.Cond.fieldLink "Sleepers$Hall" (24 : Nat) "Sleepers$Hall" "letterCount" "[I") ∈ tb := tb_at 250 (by decide +kernel) (by decide +kernel)
theorem wd_253 : (Jvm.Cond.fieldLink "Sleepers$Hall" (29 : Nat) "Sleepers$Hall" "lines" "[LSleepers$Line;") ∈ tb := tb_at 253 (by decide +kernel) (by decide +kernel)
theorem wd_256 : (Jvm.Cond.fieldLink "Sleepers$Hall" (34 : Nat) "Sleepers$Hall" "alarms" "LSleepers$Line;") ∈ tb := tb_at 256 (by decide +kernel) (by decide +kernel)
theorem wd_257 : (Jvm.Cond.fieldLink "Sleepers$Hall" (41 : Nat) "Sleepers$Hall" "lost" "LSleepers$Book;") ∈ tb := tb_at 257 (by decide +kernel) (by decide +kernel)
theorem wd_259 : (Jvm.Cond.fieldLink "Sleepers$Hall" (45 : Nat) "Sleepers$Hall" "agenda" "[I") ∈ tb := tb_at 259 (by decide +kernel) (by decide +kernel)
theorem dX1_init_0 : decode cX1_init 0 = .ok (.aload_n 0, 1) := by decide +kernel
theorem dX1_init_1 : decode cX1_init 1 = .ok (.invokespecial 3, 3) := by decide +kernel
theorem dX1_init_4 : decode cX1_init 4 = .ok (.aload_n 0, 1) := by decide +kernel
theorem dX1_init_5 : decode cX1_init 5 = .ok (.sipush 200, 3) := by decide +kernel
theorem dX1_init_8 : decode cX1_init 8 = .ok (.anewarray 9, 3) := by decide +kernel
theorem dX1_init_11 : decode cX1_init 11 = .ok (.putfield 11, 3) := by decide +kernel
theorem dX1_init_14 : decode cX1_init 14 = .ok (.aload_n 0, 1) := by decide +kernel
theorem dX1_init_15 : decode cX1_init 15 = .ok (.sipush 200, 3) := by decide +kernel
theorem dX1_init_18 : decode cX1_init 18 = .ok (.newarray .int, 2) := by decide +kernel
theorem dX1_init_20 : decode cX1_init 20 = .ok (.putfield 17, 3) := by decide +kernel
theorem dX1_init_23 : decode cX1_init 23 = .ok (.aload_n 0, 1) := by decide +kernel
theorem dX1_init_24 : decode cX1_init 24 = .ok (.sipush 400, 3) := by decide +kernel
theorem dX1_init_27 : decode cX1_init 27 = .ok (.newarray .int, 2) := by decide +kernel
theorem dX1_init_29 : decode cX1_init 29 = .ok (.putfield 21, 3) := by decide +kernel
theorem dX1_init_32 : decode cX1_init 32 = .ok (.aload_n 0, 1) := by decide +kernel
theorem dX1_init_33 : decode cX1_init 33 = .ok (.bipush 8, 2) := by decide +kernel
theorem dX1_init_35 : decode cX1_init 35 = .ok (.newarray .int, 2) := by decide +kernel
theorem dX1_init_37 : decode cX1_init 37 = .ok (.putfield 24, 3) := by decide +kernel
theorem dX1_init_40 : decode cX1_init 40 = .ok (.aload_n 0, 1) := by decide +kernel
theorem dX1_init_41 : decode cX1_init 41 = .ok (.bipush 8, 2) := by decide +kernel
theorem dX1_init_43 : decode cX1_init 43 = .ok (.anewarray 27, 3) := by decide +kernel
theorem dX1_init_46 : decode cX1_init 46 = .ok (.putfield 29, 3) := by decide +kernel
theorem dX1_init_49 : decode cX1_init 49 = .ok (.aload_n 0, 1) := by decide +kernel
theorem dX1_init_50 : decode cX1_init 50 = .ok (.new 27, 3) := by decide +kernel
theorem dX1_init_53 : decode cX1_init 53 = .ok (.dup, 1) := by decide +kernel
theorem dX1_init_54 : decode cX1_init 54 = .ok (.invokespecial 33, 3) := by decide +kernel
theorem dX1_init_57 : decode cX1_init 57 = .ok (.putfield 34, 3) := by decide +kernel
theorem dX1_init_60 : decode cX1_init 60 = .ok (.aload_n 0, 1) := by decide +kernel
theorem dX1_init_61 : decode cX1_init 61 = .ok (.new 38, 3) := by decide +kernel
theorem dX1_init_64 : decode cX1_init 64 = .ok (.dup, 1) := by decide +kernel
theorem dX1_init_65 : decode cX1_init 65 = .ok (.invokespecial 40, 3) := by decide +kernel
theorem dX1_init_68 : decode cX1_init 68 = .ok (.putfield 41, 3) := by decide +kernel
theorem dX1_init_71 : decode cX1_init 71 = .ok (.aload_n 0, 1) := by decide +kernel
theorem dX1_init_72 : decode cX1_init 72 = .ok (.sipush 416, 3) := by decide +kernel
theorem dX1_init_75 : decode cX1_init 75 = .ok (.newarray .int, 2) := by decide +kernel
theorem dX1_init_77 : decode cX1_init 77 = .ok (.putfield 45, 3) := by decide +kernel
theorem dX1_init_80 : decode cX1_init 80 = .ok (.iconst 0, 1) := by decide +kernel
theorem dX1_init_81 : decode cX1_init 81 = .ok (.istore_n 1, 1) := by decide +kernel
theorem dX1_init_82 : decode cX1_init 82 = .ok (.iload_n 1, 1) := by decide +kernel
theorem dX1_init_83 : decode cX1_init 83 = .ok (.bipush 8, 2) := by decide +kernel
theorem dX1_init_85 : decode cX1_init 85 = .ok (.if_icmp .ge 22, 3) := by decide +kernel
theorem dX1_init_88 : decode cX1_init 88 = .ok (.aload_n 0, 1) := by decide +kernel
theorem dX1_init_89 : decode cX1_init 89 = .ok (.getfield 29, 3) := by decide +kernel
theorem dX1_init_92 : decode cX1_init 92 = .ok (.iload_n 1, 1) := by decide +kernel
theorem dX1_init_93 : decode cX1_init 93 = .ok (.new 27, 3) := by decide +kernel
theorem dX1_init_96 : decode cX1_init 96 = .ok (.dup, 1) := by decide +kernel
theorem dX1_init_97 : decode cX1_init 97 = .ok (.invokespecial 33, 3) := by decide +kernel
theorem dX1_init_100 : decode cX1_init 100 = .ok (.aastore, 1) := by decide +kernel
theorem dX1_init_101 : decode cX1_init 101 = .ok (.iinc 1 1, 3) := by decide +kernel
theorem dX1_init_104 : decode cX1_init 104 = .ok (.goto (-22), 3) := by decide +kernel
theorem dX1_init_107 : decode cX1_init 107 = .ok (.return_, 1) := by decide +kernel
set_option maxHeartbeats 4000000 in
set_option maxRecDepth 100000 in
theorem ct_X1_init (l : Launch) (dC : Nat → ClassId) (dI : Nat → Nat → Nat) (h0 : Nat) (sz : Nat) : Met l yX1_init (.code yX1_init cX1_init 2 none :: tb) ({ frames := 2, cells := 18, slots := 1853, locals := 32 }) (va_Pc [.ref h0] (fun U => U.heap.size = sz ∧ va_P (dC, dI) vwCl [(h0, .inr (1, [.null, .null, .int 0, .int 0, .null, .int 0, .int 0, .null, .null, .null, .null, .null, .null, .int 0, .null]))] U.heap ∧ va_K (dC, dI) vwCl [] U ∧ va_D (fun _ => True) [(h0, .inr (1, [.null, .null, .int 0, .int 0, .null, .int 0, .int 0, .null, .null, .null, .null, .null, .null, .int 0, .null]))] ∧ va_Nw (.methodLinkNest RX1 33 yX2_init "Sleepers") U ∧ va_Nw (.methodLinkNest RX1 40 yX0_init "Sleepers") U ∧ va_AO RX9 U ∧ va_AO RX2 U)) (va_Qv (fun (_ : Unit) => True) (fun (_ : Unit) t => ∃ (xt : Nat), ∃ (xr : Nat), ∃ (le : Nat), ∃ (lc : Nat), ∃ (ln : Nat), ∃ (al : Nat), ∃ (lo : Nat), ∃ (xg : Nat), ∃ (kle : ClassId), ∃ (klc : ClassId), ∃ (kln : ClassId), ∃ (ql : Nat → Nat), ∃ (l0 : Nat), ∃ (l1 : Nat), ∃ (l2 : Nat), ∃ (l3 : Nat), ∃ (l4 : Nat), ∃ (l5 : Nat), ∃ (l6 : Nat), ∃ (l7 : Nat), va_P (dC, dI) vwCl [(h0, .inr (1, [.null, .ref xt, .int 0, .int 0, .ref xr, .int 0, .int 0, .ref le, .ref lc, .ref ln, .ref al, .ref lo, .ref xg, .int 0, .null])), (le, .inl (kle, 400, .inl (fun _ => 0))), (lc, .inl (klc, 8, .inl (fun _ => 0))), (ln, .inl (kln, 8, .inr (.inr (.inr (.inr (fun i => [l0, l1, l2, l3, l4, l5, l6, l7][i]?)))))), (l0, .inr (2, [.null, .null])), (l1, .inr (2, [.null, .null])), (l2, .inr (2, [.null, .null])), (l3, .inr (2, [.null, .null])), (l4, .inr (2, [.null, .null])), (l5, .inr (2, [.null, .null])), (l6, .inr (2, [.null, .null])), (l7, .inr (2, [.null, .null])), (al, .inr (2, [.null, .null])), (lo, .inr (0, [.int 0, .ref (ql 0), .ref (ql 1)]))] t.heap ∧ va_K (dC, dI) vwCl [(kle, .int), (klc, .int), (kln, .object RX2)] t ∧ va_D (va_A [(h0, .inr (1, [.null, .null, .int 0, .int 0, .null, .int 0, .int 0, .null, .null, .null, .null, .null, .null, .int 0, .null]))] sz) [(h0, .inr (1, [.null, .ref xt, .int 0, .int 0, .ref xr, .int 0, .int 0, .ref le, .ref lc, .ref ln, .ref al, .ref lo, .ref xg, .int 0, .null])), (le, .inl (kle, 400, .inl (fun _ => 0))), (lc, .inl (klc, 8, .inl (fun _ => 0))), (ln, .inl (kln, 8, .inr (.inr (.inr (.inr (fun i => [l0, l1, l2, l3, l4, l5, l6, l7][i]?)))))), (l0, .inr (2, [.null, .null])), (l1, .inr (2, [.null, .null])), (l2, .inr (2, [.null, .null])), (l3, .inr (2, [.null, .null])), (l4, .inr (2, [.null, .null])), (l5, .inr (2, [.null, .null])), (l6, .inr (2, [.null, .null])), (l7, .inr (2, [.null, .null])), (al, .inr (2, [.null, .null])), (lo, .inr (0, [.int 0, .ref (ql 0), .ref (ql 1)]))]) (va_A [(h0, .inr (1, [.null, .null, .int 0, .int 0, .null, .int 0, .int 0, .null, .null, .null, .null, .null, .null, .int 0, .null]))] sz)) 18 1853 (va_A [(h0, .inr (1, [.null, .null, .int 0, .int 0, .null, .int 0, .int 0, .null, .null, .null, .null, .null, .null, .int 0, .null]))] sz) := by
  refine Met.ofW (cc := cX1_init) (maxL := 2) (ret := none) (by decide) rfl ?_
  intro p e s m args below meth c s₁ B hml hv
  obtain ⟨rfl, hsz, hP, hK, hD0, hZ0, hZ1, hZ2, hZ3⟩ := hv
  have hx := B.exec
  have hb := B.bytes
  have hr := B.returns
  have hts : ∀ w ∈ tb, w.before _ s = true := fun w h => atoms_spec (ws := (.code yX1_init cX1_init 2 none :: tb)) B.pre w (List.mem_cons_of_mem _ h)
  have hown : s.vm.findClass RX1 = some m.cls := findClass_of_methodNamed B.named
  have hlocks := B.notSynchronized
  have hin : meth.name = "<init>" := (name_of_methodNamed B.named B.method).1
  subst hsz
  have hD := hD0.self (sz := s.heap.size)
  generalize hAe : va_A [(h0, .inr (1, [.null, .null, .int 0, .int 0, .null, .int 0, .int 0, .null, .null, .null, .null, .null, .null, .int 0, .null]))] s.heap.size = A at hD ⊢
  have hA : ∀ q : Nat, s.heap.size ≤ q → A q := fun q h => by rw [← hAe]; exact Or.inr h
  have hS : va_S A s.heap s.heap [] := va_S.rf
  have hP : va_P (dC, dI) vwCl [(h0, .inr (1, [.null, .null, .int 0, .int 0, .null, .int 0, .int 0, .null, .null, .null, .null, .null, .null, .int 0, .null]))] s.heap := hP
  have hl := lv_entry ([.ref h0]) (n := 2) (Nat.le_of_ble_eq_true rfl)
  rw [lg_entry_eq]
  generalize (lg_sl ([.ref h0]) ++ List.replicate (2 - (lg_sl ([.ref h0])).length) Slot.unset).toArray = ls at hl ⊢
  have hl : lv_has ls 2 [(0, .ref h0)] := hl
  refine lv_aload_n hx hb dX1_init_0 rfl (lv_at hl 0 rfl) ?_
  refine W.objInit hx hb hown (hts _ wd_198) (hts _ wd_30) (hts _ wd_obj) rfl (by rw [hml]; exact hl.1) rfl dX1_init_1 (Nat.le_of_ble_eq_true rfl) (Nat.le_of_ble_eq_true rfl) ?_
  refine W.eq (g2 := F0 m 4 ls []) rfl ?_
  refine lv_aload_n hx hb dX1_init_4 rfl (lv_at hl 0 rfl) ?_
  refine lv_sipush (v := 200) hx hb dX1_init_5 (by decide) ?_
  refine va_newq (N' := 200) hx hb hown (hts _ wd_199) hZ2 hK hP hD hS hA (by decide) (by decide) (by decide) (Nat.le_of_ble_eq_true rfl) (Nat.le_of_ble_eq_true rfl) dX1_init_8 (fun q1 k2 H hK hP hD hS => ?_)
  have hK : va_K (dC, dI) vwCl [(k2, .object RX9)] s := hK
  have hP : va_P (dC, dI) vwCl [(h0, .inr (1, [.null, .null, .int 0, .int 0, .null, .int 0, .int 0, .null, .null, .null, .null, .null, .null, .int 0, .null])), (q1, .inl (k2, 200, .inr (.inr (.inr (.inr (fun _ => none))))))] H := hP
  have hD : va_D A [(h0, .inr (1, [.null, .null, .int 0, .int 0, .null, .int 0, .int 0, .null, .null, .null, .null, .null, .null, .int 0, .null])), (q1, .inl (k2, 200, .inr (.inr (.inr (.inr (fun _ => none))))))] := hD
  refine W.widen (k := 1) (n := 200) (Nat.le_of_ble_eq_true rfl) (Nat.le_of_ble_eq_true rfl) ?_
  refine va_putF (D := (dC, dI)) (ci := 1) (v := .ref q1) (ty := (tyX1 1)) (C := RX1) (T := TX1) (N := 15) hx hb hts in_X1 tyX1 tyX1_ok nmX1 hown hK hP hD hS 0 rfl rfl 1 (by decide) (hts _ wd_235) (fun _ h9 => h9) rfl hin rfl (tyX1_ok 1 (by decide)) rfl rfl (Nat.le_of_ble_eq_true rfl) dX1_init_11 (fun H locs hP hD hS => ?_)
  have hP : va_P (dC, dI) vwCl [(h0, .inr (1, [.null, .ref q1, .int 0, .int 0, .null, .int 0, .int 0, .null, .null, .null, .null, .null, .null, .int 0, .null])), (q1, .inl (k2, 200, .inr (.inr (.inr (.inr (fun _ => none))))))] H := hP
  have hD : va_D A [(h0, .inr (1, [.null, .ref q1, .int 0, .int 0, .null, .int 0, .int 0, .null, .null, .null, .null, .null, .null, .int 0, .null])), (q1, .inl (k2, 200, .inr (.inr (.inr (.inr (fun _ => none))))))] := hD
  have hP := hP.sub (ws' := [(h0, .inr (1, [.null, .ref q1, .int 0, .int 0, .null, .int 0, .int 0, .null, .null, .null, .null, .null, .null, .int 0, .null]))]) [0] rfl
  have hD := hD.sub (ws' := [(h0, .inr (1, [.null, .ref q1, .int 0, .int 0, .null, .int 0, .int 0, .null, .null, .null, .null, .null, .null, .int 0, .null]))]) [0] (by decide) rfl
  have hK := hK.sub (tys' := []) [] rfl
  refine lv_aload_n hx hb dX1_init_14 rfl (lv_at hl 0 rfl) ?_
  refine lv_sipush (v := 200) hx hb dX1_init_15 (by decide) ?_
  refine va_newa (D := (dC, dI)) (atype := .int) (a0 := (200, .inl (fun _ => 0))) hx hb (hts _ wd_121) rfl hK hP hD hS hA (fun _ => rfl) (by decide) (by decide) (by decide) (Nat.le_of_ble_eq_true rfl) (Nat.le_of_ble_eq_true rfl) dX1_init_18 (fun q3 k4 H hK hP hD hS => ?_)
  have hK : va_K (dC, dI) vwCl [(k4, .int)] s := hK
  have hP : va_P (dC, dI) vwCl [(h0, .inr (1, [.null, .ref q1, .int 0, .int 0, .null, .int 0, .int 0, .null, .null, .null, .null, .null, .null, .int 0, .null])), (q3, .inl (k4, 200, .inl (fun _ => 0)))] H := hP
  have hD : va_D A [(h0, .inr (1, [.null, .ref q1, .int 0, .int 0, .null, .int 0, .int 0, .null, .null, .null, .null, .null, .null, .int 0, .null])), (q3, .inl (k4, 200, .inl (fun _ => 0)))] := hD
  refine W.widen (k := 2) (n := 400) (Nat.le_of_ble_eq_true rfl) (Nat.le_of_ble_eq_true rfl) ?_
  refine va_putF (D := (dC, dI)) (ci := 1) (v := .ref q3) (ty := (tyX1 4)) (C := RX1) (T := TX1) (N := 15) hx hb hts in_X1 tyX1 tyX1_ok nmX1 hown hK hP hD hS 0 rfl rfl 4 (by decide) (hts _ wd_241) (fun _ h9 => h9) rfl hin rfl (tyX1_ok 4 (by decide)) rfl rfl (Nat.le_of_ble_eq_true rfl) dX1_init_20 (fun H locs hP hD hS => ?_)
  have hP : va_P (dC, dI) vwCl [(h0, .inr (1, [.null, .ref q1, .int 0, .int 0, .ref q3, .int 0, .int 0, .null, .null, .null, .null, .null, .null, .int 0, .null])), (q3, .inl (k4, 200, .inl (fun _ => 0)))] H := hP
  have hD : va_D A [(h0, .inr (1, [.null, .ref q1, .int 0, .int 0, .ref q3, .int 0, .int 0, .null, .null, .null, .null, .null, .null, .int 0, .null])), (q3, .inl (k4, 200, .inl (fun _ => 0)))] := hD
  have hP := hP.sub (ws' := [(h0, .inr (1, [.null, .ref q1, .int 0, .int 0, .ref q3, .int 0, .int 0, .null, .null, .null, .null, .null, .null, .int 0, .null]))]) [0] rfl
  have hD := hD.sub (ws' := [(h0, .inr (1, [.null, .ref q1, .int 0, .int 0, .ref q3, .int 0, .int 0, .null, .null, .null, .null, .null, .null, .int 0, .null]))]) [0] (by decide) rfl
  have hK := hK.sub (tys' := []) [] rfl
  refine lv_aload_n hx hb dX1_init_23 rfl (lv_at hl 0 rfl) ?_
  refine lv_sipush (v := 400) hx hb dX1_init_24 (by decide) ?_
  refine va_newa (D := (dC, dI)) (atype := .int) (a0 := (400, .inl (fun _ => 0))) hx hb (hts _ wd_121) rfl hK hP hD hS hA (fun _ => rfl) (by decide) (by decide) (by decide) (Nat.le_of_ble_eq_true rfl) (Nat.le_of_ble_eq_true rfl) dX1_init_27 (fun q5 k6 H hK hP hD hS => ?_)
  have hK : va_K (dC, dI) vwCl [(k6, .int)] s := hK
  have hP : va_P (dC, dI) vwCl [(h0, .inr (1, [.null, .ref q1, .int 0, .int 0, .ref q3, .int 0, .int 0, .null, .null, .null, .null, .null, .null, .int 0, .null])), (q5, .inl (k6, 400, .inl (fun _ => 0)))] H := hP
  have hD : va_D A [(h0, .inr (1, [.null, .ref q1, .int 0, .int 0, .ref q3, .int 0, .int 0, .null, .null, .null, .null, .null, .null, .int 0, .null])), (q5, .inl (k6, 400, .inl (fun _ => 0)))] := hD
  refine W.widen (k := 3) (n := 800) (Nat.le_of_ble_eq_true rfl) (Nat.le_of_ble_eq_true rfl) ?_
  refine va_putF (D := (dC, dI)) (ci := 1) (v := .ref q5) (ty := (tyX1 7)) (C := RX1) (T := TX1) (N := 15) hx hb hts in_X1 tyX1 tyX1_ok nmX1 hown hK hP hD hS 0 rfl rfl 7 (by decide) (hts _ wd_248) (fun _ h9 => h9) rfl hin rfl (tyX1_ok 7 (by decide)) rfl rfl (Nat.le_of_ble_eq_true rfl) dX1_init_29 (fun H locs hP hD hS => ?_)
  have hP : va_P (dC, dI) vwCl [(h0, .inr (1, [.null, .ref q1, .int 0, .int 0, .ref q3, .int 0, .int 0, .ref q5, .null, .null, .null, .null, .null, .int 0, .null])), (q5, .inl (k6, 400, .inl (fun _ => 0)))] H := hP
  have hD : va_D A [(h0, .inr (1, [.null, .ref q1, .int 0, .int 0, .ref q3, .int 0, .int 0, .ref q5, .null, .null, .null, .null, .null, .int 0, .null])), (q5, .inl (k6, 400, .inl (fun _ => 0)))] := hD
  refine lv_aload_n hx hb dX1_init_32 rfl (lv_at hl 0 rfl) ?_
  refine lv_bipush (v := 8) hx hb dX1_init_33 (by decide) ?_
  refine va_newa (D := (dC, dI)) (atype := .int) (a0 := (8, .inl (fun _ => 0))) hx hb (hts _ wd_121) rfl hK hP hD hS hA (fun _ => rfl) (by decide) (by decide) (by decide) (Nat.le_of_ble_eq_true rfl) (Nat.le_of_ble_eq_true rfl) dX1_init_35 (fun q7 k8 H hK hP hD hS => ?_)
  have hK : va_K (dC, dI) vwCl [(k6, .int), (k8, .int)] s := hK
  have hP : va_P (dC, dI) vwCl [(h0, .inr (1, [.null, .ref q1, .int 0, .int 0, .ref q3, .int 0, .int 0, .ref q5, .null, .null, .null, .null, .null, .int 0, .null])), (q5, .inl (k6, 400, .inl (fun _ => 0))), (q7, .inl (k8, 8, .inl (fun _ => 0)))] H := hP
  have hD : va_D A [(h0, .inr (1, [.null, .ref q1, .int 0, .int 0, .ref q3, .int 0, .int 0, .ref q5, .null, .null, .null, .null, .null, .int 0, .null])), (q5, .inl (k6, 400, .inl (fun _ => 0))), (q7, .inl (k8, 8, .inl (fun _ => 0)))] := hD
  refine W.widen (k := 4) (n := 808) (Nat.le_of_ble_eq_true rfl) (Nat.le_of_ble_eq_true rfl) ?_
  refine va_putF (D := (dC, dI)) (ci := 1) (v := .ref q7) (ty := (tyX1 8)) (C := RX1) (T := TX1) (N := 15) hx hb hts in_X1 tyX1 tyX1_ok nmX1 hown hK hP hD hS 0 rfl rfl 8 (by decide) (hts _ wd_250) (fun _ h9 => h9) rfl hin rfl (tyX1_ok 8 (by decide)) rfl rfl (Nat.le_of_ble_eq_true rfl) dX1_init_37 (fun H locs hP hD hS => ?_)
  have hP : va_P (dC, dI) vwCl [(h0, .inr (1, [.null, .ref q1, .int 0, .int 0, .ref q3, .int 0, .int 0, .ref q5, .ref q7, .null, .null, .null, .null, .int 0, .null])), (q5, .inl (k6, 400, .inl (fun _ => 0))), (q7, .inl (k8, 8, .inl (fun _ => 0)))] H := hP
  have hD : va_D A [(h0, .inr (1, [.null, .ref q1, .int 0, .int 0, .ref q3, .int 0, .int 0, .ref q5, .ref q7, .null, .null, .null, .null, .int 0, .null])), (q5, .inl (k6, 400, .inl (fun _ => 0))), (q7, .inl (k8, 8, .inl (fun _ => 0)))] := hD
  refine lv_aload_n hx hb dX1_init_40 rfl (lv_at hl 0 rfl) ?_
  refine lv_bipush (v := 8) hx hb dX1_init_41 (by decide) ?_
  refine va_newq (N' := 8) hx hb hown (hts _ wd_201) hZ3 hK hP hD hS hA (by decide) (by decide) (by decide) (Nat.le_of_ble_eq_true rfl) (Nat.le_of_ble_eq_true rfl) dX1_init_43 (fun q9 k10 H hK hP hD hS => ?_)
  have hK : va_K (dC, dI) vwCl [(k6, .int), (k8, .int), (k10, .object RX2)] s := hK
  have hP : va_P (dC, dI) vwCl [(h0, .inr (1, [.null, .ref q1, .int 0, .int 0, .ref q3, .int 0, .int 0, .ref q5, .ref q7, .null, .null, .null, .null, .int 0, .null])), (q5, .inl (k6, 400, .inl (fun _ => 0))), (q7, .inl (k8, 8, .inl (fun _ => 0))), (q9, .inl (k10, 8, .inr (.inr (.inr (.inr (fun _ => none))))))] H := hP
  have hD : va_D A [(h0, .inr (1, [.null, .ref q1, .int 0, .int 0, .ref q3, .int 0, .int 0, .ref q5, .ref q7, .null, .null, .null, .null, .int 0, .null])), (q5, .inl (k6, 400, .inl (fun _ => 0))), (q7, .inl (k8, 8, .inl (fun _ => 0))), (q9, .inl (k10, 8, .inr (.inr (.inr (.inr (fun _ => none))))))] := hD
  refine W.widen (k := 5) (n := 816) (Nat.le_of_ble_eq_true rfl) (Nat.le_of_ble_eq_true rfl) ?_
  refine va_putF (D := (dC, dI)) (ci := 1) (v := .ref q9) (ty := (tyX1 9)) (C := RX1) (T := TX1) (N := 15) hx hb hts in_X1 tyX1 tyX1_ok nmX1 hown hK hP hD hS 0 rfl rfl 9 (by decide) (hts _ wd_253) (fun _ h9 => h9) rfl hin rfl (tyX1_ok 9 (by decide)) rfl rfl (Nat.le_of_ble_eq_true rfl) dX1_init_46 (fun H locs hP hD hS => ?_)
  have hP : va_P (dC, dI) vwCl [(h0, .inr (1, [.null, .ref q1, .int 0, .int 0, .ref q3, .int 0, .int 0, .ref q5, .ref q7, .ref q9, .null, .null, .null, .int 0, .null])), (q5, .inl (k6, 400, .inl (fun _ => 0))), (q7, .inl (k8, 8, .inl (fun _ => 0))), (q9, .inl (k10, 8, .inr (.inr (.inr (.inr (fun _ => none))))))] H := hP
  have hD : va_D A [(h0, .inr (1, [.null, .ref q1, .int 0, .int 0, .ref q3, .int 0, .int 0, .ref q5, .ref q7, .ref q9, .null, .null, .null, .int 0, .null])), (q5, .inl (k6, 400, .inl (fun _ => 0))), (q7, .inl (k8, 8, .inl (fun _ => 0))), (q9, .inl (k10, 8, .inr (.inr (.inr (.inr (fun _ => none))))))] := hD
  refine lv_aload_n hx hb dX1_init_49 rfl (lv_at hl 0 rfl) ?_
  refine va_new (ci := 2) (fs := [.null, .null]) (C := RX2) (T := TX2) (N := 2) hx hb hts in_X2 tyX2 tyX2_ok hown (hts _ wd_201) (hts _ wd_203) (hts _ wd_10) hK hP hD hS hA rfl df_X2 (Nat.le_of_ble_eq_true rfl) (Nat.le_of_ble_eq_true rfl) dX1_init_50 (fun q11 H hP hD hS => ?_)
  have hP : va_P (dC, dI) vwCl [(h0, .inr (1, [.null, .ref q1, .int 0, .int 0, .ref q3, .int 0, .int 0, .ref q5, .ref q7, .ref q9, .null, .null, .null, .int 0, .null])), (q5, .inl (k6, 400, .inl (fun _ => 0))), (q7, .inl (k8, 8, .inl (fun _ => 0))), (q9, .inl (k10, 8, .inr (.inr (.inr (.inr (fun _ => none)))))), (q11, .inr (2, [.null, .null]))] H := hP
  have hD : va_D A [(h0, .inr (1, [.null, .ref q1, .int 0, .int 0, .ref q3, .int 0, .int 0, .ref q5, .ref q7, .ref q9, .null, .null, .null, .int 0, .null])), (q5, .inl (k6, 400, .inl (fun _ => 0))), (q7, .inl (k8, 8, .inl (fun _ => 0))), (q9, .inl (k10, 8, .inr (.inr (.inr (.inr (fun _ => none)))))), (q11, .inr (2, [.null, .null]))] := hD
  refine W.widen (k := 6) (n := 818) (Nat.le_of_ble_eq_true rfl) (Nat.le_of_ble_eq_true rfl) ?_
  refine lv_dup hx hb dX1_init_53 rfl ?_
  have hPc := hP.sub (ws' := [(q11, .inr (2, [.null, .null]))]) [4] rfl
  have hDc := hD.sub (ws' := [(q11, .inr (2, [.null, .null]))]) [4] (by decide) rfl
  have hKc := hK.sub (tys' := []) [] rfl
  have hFc := va_free (wc := [(q11, .inr (2, [.null, .null]))]) hD hS hA [4] rfl
  refine va_callv (va_runIN (As := []) (rest := [.ref q11, .ref h0]) ⟨hx, hb, hml, hown, hts⟩ (ct_X2_init l dC dI q11 H.size) ⟨va_cnB 0 hts (gd_c wd_206) rfl rfl rfl hZ0 (hts _ wd_10) (by decide +kernel) ⟨Nat.le_of_ble_eq_true rfl, Nat.le_of_ble_eq_true rfl⟩, rfl, hts _ wd_205⟩ ⟨fun a U g mk q => by obtain ⟨q0, q1, qP, qK, qD⟩ := q; exact ⟨q0, q1, qP, va_K.moved (u := U) (U := U.calling g mk a) (Vm.Alike.refl U.vm) qK, qD⟩, fun U hU hW => ⟨rfl, by rw [hU], by rw [hU]; exact hPc, va_K.moved hW.alike hKc, hDc.weaken (fun _ _ _ _ => trivial)⟩⟩ rfl rfl hl.1 rfl (lv_room (Nat.le_of_ble_eq_true rfl)) dX1_init_54 ⟨Nat.le_of_ble_eq_true rfl, Nat.le_of_ble_eq_true rfl⟩) hS (fun q _ h => hFc q h) hFc (fun u t H1 locs ht hvm hw hB hz1 hk1 hS => ?_)
  obtain ⟨hP1, hK1, hD1⟩ := hB
  rw [ht] at hP1
  have hK1 := va_K.moved hvm.symm hK1
  obtain ⟨hP, hD⟩ := va_join (wr := [(h0, .inr (1, [.null, .ref q1, .int 0, .int 0, .ref q3, .int 0, .int 0, .ref q5, .ref q7, .ref q9, .null, .null, .null, .int 0, .null])), (q5, .inl (k6, 400, .inl (fun _ => 0))), (q7, .inl (k8, 8, .inl (fun _ => 0))), (q9, .inl (k10, 8, .inr (.inr (.inr (.inr (fun _ => none))))))]) (w1 := [(q11, .inr (2, [.null, .null]))]) hP hD [4] [0, 1, 2, 3] rfl rfl (by decide) (by decide) hk1 hFc hP1 hD1
  have hK := (hK.sub (tys' := [(k6, .int), (k8, .int), (k10, .object RX2)]) [0, 1, 2] rfl).app (hK1.sub (tys' := []) [] rfl)
  generalize H1 = H at hP hS ⊢
  have hP : va_P (dC, dI) vwCl [(h0, .inr (1, [.null, .ref q1, .int 0, .int 0, .ref q3, .int 0, .int 0, .ref q5, .ref q7, .ref q9, .null, .null, .null, .int 0, .null])), (q5, .inl (k6, 400, .inl (fun _ => 0))), (q7, .inl (k8, 8, .inl (fun _ => 0))), (q9, .inl (k10, 8, .inr (.inr (.inr (.inr (fun _ => none)))))), (q11, .inr (2, [.null, .null]))] H := hP
  have hD : va_D A [(h0, .inr (1, [.null, .ref q1, .int 0, .int 0, .ref q3, .int 0, .int 0, .ref q5, .ref q7, .ref q9, .null, .null, .null, .int 0, .null])), (q5, .inl (k6, 400, .inl (fun _ => 0))), (q7, .inl (k8, 8, .inl (fun _ => 0))), (q9, .inl (k10, 8, .inr (.inr (.inr (.inr (fun _ => none)))))), (q11, .inr (2, [.null, .null]))] := hD
  have hK : va_K (dC, dI) vwCl [(k6, .int), (k8, .int), (k10, .object RX2)] s := hK
  refine va_putF (D := (dC, dI)) (ci := 1) (v := .ref q11) (ty := (tyX1 10)) (C := RX1) (T := TX1) (N := 15) hx hb hts in_X1 tyX1 tyX1_ok nmX1 hown hK hP hD hS 0 rfl rfl 10 (by decide) (hts _ wd_256) (fun _ h9 => h9) rfl hin rfl (tyX1_ok 10 (by decide)) rfl rfl (Nat.le_of_ble_eq_true rfl) dX1_init_57 (fun H locs hP hD hS => ?_)
  have hP : va_P (dC, dI) vwCl [(h0, .inr (1, [.null, .ref q1, .int 0, .int 0, .ref q3, .int 0, .int 0, .ref q5, .ref q7, .ref q9, .ref q11, .null, .null, .int 0, .null])), (q5, .inl (k6, 400, .inl (fun _ => 0))), (q7, .inl (k8, 8, .inl (fun _ => 0))), (q9, .inl (k10, 8, .inr (.inr (.inr (.inr (fun _ => none)))))), (q11, .inr (2, [.null, .null]))] H := hP
  have hD : va_D A [(h0, .inr (1, [.null, .ref q1, .int 0, .int 0, .ref q3, .int 0, .int 0, .ref q5, .ref q7, .ref q9, .ref q11, .null, .null, .int 0, .null])), (q5, .inl (k6, 400, .inl (fun _ => 0))), (q7, .inl (k8, 8, .inl (fun _ => 0))), (q9, .inl (k10, 8, .inr (.inr (.inr (.inr (fun _ => none)))))), (q11, .inr (2, [.null, .null]))] := hD
  refine lv_aload_n hx hb dX1_init_60 rfl (lv_at hl 0 rfl) ?_
  refine va_new (ci := 0) (fs := [.int 0, .null, .null]) (C := RX0) (T := TX0) (N := 3) hx hb hts in_X0 tyX0 tyX0_ok hown (hts _ wd_216) (hts _ wd_217) (hts _ wd_11) hK hP hD hS hA rfl df_X0 (Nat.le_of_ble_eq_true rfl) (Nat.le_of_ble_eq_true rfl) dX1_init_61 (fun q12 H hP hD hS => ?_)
  have hP : va_P (dC, dI) vwCl [(h0, .inr (1, [.null, .ref q1, .int 0, .int 0, .ref q3, .int 0, .int 0, .ref q5, .ref q7, .ref q9, .ref q11, .null, .null, .int 0, .null])), (q5, .inl (k6, 400, .inl (fun _ => 0))), (q7, .inl (k8, 8, .inl (fun _ => 0))), (q9, .inl (k10, 8, .inr (.inr (.inr (.inr (fun _ => none)))))), (q11, .inr (2, [.null, .null])), (q12, .inr (0, [.int 0, .null, .null]))] H := hP
  have hD : va_D A [(h0, .inr (1, [.null, .ref q1, .int 0, .int 0, .ref q3, .int 0, .int 0, .ref q5, .ref q7, .ref q9, .ref q11, .null, .null, .int 0, .null])), (q5, .inl (k6, 400, .inl (fun _ => 0))), (q7, .inl (k8, 8, .inl (fun _ => 0))), (q9, .inl (k10, 8, .inr (.inr (.inr (.inr (fun _ => none)))))), (q11, .inr (2, [.null, .null])), (q12, .inr (0, [.int 0, .null, .null]))] := hD
  refine W.widen (k := 7) (n := 821) (Nat.le_of_ble_eq_true rfl) (Nat.le_of_ble_eq_true rfl) ?_
  refine lv_dup hx hb dX1_init_64 rfl ?_
  have hPc := hP.sub (ws' := [(q12, .inr (0, [.int 0, .null, .null]))]) [5] rfl
  have hDc := hD.sub (ws' := [(q12, .inr (0, [.int 0, .null, .null]))]) [5] (by decide) rfl
  have hKc := hK.sub (tys' := []) [] rfl
  have hFc := va_free (wc := [(q12, .inr (0, [.int 0, .null, .null]))]) hD hS hA [5] rfl
  refine va_callv (va_runIN (As := []) (rest := [.ref q12, .ref h0]) ⟨hx, hb, hml, hown, hts⟩ (ct_X0_init l dC dI q12 H.size) ⟨va_cnB 0 hts (gd_c wd_220) rfl rfl rfl hZ1 (hts _ wd_11) (by decide +kernel) ⟨Nat.le_of_ble_eq_true rfl, Nat.le_of_ble_eq_true rfl⟩, rfl, hts _ wd_219⟩ ⟨fun a U g mk q => by obtain ⟨q0, q1, qP, qK, qD⟩ := q; exact ⟨q0, q1, qP, va_K.moved (u := U) (U := U.calling g mk a) (Vm.Alike.refl U.vm) qK, qD⟩, fun U hU hW => ⟨rfl, by rw [hU], by rw [hU]; exact hPc, va_K.moved hW.alike hKc, hDc.weaken (fun _ _ _ _ => trivial)⟩⟩ rfl rfl hl.1 rfl (lv_room (Nat.le_of_ble_eq_true rfl)) dX1_init_65 ⟨Nat.le_of_ble_eq_true rfl, Nat.le_of_ble_eq_true rfl⟩) hS (fun q _ h => hFc q h) hFc (fun u t H1 locs ht hvm hw hB hz1 hk1 hS => ?_)
  obtain ⟨x13, hP1, hK1, hD1⟩ := hB
  rw [ht] at hP1
  have hK1 := va_K.moved hvm.symm hK1
  obtain ⟨hP, hD⟩ := va_join (wr := [(h0, .inr (1, [.null, .ref q1, .int 0, .int 0, .ref q3, .int 0, .int 0, .ref q5, .ref q7, .ref q9, .ref q11, .null, .null, .int 0, .null])), (q5, .inl (k6, 400, .inl (fun _ => 0))), (q7, .inl (k8, 8, .inl (fun _ => 0))), (q9, .inl (k10, 8, .inr (.inr (.inr (.inr (fun _ => none)))))), (q11, .inr (2, [.null, .null]))]) (w1 := [(q12, .inr (0, [.int 0, .ref (x13 0), .ref (x13 1)]))]) hP hD [5] [0, 1, 2, 3, 4] rfl rfl (by decide) (by decide) hk1 hFc hP1 hD1
  have hK := (hK.sub (tys' := [(k6, .int), (k8, .int), (k10, .object RX2)]) [0, 1, 2] rfl).app (hK1.sub (tys' := []) [] rfl)
  generalize H1 = H at hP hS ⊢
  have hP : va_P (dC, dI) vwCl [(h0, .inr (1, [.null, .ref q1, .int 0, .int 0, .ref q3, .int 0, .int 0, .ref q5, .ref q7, .ref q9, .ref q11, .null, .null, .int 0, .null])), (q5, .inl (k6, 400, .inl (fun _ => 0))), (q7, .inl (k8, 8, .inl (fun _ => 0))), (q9, .inl (k10, 8, .inr (.inr (.inr (.inr (fun _ => none)))))), (q11, .inr (2, [.null, .null])), (q12, .inr (0, [.int 0, .ref (x13 0), .ref (x13 1)]))] H := hP
  have hD : va_D A [(h0, .inr (1, [.null, .ref q1, .int 0, .int 0, .ref q3, .int 0, .int 0, .ref q5, .ref q7, .ref q9, .ref q11, .null, .null, .int 0, .null])), (q5, .inl (k6, 400, .inl (fun _ => 0))), (q7, .inl (k8, 8, .inl (fun _ => 0))), (q9, .inl (k10, 8, .inr (.inr (.inr (.inr (fun _ => none)))))), (q11, .inr (2, [.null, .null])), (q12, .inr (0, [.int 0, .ref (x13 0), .ref (x13 1)]))] := hD
  have hK : va_K (dC, dI) vwCl [(k6, .int), (k8, .int), (k10, .object RX2)] s := hK
  refine W.widen (k := 9) (n := 1421) (Nat.le_of_ble_eq_true rfl) (Nat.le_of_ble_eq_true rfl) ?_
  refine va_putF (D := (dC, dI)) (ci := 1) (v := .ref q12) (ty := (tyX1 11)) (C := RX1) (T := TX1) (N := 15) hx hb hts in_X1 tyX1 tyX1_ok nmX1 hown hK hP hD hS 0 rfl rfl 11 (by decide) (hts _ wd_257) (fun _ h9 => h9) rfl hin rfl (tyX1_ok 11 (by decide)) rfl rfl (Nat.le_of_ble_eq_true rfl) dX1_init_68 (fun H locs hP hD hS => ?_)
  have hP : va_P (dC, dI) vwCl [(h0, .inr (1, [.null, .ref q1, .int 0, .int 0, .ref q3, .int 0, .int 0, .ref q5, .ref q7, .ref q9, .ref q11, .ref q12, .null, .int 0, .null])), (q5, .inl (k6, 400, .inl (fun _ => 0))), (q7, .inl (k8, 8, .inl (fun _ => 0))), (q9, .inl (k10, 8, .inr (.inr (.inr (.inr (fun _ => none)))))), (q11, .inr (2, [.null, .null])), (q12, .inr (0, [.int 0, .ref (x13 0), .ref (x13 1)]))] H := hP
  have hD : va_D A [(h0, .inr (1, [.null, .ref q1, .int 0, .int 0, .ref q3, .int 0, .int 0, .ref q5, .ref q7, .ref q9, .ref q11, .ref q12, .null, .int 0, .null])), (q5, .inl (k6, 400, .inl (fun _ => 0))), (q7, .inl (k8, 8, .inl (fun _ => 0))), (q9, .inl (k10, 8, .inr (.inr (.inr (.inr (fun _ => none)))))), (q11, .inr (2, [.null, .null])), (q12, .inr (0, [.int 0, .ref (x13 0), .ref (x13 1)]))] := hD
  refine lv_aload_n hx hb dX1_init_71 rfl (lv_at hl 0 rfl) ?_
  refine lv_sipush (v := 416) hx hb dX1_init_72 (by decide) ?_
  refine va_newa (D := (dC, dI)) (atype := .int) (a0 := (416, .inl (fun _ => 0))) hx hb (hts _ wd_121) rfl hK hP hD hS hA (fun _ => rfl) (by decide) (by decide) (by decide) (Nat.le_of_ble_eq_true rfl) (Nat.le_of_ble_eq_true rfl) dX1_init_75 (fun q14 k15 H hK hP hD hS => ?_)
  have hK : va_K (dC, dI) vwCl [(k6, .int), (k8, .int), (k10, .object RX2), (k15, .int)] s := hK
  have hP : va_P (dC, dI) vwCl [(h0, .inr (1, [.null, .ref q1, .int 0, .int 0, .ref q3, .int 0, .int 0, .ref q5, .ref q7, .ref q9, .ref q11, .ref q12, .null, .int 0, .null])), (q5, .inl (k6, 400, .inl (fun _ => 0))), (q7, .inl (k8, 8, .inl (fun _ => 0))), (q9, .inl (k10, 8, .inr (.inr (.inr (.inr (fun _ => none)))))), (q11, .inr (2, [.null, .null])), (q12, .inr (0, [.int 0, .ref (x13 0), .ref (x13 1)])), (q14, .inl (k15, 416, .inl (fun _ => 0)))] H := hP
  have hD : va_D A [(h0, .inr (1, [.null, .ref q1, .int 0, .int 0, .ref q3, .int 0, .int 0, .ref q5, .ref q7, .ref q9, .ref q11, .ref q12, .null, .int 0, .null])), (q5, .inl (k6, 400, .inl (fun _ => 0))), (q7, .inl (k8, 8, .inl (fun _ => 0))), (q9, .inl (k10, 8, .inr (.inr (.inr (.inr (fun _ => none)))))), (q11, .inr (2, [.null, .null])), (q12, .inr (0, [.int 0, .ref (x13 0), .ref (x13 1)])), (q14, .inl (k15, 416, .inl (fun _ => 0)))] := hD
  refine W.widen (k := 10) (n := 1837) (Nat.le_of_ble_eq_true rfl) (Nat.le_of_ble_eq_true rfl) ?_
  refine va_putF (D := (dC, dI)) (ci := 1) (v := .ref q14) (ty := (tyX1 12)) (C := RX1) (T := TX1) (N := 15) hx hb hts in_X1 tyX1 tyX1_ok nmX1 hown hK hP hD hS 0 rfl rfl 12 (by decide) (hts _ wd_259) (fun _ h9 => h9) rfl hin rfl (tyX1_ok 12 (by decide)) rfl rfl (Nat.le_of_ble_eq_true rfl) dX1_init_77 (fun H locs hP hD hS => ?_)
  have hP : va_P (dC, dI) vwCl [(h0, .inr (1, [.null, .ref q1, .int 0, .int 0, .ref q3, .int 0, .int 0, .ref q5, .ref q7, .ref q9, .ref q11, .ref q12, .ref q14, .int 0, .null])), (q5, .inl (k6, 400, .inl (fun _ => 0))), (q7, .inl (k8, 8, .inl (fun _ => 0))), (q9, .inl (k10, 8, .inr (.inr (.inr (.inr (fun _ => none)))))), (q11, .inr (2, [.null, .null])), (q12, .inr (0, [.int 0, .ref (x13 0), .ref (x13 1)])), (q14, .inl (k15, 416, .inl (fun _ => 0)))] H := hP
  have hD : va_D A [(h0, .inr (1, [.null, .ref q1, .int 0, .int 0, .ref q3, .int 0, .int 0, .ref q5, .ref q7, .ref q9, .ref q11, .ref q12, .ref q14, .int 0, .null])), (q5, .inl (k6, 400, .inl (fun _ => 0))), (q7, .inl (k8, 8, .inl (fun _ => 0))), (q9, .inl (k10, 8, .inr (.inr (.inr (.inr (fun _ => none)))))), (q11, .inr (2, [.null, .null])), (q12, .inr (0, [.int 0, .ref (x13 0), .ref (x13 1)])), (q14, .inl (k15, 416, .inl (fun _ => 0)))] := hD
  have hP := hP.sub (ws' := [(h0, .inr (1, [.null, .ref q1, .int 0, .int 0, .ref q3, .int 0, .int 0, .ref q5, .ref q7, .ref q9, .ref q11, .ref q12, .ref q14, .int 0, .null])), (q5, .inl (k6, 400, .inl (fun _ => 0))), (q7, .inl (k8, 8, .inl (fun _ => 0))), (q9, .inl (k10, 8, .inr (.inr (.inr (.inr (fun _ => none)))))), (q11, .inr (2, [.null, .null])), (q12, .inr (0, [.int 0, .ref (x13 0), .ref (x13 1)]))]) [0, 1, 2, 3, 4, 5] rfl
  have hD := hD.sub (ws' := [(h0, .inr (1, [.null, .ref q1, .int 0, .int 0, .ref q3, .int 0, .int 0, .ref q5, .ref q7, .ref q9, .ref q11, .ref q12, .ref q14, .int 0, .null])), (q5, .inl (k6, 400, .inl (fun _ => 0))), (q7, .inl (k8, 8, .inl (fun _ => 0))), (q9, .inl (k10, 8, .inr (.inr (.inr (.inr (fun _ => none)))))), (q11, .inr (2, [.null, .null])), (q12, .inr (0, [.int 0, .ref (x13 0), .ref (x13 1)]))]) [0, 1, 2, 3, 4, 5] (by decide) rfl
  have hK := hK.sub (tys' := [(k6, .int), (k8, .int), (k10, .object RX2)]) [0, 1, 2] rfl
  refine lv_iconst (v := 0) hx hb dX1_init_80 (by decide) ?_
  refine lv_istore_n (lv' := [(1, .int 0), (0, .ref h0)]) hx hb dX1_init_81 rfl hl (by decide) rfl (fun ls hl => ?_)
  refine lv_iload_n hx hb dX1_init_82 rfl (lv_at hl 0 rfl) ?_
  refine lv_bipush (v := 8) hx hb dX1_init_83 (by decide) ?_
  refine lv_icmp_ge (tgt := 107) hx hb dX1_init_85 (by decide) (fun h => absurd h (by decide)) (fun _ => ?_)
  refine lv_aload_n hx hb dX1_init_88 rfl (lv_at hl 1 rfl) ?_
  refine va_get (D := (dC, dI)) (ci := 1) (v := .ref q9) (C := RX1) (T := TX1) (N := 15) hx hb hts in_X1 hown hK hP 0 rfl rfl 9 (by decide) (hts _ wd_253) (fun _ h9 => h9) rfl dX1_init_89 ?_
  refine lv_iload_n hx hb dX1_init_92 rfl (lv_at hl 0 rfl) ?_
  refine va_new (ci := 2) (fs := [.null, .null]) (C := RX2) (T := TX2) (N := 2) hx hb hts in_X2 tyX2 tyX2_ok hown (hts _ wd_201) (hts _ wd_203) (hts _ wd_10) hK hP hD hS hA rfl df_X2 (Nat.le_of_ble_eq_true rfl) (Nat.le_of_ble_eq_true rfl) dX1_init_93 (fun q16 H hP hD hS => ?_)
  have hP : va_P (dC, dI) vwCl [(h0, .inr (1, [.null, .ref q1, .int 0, .int 0, .ref q3, .int 0, .int 0, .ref q5, .ref q7, .ref q9, .ref q11, .ref q12, .ref q14, .int 0, .null])), (q5, .inl (k6, 400, .inl (fun _ => 0))), (q7, .inl (k8, 8, .inl (fun _ => 0))), (q9, .inl (k10, 8, .inr (.inr (.inr (.inr (fun _ => none)))))), (q11, .inr (2, [.null, .null])), (q12, .inr (0, [.int 0, .ref (x13 0), .ref (x13 1)])), (q16, .inr (2, [.null, .null]))] H := hP
  have hD : va_D A [(h0, .inr (1, [.null, .ref q1, .int 0, .int 0, .ref q3, .int 0, .int 0, .ref q5, .ref q7, .ref q9, .ref q11, .ref q12, .ref q14, .int 0, .null])), (q5, .inl (k6, 400, .inl (fun _ => 0))), (q7, .inl (k8, 8, .inl (fun _ => 0))), (q9, .inl (k10, 8, .inr (.inr (.inr (.inr (fun _ => none)))))), (q11, .inr (2, [.null, .null])), (q12, .inr (0, [.int 0, .ref (x13 0), .ref (x13 1)])), (q16, .inr (2, [.null, .null]))] := hD
  refine W.widen (k := 11) (n := 1839) (Nat.le_of_ble_eq_true rfl) (Nat.le_of_ble_eq_true rfl) ?_
  refine lv_dup hx hb dX1_init_96 rfl ?_
  have hPc := hP.sub (ws' := [(q16, .inr (2, [.null, .null]))]) [6] rfl
  have hDc := hD.sub (ws' := [(q16, .inr (2, [.null, .null]))]) [6] (by decide) rfl
  have hKc := hK.sub (tys' := []) [] rfl
  have hFc := va_free (wc := [(q16, .inr (2, [.null, .null]))]) hD hS hA [6] rfl
  refine va_callv (va_runIN (As := []) (rest := [.ref q16, .int 0, .ref q9]) ⟨hx, hb, hml, hown, hts⟩ (ct_X2_init l dC dI q16 H.size) ⟨va_cnB 0 hts (gd_c wd_206) rfl rfl rfl hZ0 (hts _ wd_10) (by decide +kernel) ⟨Nat.le_of_ble_eq_true rfl, Nat.le_of_ble_eq_true rfl⟩, rfl, hts _ wd_205⟩ ⟨fun a U g mk q => by obtain ⟨q0, q1, qP, qK, qD⟩ := q; exact ⟨q0, q1, qP, va_K.moved (u := U) (U := U.calling g mk a) (Vm.Alike.refl U.vm) qK, qD⟩, fun U hU hW => ⟨rfl, by rw [hU], by rw [hU]; exact hPc, va_K.moved hW.alike hKc, hDc.weaken (fun _ _ _ _ => trivial)⟩⟩ rfl rfl hl.1 rfl (lv_room (Nat.le_of_ble_eq_true rfl)) dX1_init_97 ⟨Nat.le_of_ble_eq_true rfl, Nat.le_of_ble_eq_true rfl⟩) hS (fun q _ h => hFc q h) hFc (fun u t H1 locs ht hvm hw hB hz1 hk1 hS => ?_)
  obtain ⟨hP1, hK1, hD1⟩ := hB
  rw [ht] at hP1
  have hK1 := va_K.moved hvm.symm hK1
  obtain ⟨hP, hD⟩ := va_join (wr := [(h0, .inr (1, [.null, .ref q1, .int 0, .int 0, .ref q3, .int 0, .int 0, .ref q5, .ref q7, .ref q9, .ref q11, .ref q12, .ref q14, .int 0, .null])), (q5, .inl (k6, 400, .inl (fun _ => 0))), (q7, .inl (k8, 8, .inl (fun _ => 0))), (q9, .inl (k10, 8, .inr (.inr (.inr (.inr (fun _ => none)))))), (q11, .inr (2, [.null, .null])), (q12, .inr (0, [.int 0, .ref (x13 0), .ref (x13 1)]))]) (w1 := [(q16, .inr (2, [.null, .null]))]) hP hD [6] [0, 1, 2, 3, 4, 5] rfl rfl (by decide) (by decide) hk1 hFc hP1 hD1
  have hK := (hK.sub (tys' := [(k6, .int), (k8, .int), (k10, .object RX2)]) [0, 1, 2] rfl).app (hK1.sub (tys' := []) [] rfl)
  generalize H1 = H at hP hS ⊢
  have hP : va_P (dC, dI) vwCl [(h0, .inr (1, [.null, .ref q1, .int 0, .int 0, .ref q3, .int 0, .int 0, .ref q5, .ref q7, .ref q9, .ref q11, .ref q12, .ref q14, .int 0, .null])), (q5, .inl (k6, 400, .inl (fun _ => 0))), (q7, .inl (k8, 8, .inl (fun _ => 0))), (q9, .inl (k10, 8, .inr (.inr (.inr (.inr (fun _ => none)))))), (q11, .inr (2, [.null, .null])), (q12, .inr (0, [.int 0, .ref (x13 0), .ref (x13 1)])), (q16, .inr (2, [.null, .null]))] H := hP
  have hD : va_D A [(h0, .inr (1, [.null, .ref q1, .int 0, .int 0, .ref q3, .int 0, .int 0, .ref q5, .ref q7, .ref q9, .ref q11, .ref q12, .ref q14, .int 0, .null])), (q5, .inl (k6, 400, .inl (fun _ => 0))), (q7, .inl (k8, 8, .inl (fun _ => 0))), (q9, .inl (k10, 8, .inr (.inr (.inr (.inr (fun _ => none)))))), (q11, .inr (2, [.null, .null])), (q12, .inr (0, [.int 0, .ref (x13 0), .ref (x13 1)])), (q16, .inr (2, [.null, .null]))] := hD
  have hK : va_K (dC, dI) vwCl [(k6, .int), (k8, .int), (k10, .object RX2)] s := hK
  refine va_astq hx hb hK hP hD hS 3 2 6 2 rfl rfl rfl rfl (px_in 0 8 (by decide +kernel)) dX1_init_100 (fun H locs hP hD hS => ?_)
  have hP : va_P (dC, dI) vwCl [(h0, .inr (1, [.null, .ref q1, .int 0, .int 0, .ref q3, .int 0, .int 0, .ref q5, .ref q7, .ref q9, .ref q11, .ref q12, .ref q14, .int 0, .null])), (q5, .inl (k6, 400, .inl (fun _ => 0))), (q7, .inl (k8, 8, .inl (fun _ => 0))), (q9, .inl (k10, 8, .inr (.inr (.inr (.inr (va_up (fun _ => none) (0 : Int32).toNatClampNeg (some q16))))))), (q11, .inr (2, [.null, .null])), (q12, .inr (0, [.int 0, .ref (x13 0), .ref (x13 1)])), (q16, .inr (2, [.null, .null]))] H := hP
  have hD : va_D A [(h0, .inr (1, [.null, .ref q1, .int 0, .int 0, .ref q3, .int 0, .int 0, .ref q5, .ref q7, .ref q9, .ref q11, .ref q12, .ref q14, .int 0, .null])), (q5, .inl (k6, 400, .inl (fun _ => 0))), (q7, .inl (k8, 8, .inl (fun _ => 0))), (q9, .inl (k10, 8, .inr (.inr (.inr (.inr (va_up (fun _ => none) (0 : Int32).toNatClampNeg (some q16))))))), (q11, .inr (2, [.null, .null])), (q12, .inr (0, [.int 0, .ref (x13 0), .ref (x13 1)])), (q16, .inr (2, [.null, .null]))] := hD
  refine lv_iinc (v := 1) (lv' := [(1, .int 1), (0, .ref h0)]) hx hb dX1_init_101 hl (k := 0) rfl (by decide) (by decide) rfl (fun ls hl => ?_)
  refine lv_goto (tgt := 82) hx hb dX1_init_104 (by decide) ?_
  refine lv_iload_n hx hb dX1_init_82 rfl (lv_at hl 0 rfl) ?_
  refine lv_bipush (v := 8) hx hb dX1_init_83 (by decide) ?_
  refine lv_icmp_ge (tgt := 107) hx hb dX1_init_85 (by decide) (fun h => absurd h (by decide)) (fun _ => ?_)
  refine lv_aload_n hx hb dX1_init_88 rfl (lv_at hl 1 rfl) ?_
  refine va_get (D := (dC, dI)) (ci := 1) (v := .ref q9) (C := RX1) (T := TX1) (N := 15) hx hb hts in_X1 hown hK hP 0 rfl rfl 9 (by decide) (hts _ wd_253) (fun _ h9 => h9) rfl dX1_init_89 ?_
  refine lv_iload_n hx hb dX1_init_92 rfl (lv_at hl 0 rfl) ?_
  refine va_new (ci := 2) (fs := [.null, .null]) (C := RX2) (T := TX2) (N := 2) hx hb hts in_X2 tyX2 tyX2_ok hown (hts _ wd_201) (hts _ wd_203) (hts _ wd_10) hK hP hD hS hA rfl df_X2 (Nat.le_of_ble_eq_true rfl) (Nat.le_of_ble_eq_true rfl) dX1_init_93 (fun q17 H hP hD hS => ?_)
  have hP : va_P (dC, dI) vwCl [(h0, .inr (1, [.null, .ref q1, .int 0, .int 0, .ref q3, .int 0, .int 0, .ref q5, .ref q7, .ref q9, .ref q11, .ref q12, .ref q14, .int 0, .null])), (q5, .inl (k6, 400, .inl (fun _ => 0))), (q7, .inl (k8, 8, .inl (fun _ => 0))), (q9, .inl (k10, 8, .inr (.inr (.inr (.inr (va_up (fun _ => none) (0 : Int32).toNatClampNeg (some q16))))))), (q11, .inr (2, [.null, .null])), (q12, .inr (0, [.int 0, .ref (x13 0), .ref (x13 1)])), (q16, .inr (2, [.null, .null])), (q17, .inr (2, [.null, .null]))] H := hP
  have hD : va_D A [(h0, .inr (1, [.null, .ref q1, .int 0, .int 0, .ref q3, .int 0, .int 0, .ref q5, .ref q7, .ref q9, .ref q11, .ref q12, .ref q14, .int 0, .null])), (q5, .inl (k6, 400, .inl (fun _ => 0))), (q7, .inl (k8, 8, .inl (fun _ => 0))), (q9, .inl (k10, 8, .inr (.inr (.inr (.inr (va_up (fun _ => none) (0 : Int32).toNatClampNeg (some q16))))))), (q11, .inr (2, [.null, .null])), (q12, .inr (0, [.int 0, .ref (x13 0), .ref (x13 1)])), (q16, .inr (2, [.null, .null])), (q17, .inr (2, [.null, .null]))] := hD
  refine W.widen (k := 12) (n := 1841) (Nat.le_of_ble_eq_true rfl) (Nat.le_of_ble_eq_true rfl) ?_
  refine lv_dup hx hb dX1_init_96 rfl ?_
  have hPc := hP.sub (ws' := [(q17, .inr (2, [.null, .null]))]) [7] rfl
  have hDc := hD.sub (ws' := [(q17, .inr (2, [.null, .null]))]) [7] (by decide) rfl
  have hKc := hK.sub (tys' := []) [] rfl
  have hFc := va_free (wc := [(q17, .inr (2, [.null, .null]))]) hD hS hA [7] rfl
  refine va_callv (va_runIN (As := []) (rest := [.ref q17, .int 1, .ref q9]) ⟨hx, hb, hml, hown, hts⟩ (ct_X2_init l dC dI q17 H.size) ⟨va_cnB 0 hts (gd_c wd_206) rfl rfl rfl hZ0 (hts _ wd_10) (by decide +kernel) ⟨Nat.le_of_ble_eq_true rfl, Nat.le_of_ble_eq_true rfl⟩, rfl, hts _ wd_205⟩ ⟨fun a U g mk q => by obtain ⟨q0, q1, qP, qK, qD⟩ := q; exact ⟨q0, q1, qP, va_K.moved (u := U) (U := U.calling g mk a) (Vm.Alike.refl U.vm) qK, qD⟩, fun U hU hW => ⟨rfl, by rw [hU], by rw [hU]; exact hPc, va_K.moved hW.alike hKc, hDc.weaken (fun _ _ _ _ => trivial)⟩⟩ rfl rfl hl.1 rfl (lv_room (Nat.le_of_ble_eq_true rfl)) dX1_init_97 ⟨Nat.le_of_ble_eq_true rfl, Nat.le_of_ble_eq_true rfl⟩) hS (fun q _ h => hFc q h) hFc (fun u t H1 locs ht hvm hw hB hz1 hk1 hS => ?_)
  obtain ⟨hP1, hK1, hD1⟩ := hB
  rw [ht] at hP1
  have hK1 := va_K.moved hvm.symm hK1
  obtain ⟨hP, hD⟩ := va_join (wr := [(h0, .inr (1, [.null, .ref q1, .int 0, .int 0, .ref q3, .int 0, .int 0, .ref q5, .ref q7, .ref q9, .ref q11, .ref q12, .ref q14, .int 0, .null])), (q5, .inl (k6, 400, .inl (fun _ => 0))), (q7, .inl (k8, 8, .inl (fun _ => 0))), (q9, .inl (k10, 8, .inr (.inr (.inr (.inr (va_up (fun _ => none) (0 : Int32).toNatClampNeg (some q16))))))), (q11, .inr (2, [.null, .null])), (q12, .inr (0, [.int 0, .ref (x13 0), .ref (x13 1)])), (q16, .inr (2, [.null, .null]))]) (w1 := [(q17, .inr (2, [.null, .null]))]) hP hD [7] [0, 1, 2, 3, 4, 5, 6] rfl rfl (by decide) (by decide) hk1 hFc hP1 hD1
  have hK := (hK.sub (tys' := [(k6, .int), (k8, .int), (k10, .object RX2)]) [0, 1, 2] rfl).app (hK1.sub (tys' := []) [] rfl)
  generalize H1 = H at hP hS ⊢
  have hP : va_P (dC, dI) vwCl [(h0, .inr (1, [.null, .ref q1, .int 0, .int 0, .ref q3, .int 0, .int 0, .ref q5, .ref q7, .ref q9, .ref q11, .ref q12, .ref q14, .int 0, .null])), (q5, .inl (k6, 400, .inl (fun _ => 0))), (q7, .inl (k8, 8, .inl (fun _ => 0))), (q9, .inl (k10, 8, .inr (.inr (.inr (.inr (va_up (fun _ => none) (0 : Int32).toNatClampNeg (some q16))))))), (q11, .inr (2, [.null, .null])), (q12, .inr (0, [.int 0, .ref (x13 0), .ref (x13 1)])), (q16, .inr (2, [.null, .null])), (q17, .inr (2, [.null, .null]))] H := hP
  have hD : va_D A [(h0, .inr (1, [.null, .ref q1, .int 0, .int 0, .ref q3, .int 0, .int 0, .ref q5, .ref q7, .ref q9, .ref q11, .ref q12, .ref q14, .int 0, .null])), (q5, .inl (k6, 400, .inl (fun _ => 0))), (q7, .inl (k8, 8, .inl (fun _ => 0))), (q9, .inl (k10, 8, .inr (.inr (.inr (.inr (va_up (fun _ => none) (0 : Int32).toNatClampNeg (some q16))))))), (q11, .inr (2, [.null, .null])), (q12, .inr (0, [.int 0, .ref (x13 0), .ref (x13 1)])), (q16, .inr (2, [.null, .null])), (q17, .inr (2, [.null, .null]))] := hD
  have hK : va_K (dC, dI) vwCl [(k6, .int), (k8, .int), (k10, .object RX2)] s := hK
  refine va_astq hx hb hK hP hD hS 3 2 7 2 rfl rfl rfl rfl (px_in 1 8 (by decide +kernel)) dX1_init_100 (fun H locs hP hD hS => ?_)
  have hP : va_P (dC, dI) vwCl [(h0, .inr (1, [.null, .ref q1, .int 0, .int 0, .ref q3, .int 0, .int 0, .ref q5, .ref q7, .ref q9, .ref q11, .ref q12, .ref q14, .int 0, .null])), (q5, .inl (k6, 400, .inl (fun _ => 0))), (q7, .inl (k8, 8, .inl (fun _ => 0))), (q9, .inl (k10, 8, .inr (.inr (.inr (.inr (va_up (va_up (fun _ => none) (0 : Int32).toNatClampNeg (some q16)) (1 : Int32).toNatClampNeg (some q17))))))), (q11, .inr (2, [.null, .null])), (q12, .inr (0, [.int 0, .ref (x13 0), .ref (x13 1)])), (q16, .inr (2, [.null, .null])), (q17, .inr (2, [.null, .null]))] H := hP
  have hD : va_D A [(h0, .inr (1, [.null, .ref q1, .int 0, .int 0, .ref q3, .int 0, .int 0, .ref q5, .ref q7, .ref q9, .ref q11, .ref q12, .ref q14, .int 0, .null])), (q5, .inl (k6, 400, .inl (fun _ => 0))), (q7, .inl (k8, 8, .inl (fun _ => 0))), (q9, .inl (k10, 8, .inr (.inr (.inr (.inr (va_up (va_up (fun _ => none) (0 : Int32).toNatClampNeg (some q16)) (1 : Int32).toNatClampNeg (some q17))))))), (q11, .inr (2, [.null, .null])), (q12, .inr (0, [.int 0, .ref (x13 0), .ref (x13 1)])), (q16, .inr (2, [.null, .null])), (q17, .inr (2, [.null, .null]))] := hD
  refine lv_iinc (v := 2) (lv' := [(1, .int 2), (0, .ref h0)]) hx hb dX1_init_101 hl (k := 0) rfl (by decide) (by decide) rfl (fun ls hl => ?_)
  refine lv_goto (tgt := 82) hx hb dX1_init_104 (by decide) ?_
  refine lv_iload_n hx hb dX1_init_82 rfl (lv_at hl 0 rfl) ?_
  refine lv_bipush (v := 8) hx hb dX1_init_83 (by decide) ?_
  refine lv_icmp_ge (tgt := 107) hx hb dX1_init_85 (by decide) (fun h => absurd h (by decide)) (fun _ => ?_)
  refine lv_aload_n hx hb dX1_init_88 rfl (lv_at hl 1 rfl) ?_
  refine va_get (D := (dC, dI)) (ci := 1) (v := .ref q9) (C := RX1) (T := TX1) (N := 15) hx hb hts in_X1 hown hK hP 0 rfl rfl 9 (by decide) (hts _ wd_253) (fun _ h9 => h9) rfl dX1_init_89 ?_
  refine lv_iload_n hx hb dX1_init_92 rfl (lv_at hl 0 rfl) ?_
  refine va_new (ci := 2) (fs := [.null, .null]) (C := RX2) (T := TX2) (N := 2) hx hb hts in_X2 tyX2 tyX2_ok hown (hts _ wd_201) (hts _ wd_203) (hts _ wd_10) hK hP hD hS hA rfl df_X2 (Nat.le_of_ble_eq_true rfl) (Nat.le_of_ble_eq_true rfl) dX1_init_93 (fun q18 H hP hD hS => ?_)
  have hP : va_P (dC, dI) vwCl [(h0, .inr (1, [.null, .ref q1, .int 0, .int 0, .ref q3, .int 0, .int 0, .ref q5, .ref q7, .ref q9, .ref q11, .ref q12, .ref q14, .int 0, .null])), (q5, .inl (k6, 400, .inl (fun _ => 0))), (q7, .inl (k8, 8, .inl (fun _ => 0))), (q9, .inl (k10, 8, .inr (.inr (.inr (.inr (va_up (va_up (fun _ => none) (0 : Int32).toNatClampNeg (some q16)) (1 : Int32).toNatClampNeg (some q17))))))), (q11, .inr (2, [.null, .null])), (q12, .inr (0, [.int 0, .ref (x13 0), .ref (x13 1)])), (q16, .inr (2, [.null, .null])), (q17, .inr (2, [.null, .null])), (q18, .inr (2, [.null, .null]))] H := hP
  have hD : va_D A [(h0, .inr (1, [.null, .ref q1, .int 0, .int 0, .ref q3, .int 0, .int 0, .ref q5, .ref q7, .ref q9, .ref q11, .ref q12, .ref q14, .int 0, .null])), (q5, .inl (k6, 400, .inl (fun _ => 0))), (q7, .inl (k8, 8, .inl (fun _ => 0))), (q9, .inl (k10, 8, .inr (.inr (.inr (.inr (va_up (va_up (fun _ => none) (0 : Int32).toNatClampNeg (some q16)) (1 : Int32).toNatClampNeg (some q17))))))), (q11, .inr (2, [.null, .null])), (q12, .inr (0, [.int 0, .ref (x13 0), .ref (x13 1)])), (q16, .inr (2, [.null, .null])), (q17, .inr (2, [.null, .null])), (q18, .inr (2, [.null, .null]))] := hD
  refine W.widen (k := 13) (n := 1843) (Nat.le_of_ble_eq_true rfl) (Nat.le_of_ble_eq_true rfl) ?_
  refine lv_dup hx hb dX1_init_96 rfl ?_
  have hPc := hP.sub (ws' := [(q18, .inr (2, [.null, .null]))]) [8] rfl
  have hDc := hD.sub (ws' := [(q18, .inr (2, [.null, .null]))]) [8] (by decide) rfl
  have hKc := hK.sub (tys' := []) [] rfl
  have hFc := va_free (wc := [(q18, .inr (2, [.null, .null]))]) hD hS hA [8] rfl
  refine va_callv (va_runIN (As := []) (rest := [.ref q18, .int 2, .ref q9]) ⟨hx, hb, hml, hown, hts⟩ (ct_X2_init l dC dI q18 H.size) ⟨va_cnB 0 hts (gd_c wd_206) rfl rfl rfl hZ0 (hts _ wd_10) (by decide +kernel) ⟨Nat.le_of_ble_eq_true rfl, Nat.le_of_ble_eq_true rfl⟩, rfl, hts _ wd_205⟩ ⟨fun a U g mk q => by obtain ⟨q0, q1, qP, qK, qD⟩ := q; exact ⟨q0, q1, qP, va_K.moved (u := U) (U := U.calling g mk a) (Vm.Alike.refl U.vm) qK, qD⟩, fun U hU hW => ⟨rfl, by rw [hU], by rw [hU]; exact hPc, va_K.moved hW.alike hKc, hDc.weaken (fun _ _ _ _ => trivial)⟩⟩ rfl rfl hl.1 rfl (lv_room (Nat.le_of_ble_eq_true rfl)) dX1_init_97 ⟨Nat.le_of_ble_eq_true rfl, Nat.le_of_ble_eq_true rfl⟩) hS (fun q _ h => hFc q h) hFc (fun u t H1 locs ht hvm hw hB hz1 hk1 hS => ?_)
  obtain ⟨hP1, hK1, hD1⟩ := hB
  rw [ht] at hP1
  have hK1 := va_K.moved hvm.symm hK1
  obtain ⟨hP, hD⟩ := va_join (wr := [(h0, .inr (1, [.null, .ref q1, .int 0, .int 0, .ref q3, .int 0, .int 0, .ref q5, .ref q7, .ref q9, .ref q11, .ref q12, .ref q14, .int 0, .null])), (q5, .inl (k6, 400, .inl (fun _ => 0))), (q7, .inl (k8, 8, .inl (fun _ => 0))), (q9, .inl (k10, 8, .inr (.inr (.inr (.inr (va_up (va_up (fun _ => none) (0 : Int32).toNatClampNeg (some q16)) (1 : Int32).toNatClampNeg (some q17))))))), (q11, .inr (2, [.null, .null])), (q12, .inr (0, [.int 0, .ref (x13 0), .ref (x13 1)])), (q16, .inr (2, [.null, .null])), (q17, .inr (2, [.null, .null]))]) (w1 := [(q18, .inr (2, [.null, .null]))]) hP hD [8] [0, 1, 2, 3, 4, 5, 6, 7] rfl rfl (by decide) (by decide) hk1 hFc hP1 hD1
  have hK := (hK.sub (tys' := [(k6, .int), (k8, .int), (k10, .object RX2)]) [0, 1, 2] rfl).app (hK1.sub (tys' := []) [] rfl)
  generalize H1 = H at hP hS ⊢
  have hP : va_P (dC, dI) vwCl [(h0, .inr (1, [.null, .ref q1, .int 0, .int 0, .ref q3, .int 0, .int 0, .ref q5, .ref q7, .ref q9, .ref q11, .ref q12, .ref q14, .int 0, .null])), (q5, .inl (k6, 400, .inl (fun _ => 0))), (q7, .inl (k8, 8, .inl (fun _ => 0))), (q9, .inl (k10, 8, .inr (.inr (.inr (.inr (va_up (va_up (fun _ => none) (0 : Int32).toNatClampNeg (some q16)) (1 : Int32).toNatClampNeg (some q17))))))), (q11, .inr (2, [.null, .null])), (q12, .inr (0, [.int 0, .ref (x13 0), .ref (x13 1)])), (q16, .inr (2, [.null, .null])), (q17, .inr (2, [.null, .null])), (q18, .inr (2, [.null, .null]))] H := hP
  have hD : va_D A [(h0, .inr (1, [.null, .ref q1, .int 0, .int 0, .ref q3, .int 0, .int 0, .ref q5, .ref q7, .ref q9, .ref q11, .ref q12, .ref q14, .int 0, .null])), (q5, .inl (k6, 400, .inl (fun _ => 0))), (q7, .inl (k8, 8, .inl (fun _ => 0))), (q9, .inl (k10, 8, .inr (.inr (.inr (.inr (va_up (va_up (fun _ => none) (0 : Int32).toNatClampNeg (some q16)) (1 : Int32).toNatClampNeg (some q17))))))), (q11, .inr (2, [.null, .null])), (q12, .inr (0, [.int 0, .ref (x13 0), .ref (x13 1)])), (q16, .inr (2, [.null, .null])), (q17, .inr (2, [.null, .null])), (q18, .inr (2, [.null, .null]))] := hD
  have hK : va_K (dC, dI) vwCl [(k6, .int), (k8, .int), (k10, .object RX2)] s := hK
  refine va_astq hx hb hK hP hD hS 3 2 8 2 rfl rfl rfl rfl (px_in 2 8 (by decide +kernel)) dX1_init_100 (fun H locs hP hD hS => ?_)
  have hP : va_P (dC, dI) vwCl [(h0, .inr (1, [.null, .ref q1, .int 0, .int 0, .ref q3, .int 0, .int 0, .ref q5, .ref q7, .ref q9, .ref q11, .ref q12, .ref q14, .int 0, .null])), (q5, .inl (k6, 400, .inl (fun _ => 0))), (q7, .inl (k8, 8, .inl (fun _ => 0))), (q9, .inl (k10, 8, .inr (.inr (.inr (.inr (va_up (va_up (va_up (fun _ => none) (0 : Int32).toNatClampNeg (some q16)) (1 : Int32).toNatClampNeg (some q17)) (2 : Int32).toNatClampNeg (some q18))))))), (q11, .inr (2, [.null, .null])), (q12, .inr (0, [.int 0, .ref (x13 0), .ref (x13 1)])), (q16, .inr (2, [.null, .null])), (q17, .inr (2, [.null, .null])), (q18, .inr (2, [.null, .null]))] H := hP
  have hD : va_D A [(h0, .inr (1, [.null, .ref q1, .int 0, .int 0, .ref q3, .int 0, .int 0, .ref q5, .ref q7, .ref q9, .ref q11, .ref q12, .ref q14, .int 0, .null])), (q5, .inl (k6, 400, .inl (fun _ => 0))), (q7, .inl (k8, 8, .inl (fun _ => 0))), (q9, .inl (k10, 8, .inr (.inr (.inr (.inr (va_up (va_up (va_up (fun _ => none) (0 : Int32).toNatClampNeg (some q16)) (1 : Int32).toNatClampNeg (some q17)) (2 : Int32).toNatClampNeg (some q18))))))), (q11, .inr (2, [.null, .null])), (q12, .inr (0, [.int 0, .ref (x13 0), .ref (x13 1)])), (q16, .inr (2, [.null, .null])), (q17, .inr (2, [.null, .null])), (q18, .inr (2, [.null, .null]))] := hD
  refine lv_iinc (v := 3) (lv' := [(1, .int 3), (0, .ref h0)]) hx hb dX1_init_101 hl (k := 0) rfl (by decide) (by decide) rfl (fun ls hl => ?_)
  refine lv_goto (tgt := 82) hx hb dX1_init_104 (by decide) ?_
  refine lv_iload_n hx hb dX1_init_82 rfl (lv_at hl 0 rfl) ?_
  refine lv_bipush (v := 8) hx hb dX1_init_83 (by decide) ?_
  refine lv_icmp_ge (tgt := 107) hx hb dX1_init_85 (by decide) (fun h => absurd h (by decide)) (fun _ => ?_)
  refine lv_aload_n hx hb dX1_init_88 rfl (lv_at hl 1 rfl) ?_
  refine va_get (D := (dC, dI)) (ci := 1) (v := .ref q9) (C := RX1) (T := TX1) (N := 15) hx hb hts in_X1 hown hK hP 0 rfl rfl 9 (by decide) (hts _ wd_253) (fun _ h9 => h9) rfl dX1_init_89 ?_
  refine lv_iload_n hx hb dX1_init_92 rfl (lv_at hl 0 rfl) ?_
  refine va_new (ci := 2) (fs := [.null, .null]) (C := RX2) (T := TX2) (N := 2) hx hb hts in_X2 tyX2 tyX2_ok hown (hts _ wd_201) (hts _ wd_203) (hts _ wd_10) hK hP hD hS hA rfl df_X2 (Nat.le_of_ble_eq_true rfl) (Nat.le_of_ble_eq_true rfl) dX1_init_93 (fun q19 H hP hD hS => ?_)
  have hP : va_P (dC, dI) vwCl [(h0, .inr (1, [.null, .ref q1, .int 0, .int 0, .ref q3, .int 0, .int 0, .ref q5, .ref q7, .ref q9, .ref q11, .ref q12, .ref q14, .int 0, .null])), (q5, .inl (k6, 400, .inl (fun _ => 0))), (q7, .inl (k8, 8, .inl (fun _ => 0))), (q9, .inl (k10, 8, .inr (.inr (.inr (.inr (va_up (va_up (va_up (fun _ => none) (0 : Int32).toNatClampNeg (some q16)) (1 : Int32).toNatClampNeg (some q17)) (2 : Int32).toNatClampNeg (some q18))))))), (q11, .inr (2, [.null, .null])), (q12, .inr (0, [.int 0, .ref (x13 0), .ref (x13 1)])), (q16, .inr (2, [.null, .null])), (q17, .inr (2, [.null, .null])), (q18, .inr (2, [.null, .null])), (q19, .inr (2, [.null, .null]))] H := hP
  have hD : va_D A [(h0, .inr (1, [.null, .ref q1, .int 0, .int 0, .ref q3, .int 0, .int 0, .ref q5, .ref q7, .ref q9, .ref q11, .ref q12, .ref q14, .int 0, .null])), (q5, .inl (k6, 400, .inl (fun _ => 0))), (q7, .inl (k8, 8, .inl (fun _ => 0))), (q9, .inl (k10, 8, .inr (.inr (.inr (.inr (va_up (va_up (va_up (fun _ => none) (0 : Int32).toNatClampNeg (some q16)) (1 : Int32).toNatClampNeg (some q17)) (2 : Int32).toNatClampNeg (some q18))))))), (q11, .inr (2, [.null, .null])), (q12, .inr (0, [.int 0, .ref (x13 0), .ref (x13 1)])), (q16, .inr (2, [.null, .null])), (q17, .inr (2, [.null, .null])), (q18, .inr (2, [.null, .null])), (q19, .inr (2, [.null, .null]))] := hD
  refine W.widen (k := 14) (n := 1845) (Nat.le_of_ble_eq_true rfl) (Nat.le_of_ble_eq_true rfl) ?_
  refine lv_dup hx hb dX1_init_96 rfl ?_
  have hPc := hP.sub (ws' := [(q19, .inr (2, [.null, .null]))]) [9] rfl
  have hDc := hD.sub (ws' := [(q19, .inr (2, [.null, .null]))]) [9] (by decide) rfl
  have hKc := hK.sub (tys' := []) [] rfl
  have hFc := va_free (wc := [(q19, .inr (2, [.null, .null]))]) hD hS hA [9] rfl
  refine va_callv (va_runIN (As := []) (rest := [.ref q19, .int 3, .ref q9]) ⟨hx, hb, hml, hown, hts⟩ (ct_X2_init l dC dI q19 H.size) ⟨va_cnB 0 hts (gd_c wd_206) rfl rfl rfl hZ0 (hts _ wd_10) (by decide +kernel) ⟨Nat.le_of_ble_eq_true rfl, Nat.le_of_ble_eq_true rfl⟩, rfl, hts _ wd_205⟩ ⟨fun a U g mk q => by obtain ⟨q0, q1, qP, qK, qD⟩ := q; exact ⟨q0, q1, qP, va_K.moved (u := U) (U := U.calling g mk a) (Vm.Alike.refl U.vm) qK, qD⟩, fun U hU hW => ⟨rfl, by rw [hU], by rw [hU]; exact hPc, va_K.moved hW.alike hKc, hDc.weaken (fun _ _ _ _ => trivial)⟩⟩ rfl rfl hl.1 rfl (lv_room (Nat.le_of_ble_eq_true rfl)) dX1_init_97 ⟨Nat.le_of_ble_eq_true rfl, Nat.le_of_ble_eq_true rfl⟩) hS (fun q _ h => hFc q h) hFc (fun u t H1 locs ht hvm hw hB hz1 hk1 hS => ?_)
  obtain ⟨hP1, hK1, hD1⟩ := hB
  rw [ht] at hP1
  have hK1 := va_K.moved hvm.symm hK1
  obtain ⟨hP, hD⟩ := va_join (wr := [(h0, .inr (1, [.null, .ref q1, .int 0, .int 0, .ref q3, .int 0, .int 0, .ref q5, .ref q7, .ref q9, .ref q11, .ref q12, .ref q14, .int 0, .null])), (q5, .inl (k6, 400, .inl (fun _ => 0))), (q7, .inl (k8, 8, .inl (fun _ => 0))), (q9, .inl (k10, 8, .inr (.inr (.inr (.inr (va_up (va_up (va_up (fun _ => none) (0 : Int32).toNatClampNeg (some q16)) (1 : Int32).toNatClampNeg (some q17)) (2 : Int32).toNatClampNeg (some q18))))))), (q11, .inr (2, [.null, .null])), (q12, .inr (0, [.int 0, .ref (x13 0), .ref (x13 1)])), (q16, .inr (2, [.null, .null])), (q17, .inr (2, [.null, .null])), (q18, .inr (2, [.null, .null]))]) (w1 := [(q19, .inr (2, [.null, .null]))]) hP hD [9] [0, 1, 2, 3, 4, 5, 6, 7, 8] rfl rfl (by decide) (by decide) hk1 hFc hP1 hD1
  have hK := (hK.sub (tys' := [(k6, .int), (k8, .int), (k10, .object RX2)]) [0, 1, 2] rfl).app (hK1.sub (tys' := []) [] rfl)
  generalize H1 = H at hP hS ⊢
  have hP : va_P (dC, dI) vwCl [(h0, .inr (1, [.null, .ref q1, .int 0, .int 0, .ref q3, .int 0, .int 0, .ref q5, .ref q7, .ref q9, .ref q11, .ref q12, .ref q14, .int 0, .null])), (q5, .inl (k6, 400, .inl (fun _ => 0))), (q7, .inl (k8, 8, .inl (fun _ => 0))), (q9, .inl (k10, 8, .inr (.inr (.inr (.inr (va_up (va_up (va_up (fun _ => none) (0 : Int32).toNatClampNeg (some q16)) (1 : Int32).toNatClampNeg (some q17)) (2 : Int32).toNatClampNeg (some q18))))))), (q11, .inr (2, [.null, .null])), (q12, .inr (0, [.int 0, .ref (x13 0), .ref (x13 1)])), (q16, .inr (2, [.null, .null])), (q17, .inr (2, [.null, .null])), (q18, .inr (2, [.null, .null])), (q19, .inr (2, [.null, .null]))] H := hP
  have hD : va_D A [(h0, .inr (1, [.null, .ref q1, .int 0, .int 0, .ref q3, .int 0, .int 0, .ref q5, .ref q7, .ref q9, .ref q11, .ref q12, .ref q14, .int 0, .null])), (q5, .inl (k6, 400, .inl (fun _ => 0))), (q7, .inl (k8, 8, .inl (fun _ => 0))), (q9, .inl (k10, 8, .inr (.inr (.inr (.inr (va_up (va_up (va_up (fun _ => none) (0 : Int32).toNatClampNeg (some q16)) (1 : Int32).toNatClampNeg (some q17)) (2 : Int32).toNatClampNeg (some q18))))))), (q11, .inr (2, [.null, .null])), (q12, .inr (0, [.int 0, .ref (x13 0), .ref (x13 1)])), (q16, .inr (2, [.null, .null])), (q17, .inr (2, [.null, .null])), (q18, .inr (2, [.null, .null])), (q19, .inr (2, [.null, .null]))] := hD
  have hK : va_K (dC, dI) vwCl [(k6, .int), (k8, .int), (k10, .object RX2)] s := hK
  refine va_astq hx hb hK hP hD hS 3 2 9 2 rfl rfl rfl rfl (px_in 3 8 (by decide +kernel)) dX1_init_100 (fun H locs hP hD hS => ?_)
  have hP : va_P (dC, dI) vwCl [(h0, .inr (1, [.null, .ref q1, .int 0, .int 0, .ref q3, .int 0, .int 0, .ref q5, .ref q7, .ref q9, .ref q11, .ref q12, .ref q14, .int 0, .null])), (q5, .inl (k6, 400, .inl (fun _ => 0))), (q7, .inl (k8, 8, .inl (fun _ => 0))), (q9, .inl (k10, 8, .inr (.inr (.inr (.inr (va_up (va_up (va_up (va_up (fun _ => none) (0 : Int32).toNatClampNeg (some q16)) (1 : Int32).toNatClampNeg (some q17)) (2 : Int32).toNatClampNeg (some q18)) (3 : Int32).toNatClampNeg (some q19))))))), (q11, .inr (2, [.null, .null])), (q12, .inr (0, [.int 0, .ref (x13 0), .ref (x13 1)])), (q16, .inr (2, [.null, .null])), (q17, .inr (2, [.null, .null])), (q18, .inr (2, [.null, .null])), (q19, .inr (2, [.null, .null]))] H := hP
  have hD : va_D A [(h0, .inr (1, [.null, .ref q1, .int 0, .int 0, .ref q3, .int 0, .int 0, .ref q5, .ref q7, .ref q9, .ref q11, .ref q12, .ref q14, .int 0, .null])), (q5, .inl (k6, 400, .inl (fun _ => 0))), (q7, .inl (k8, 8, .inl (fun _ => 0))), (q9, .inl (k10, 8, .inr (.inr (.inr (.inr (va_up (va_up (va_up (va_up (fun _ => none) (0 : Int32).toNatClampNeg (some q16)) (1 : Int32).toNatClampNeg (some q17)) (2 : Int32).toNatClampNeg (some q18)) (3 : Int32).toNatClampNeg (some q19))))))), (q11, .inr (2, [.null, .null])), (q12, .inr (0, [.int 0, .ref (x13 0), .ref (x13 1)])), (q16, .inr (2, [.null, .null])), (q17, .inr (2, [.null, .null])), (q18, .inr (2, [.null, .null])), (q19, .inr (2, [.null, .null]))] := hD
  refine lv_iinc (v := 4) (lv' := [(1, .int 4), (0, .ref h0)]) hx hb dX1_init_101 hl (k := 0) rfl (by decide) (by decide) rfl (fun ls hl => ?_)
  refine lv_goto (tgt := 82) hx hb dX1_init_104 (by decide) ?_
  refine lv_iload_n hx hb dX1_init_82 rfl (lv_at hl 0 rfl) ?_
  refine lv_bipush (v := 8) hx hb dX1_init_83 (by decide) ?_
  refine lv_icmp_ge (tgt := 107) hx hb dX1_init_85 (by decide) (fun h => absurd h (by decide)) (fun _ => ?_)
  refine lv_aload_n hx hb dX1_init_88 rfl (lv_at hl 1 rfl) ?_
  refine va_get (D := (dC, dI)) (ci := 1) (v := .ref q9) (C := RX1) (T := TX1) (N := 15) hx hb hts in_X1 hown hK hP 0 rfl rfl 9 (by decide) (hts _ wd_253) (fun _ h9 => h9) rfl dX1_init_89 ?_
  refine lv_iload_n hx hb dX1_init_92 rfl (lv_at hl 0 rfl) ?_
  refine va_new (ci := 2) (fs := [.null, .null]) (C := RX2) (T := TX2) (N := 2) hx hb hts in_X2 tyX2 tyX2_ok hown (hts _ wd_201) (hts _ wd_203) (hts _ wd_10) hK hP hD hS hA rfl df_X2 (Nat.le_of_ble_eq_true rfl) (Nat.le_of_ble_eq_true rfl) dX1_init_93 (fun q20 H hP hD hS => ?_)
  have hP : va_P (dC, dI) vwCl [(h0, .inr (1, [.null, .ref q1, .int 0, .int 0, .ref q3, .int 0, .int 0, .ref q5, .ref q7, .ref q9, .ref q11, .ref q12, .ref q14, .int 0, .null])), (q5, .inl (k6, 400, .inl (fun _ => 0))), (q7, .inl (k8, 8, .inl (fun _ => 0))), (q9, .inl (k10, 8, .inr (.inr (.inr (.inr (va_up (va_up (va_up (va_up (fun _ => none) (0 : Int32).toNatClampNeg (some q16)) (1 : Int32).toNatClampNeg (some q17)) (2 : Int32).toNatClampNeg (some q18)) (3 : Int32).toNatClampNeg (some q19))))))), (q11, .inr (2, [.null, .null])), (q12, .inr (0, [.int 0, .ref (x13 0), .ref (x13 1)])), (q16, .inr (2, [.null, .null])), (q17, .inr (2, [.null, .null])), (q18, .inr (2, [.null, .null])), (q19, .inr (2, [.null, .null])), (q20, .inr (2, [.null, .null]))] H := hP
  have hD : va_D A [(h0, .inr (1, [.null, .ref q1, .int 0, .int 0, .ref q3, .int 0, .int 0, .ref q5, .ref q7, .ref q9, .ref q11, .ref q12, .ref q14, .int 0, .null])), (q5, .inl (k6, 400, .inl (fun _ => 0))), (q7, .inl (k8, 8, .inl (fun _ => 0))), (q9, .inl (k10, 8, .inr (.inr (.inr (.inr (va_up (va_up (va_up (va_up (fun _ => none) (0 : Int32).toNatClampNeg (some q16)) (1 : Int32).toNatClampNeg (some q17)) (2 : Int32).toNatClampNeg (some q18)) (3 : Int32).toNatClampNeg (some q19))))))), (q11, .inr (2, [.null, .null])), (q12, .inr (0, [.int 0, .ref (x13 0), .ref (x13 1)])), (q16, .inr (2, [.null, .null])), (q17, .inr (2, [.null, .null])), (q18, .inr (2, [.null, .null])), (q19, .inr (2, [.null, .null])), (q20, .inr (2, [.null, .null]))] := hD
  refine W.widen (k := 15) (n := 1847) (Nat.le_of_ble_eq_true rfl) (Nat.le_of_ble_eq_true rfl) ?_
  refine lv_dup hx hb dX1_init_96 rfl ?_
  have hPc := hP.sub (ws' := [(q20, .inr (2, [.null, .null]))]) [10] rfl
  have hDc := hD.sub (ws' := [(q20, .inr (2, [.null, .null]))]) [10] (by decide) rfl
  have hKc := hK.sub (tys' := []) [] rfl
  have hFc := va_free (wc := [(q20, .inr (2, [.null, .null]))]) hD hS hA [10] rfl
  refine va_callv (va_runIN (As := []) (rest := [.ref q20, .int 4, .ref q9]) ⟨hx, hb, hml, hown, hts⟩ (ct_X2_init l dC dI q20 H.size) ⟨va_cnB 0 hts (gd_c wd_206) rfl rfl rfl hZ0 (hts _ wd_10) (by decide +kernel) ⟨Nat.le_of_ble_eq_true rfl, Nat.le_of_ble_eq_true rfl⟩, rfl, hts _ wd_205⟩ ⟨fun a U g mk q => by obtain ⟨q0, q1, qP, qK, qD⟩ := q; exact ⟨q0, q1, qP, va_K.moved (u := U) (U := U.calling g mk a) (Vm.Alike.refl U.vm) qK, qD⟩, fun U hU hW => ⟨rfl, by rw [hU], by rw [hU]; exact hPc, va_K.moved hW.alike hKc, hDc.weaken (fun _ _ _ _ => trivial)⟩⟩ rfl rfl hl.1 rfl (lv_room (Nat.le_of_ble_eq_true rfl)) dX1_init_97 ⟨Nat.le_of_ble_eq_true rfl, Nat.le_of_ble_eq_true rfl⟩) hS (fun q _ h => hFc q h) hFc (fun u t H1 locs ht hvm hw hB hz1 hk1 hS => ?_)
  obtain ⟨hP1, hK1, hD1⟩ := hB
  rw [ht] at hP1
  have hK1 := va_K.moved hvm.symm hK1
  obtain ⟨hP, hD⟩ := va_join (wr := [(h0, .inr (1, [.null, .ref q1, .int 0, .int 0, .ref q3, .int 0, .int 0, .ref q5, .ref q7, .ref q9, .ref q11, .ref q12, .ref q14, .int 0, .null])), (q5, .inl (k6, 400, .inl (fun _ => 0))), (q7, .inl (k8, 8, .inl (fun _ => 0))), (q9, .inl (k10, 8, .inr (.inr (.inr (.inr (va_up (va_up (va_up (va_up (fun _ => none) (0 : Int32).toNatClampNeg (some q16)) (1 : Int32).toNatClampNeg (some q17)) (2 : Int32).toNatClampNeg (some q18)) (3 : Int32).toNatClampNeg (some q19))))))), (q11, .inr (2, [.null, .null])), (q12, .inr (0, [.int 0, .ref (x13 0), .ref (x13 1)])), (q16, .inr (2, [.null, .null])), (q17, .inr (2, [.null, .null])), (q18, .inr (2, [.null, .null])), (q19, .inr (2, [.null, .null]))]) (w1 := [(q20, .inr (2, [.null, .null]))]) hP hD [10] [0, 1, 2, 3, 4, 5, 6, 7, 8, 9] rfl rfl (by decide) (by decide) hk1 hFc hP1 hD1
  have hK := (hK.sub (tys' := [(k6, .int), (k8, .int), (k10, .object RX2)]) [0, 1, 2] rfl).app (hK1.sub (tys' := []) [] rfl)
  generalize H1 = H at hP hS ⊢
  have hP : va_P (dC, dI) vwCl [(h0, .inr (1, [.null, .ref q1, .int 0, .int 0, .ref q3, .int 0, .int 0, .ref q5, .ref q7, .ref q9, .ref q11, .ref q12, .ref q14, .int 0, .null])), (q5, .inl (k6, 400, .inl (fun _ => 0))), (q7, .inl (k8, 8, .inl (fun _ => 0))), (q9, .inl (k10, 8, .inr (.inr (.inr (.inr (va_up (va_up (va_up (va_up (fun _ => none) (0 : Int32).toNatClampNeg (some q16)) (1 : Int32).toNatClampNeg (some q17)) (2 : Int32).toNatClampNeg (some q18)) (3 : Int32).toNatClampNeg (some q19))))))), (q11, .inr (2, [.null, .null])), (q12, .inr (0, [.int 0, .ref (x13 0), .ref (x13 1)])), (q16, .inr (2, [.null, .null])), (q17, .inr (2, [.null, .null])), (q18, .inr (2, [.null, .null])), (q19, .inr (2, [.null, .null])), (q20, .inr (2, [.null, .null]))] H := hP
  have hD : va_D A [(h0, .inr (1, [.null, .ref q1, .int 0, .int 0, .ref q3, .int 0, .int 0, .ref q5, .ref q7, .ref q9, .ref q11, .ref q12, .ref q14, .int 0, .null])), (q5, .inl (k6, 400, .inl (fun _ => 0))), (q7, .inl (k8, 8, .inl (fun _ => 0))), (q9, .inl (k10, 8, .inr (.inr (.inr (.inr (va_up (va_up (va_up (va_up (fun _ => none) (0 : Int32).toNatClampNeg (some q16)) (1 : Int32).toNatClampNeg (some q17)) (2 : Int32).toNatClampNeg (some q18)) (3 : Int32).toNatClampNeg (some q19))))))), (q11, .inr (2, [.null, .null])), (q12, .inr (0, [.int 0, .ref (x13 0), .ref (x13 1)])), (q16, .inr (2, [.null, .null])), (q17, .inr (2, [.null, .null])), (q18, .inr (2, [.null, .null])), (q19, .inr (2, [.null, .null])), (q20, .inr (2, [.null, .null]))] := hD
  have hK : va_K (dC, dI) vwCl [(k6, .int), (k8, .int), (k10, .object RX2)] s := hK
  refine va_astq hx hb hK hP hD hS 3 2 10 2 rfl rfl rfl rfl (px_in 4 8 (by decide +kernel)) dX1_init_100 (fun H locs hP hD hS => ?_)
  have hP : va_P (dC, dI) vwCl [(h0, .inr (1, [.null, .ref q1, .int 0, .int 0, .ref q3, .int 0, .int 0, .ref q5, .ref q7, .ref q9, .ref q11, .ref q12, .ref q14, .int 0, .null])), (q5, .inl (k6, 400, .inl (fun _ => 0))), (q7, .inl (k8, 8, .inl (fun _ => 0))), (q9, .inl (k10, 8, .inr (.inr (.inr (.inr (va_up (va_up (va_up (va_up (va_up (fun _ => none) (0 : Int32).toNatClampNeg (some q16)) (1 : Int32).toNatClampNeg (some q17)) (2 : Int32).toNatClampNeg (some q18)) (3 : Int32).toNatClampNeg (some q19)) (4 : Int32).toNatClampNeg (some q20))))))), (q11, .inr (2, [.null, .null])), (q12, .inr (0, [.int 0, .ref (x13 0), .ref (x13 1)])), (q16, .inr (2, [.null, .null])), (q17, .inr (2, [.null, .null])), (q18, .inr (2, [.null, .null])), (q19, .inr (2, [.null, .null])), (q20, .inr (2, [.null, .null]))] H := hP
  have hD : va_D A [(h0, .inr (1, [.null, .ref q1, .int 0, .int 0, .ref q3, .int 0, .int 0, .ref q5, .ref q7, .ref q9, .ref q11, .ref q12, .ref q14, .int 0, .null])), (q5, .inl (k6, 400, .inl (fun _ => 0))), (q7, .inl (k8, 8, .inl (fun _ => 0))), (q9, .inl (k10, 8, .inr (.inr (.inr (.inr (va_up (va_up (va_up (va_up (va_up (fun _ => none) (0 : Int32).toNatClampNeg (some q16)) (1 : Int32).toNatClampNeg (some q17)) (2 : Int32).toNatClampNeg (some q18)) (3 : Int32).toNatClampNeg (some q19)) (4 : Int32).toNatClampNeg (some q20))))))), (q11, .inr (2, [.null, .null])), (q12, .inr (0, [.int 0, .ref (x13 0), .ref (x13 1)])), (q16, .inr (2, [.null, .null])), (q17, .inr (2, [.null, .null])), (q18, .inr (2, [.null, .null])), (q19, .inr (2, [.null, .null])), (q20, .inr (2, [.null, .null]))] := hD
  refine lv_iinc (v := 5) (lv' := [(1, .int 5), (0, .ref h0)]) hx hb dX1_init_101 hl (k := 0) rfl (by decide) (by decide) rfl (fun ls hl => ?_)
  refine lv_goto (tgt := 82) hx hb dX1_init_104 (by decide) ?_
  refine lv_iload_n hx hb dX1_init_82 rfl (lv_at hl 0 rfl) ?_
  refine lv_bipush (v := 8) hx hb dX1_init_83 (by decide) ?_
  refine lv_icmp_ge (tgt := 107) hx hb dX1_init_85 (by decide) (fun h => absurd h (by decide)) (fun _ => ?_)
  refine lv_aload_n hx hb dX1_init_88 rfl (lv_at hl 1 rfl) ?_
  refine va_get (D := (dC, dI)) (ci := 1) (v := .ref q9) (C := RX1) (T := TX1) (N := 15) hx hb hts in_X1 hown hK hP 0 rfl rfl 9 (by decide) (hts _ wd_253) (fun _ h9 => h9) rfl dX1_init_89 ?_
  refine lv_iload_n hx hb dX1_init_92 rfl (lv_at hl 0 rfl) ?_
  refine va_new (ci := 2) (fs := [.null, .null]) (C := RX2) (T := TX2) (N := 2) hx hb hts in_X2 tyX2 tyX2_ok hown (hts _ wd_201) (hts _ wd_203) (hts _ wd_10) hK hP hD hS hA rfl df_X2 (Nat.le_of_ble_eq_true rfl) (Nat.le_of_ble_eq_true rfl) dX1_init_93 (fun q21 H hP hD hS => ?_)
  have hP : va_P (dC, dI) vwCl [(h0, .inr (1, [.null, .ref q1, .int 0, .int 0, .ref q3, .int 0, .int 0, .ref q5, .ref q7, .ref q9, .ref q11, .ref q12, .ref q14, .int 0, .null])), (q5, .inl (k6, 400, .inl (fun _ => 0))), (q7, .inl (k8, 8, .inl (fun _ => 0))), (q9, .inl (k10, 8, .inr (.inr (.inr (.inr (va_up (va_up (va_up (va_up (va_up (fun _ => none) (0 : Int32).toNatClampNeg (some q16)) (1 : Int32).toNatClampNeg (some q17)) (2 : Int32).toNatClampNeg (some q18)) (3 : Int32).toNatClampNeg (some q19)) (4 : Int32).toNatClampNeg (some q20))))))), (q11, .inr (2, [.null, .null])), (q12, .inr (0, [.int 0, .ref (x13 0), .ref (x13 1)])), (q16, .inr (2, [.null, .null])), (q17, .inr (2, [.null, .null])), (q18, .inr (2, [.null, .null])), (q19, .inr (2, [.null, .null])), (q20, .inr (2, [.null, .null])), (q21, .inr (2, [.null, .null]))] H := hP
  have hD : va_D A [(h0, .inr (1, [.null, .ref q1, .int 0, .int 0, .ref q3, .int 0, .int 0, .ref q5, .ref q7, .ref q9, .ref q11, .ref q12, .ref q14, .int 0, .null])), (q5, .inl (k6, 400, .inl (fun _ => 0))), (q7, .inl (k8, 8, .inl (fun _ => 0))), (q9, .inl (k10, 8, .inr (.inr (.inr (.inr (va_up (va_up (va_up (va_up (va_up (fun _ => none) (0 : Int32).toNatClampNeg (some q16)) (1 : Int32).toNatClampNeg (some q17)) (2 : Int32).toNatClampNeg (some q18)) (3 : Int32).toNatClampNeg (some q19)) (4 : Int32).toNatClampNeg (some q20))))))), (q11, .inr (2, [.null, .null])), (q12, .inr (0, [.int 0, .ref (x13 0), .ref (x13 1)])), (q16, .inr (2, [.null, .null])), (q17, .inr (2, [.null, .null])), (q18, .inr (2, [.null, .null])), (q19, .inr (2, [.null, .null])), (q20, .inr (2, [.null, .null])), (q21, .inr (2, [.null, .null]))] := hD
  refine W.widen (k := 16) (n := 1849) (Nat.le_of_ble_eq_true rfl) (Nat.le_of_ble_eq_true rfl) ?_
  refine lv_dup hx hb dX1_init_96 rfl ?_
  have hPc := hP.sub (ws' := [(q21, .inr (2, [.null, .null]))]) [11] rfl
  have hDc := hD.sub (ws' := [(q21, .inr (2, [.null, .null]))]) [11] (by decide) rfl
  have hKc := hK.sub (tys' := []) [] rfl
  have hFc := va_free (wc := [(q21, .inr (2, [.null, .null]))]) hD hS hA [11] rfl
  refine va_callv (va_runIN (As := []) (rest := [.ref q21, .int 5, .ref q9]) ⟨hx, hb, hml, hown, hts⟩ (ct_X2_init l dC dI q21 H.size) ⟨va_cnB 0 hts (gd_c wd_206) rfl rfl rfl hZ0 (hts _ wd_10) (by decide +kernel) ⟨Nat.le_of_ble_eq_true rfl, Nat.le_of_ble_eq_true rfl⟩, rfl, hts _ wd_205⟩ ⟨fun a U g mk q => by obtain ⟨q0, q1, qP, qK, qD⟩ := q; exact ⟨q0, q1, qP, va_K.moved (u := U) (U := U.calling g mk a) (Vm.Alike.refl U.vm) qK, qD⟩, fun U hU hW => ⟨rfl, by rw [hU], by rw [hU]; exact hPc, va_K.moved hW.alike hKc, hDc.weaken (fun _ _ _ _ => trivial)⟩⟩ rfl rfl hl.1 rfl (lv_room (Nat.le_of_ble_eq_true rfl)) dX1_init_97 ⟨Nat.le_of_ble_eq_true rfl, Nat.le_of_ble_eq_true rfl⟩) hS (fun q _ h => hFc q h) hFc (fun u t H1 locs ht hvm hw hB hz1 hk1 hS => ?_)
  obtain ⟨hP1, hK1, hD1⟩ := hB
  rw [ht] at hP1
  have hK1 := va_K.moved hvm.symm hK1
  obtain ⟨hP, hD⟩ := va_join (wr := [(h0, .inr (1, [.null, .ref q1, .int 0, .int 0, .ref q3, .int 0, .int 0, .ref q5, .ref q7, .ref q9, .ref q11, .ref q12, .ref q14, .int 0, .null])), (q5, .inl (k6, 400, .inl (fun _ => 0))), (q7, .inl (k8, 8, .inl (fun _ => 0))), (q9, .inl (k10, 8, .inr (.inr (.inr (.inr (va_up (va_up (va_up (va_up (va_up (fun _ => none) (0 : Int32).toNatClampNeg (some q16)) (1 : Int32).toNatClampNeg (some q17)) (2 : Int32).toNatClampNeg (some q18)) (3 : Int32).toNatClampNeg (some q19)) (4 : Int32).toNatClampNeg (some q20))))))), (q11, .inr (2, [.null, .null])), (q12, .inr (0, [.int 0, .ref (x13 0), .ref (x13 1)])), (q16, .inr (2, [.null, .null])), (q17, .inr (2, [.null, .null])), (q18, .inr (2, [.null, .null])), (q19, .inr (2, [.null, .null])), (q20, .inr (2, [.null, .null]))]) (w1 := [(q21, .inr (2, [.null, .null]))]) hP hD [11] [0, 1, 2, 3, 4, 5, 6, 7, 8, 9, 10] rfl rfl (by decide) (by decide) hk1 hFc hP1 hD1
  have hK := (hK.sub (tys' := [(k6, .int), (k8, .int), (k10, .object RX2)]) [0, 1, 2] rfl).app (hK1.sub (tys' := []) [] rfl)
  generalize H1 = H at hP hS ⊢
  have hP : va_P (dC, dI) vwCl [(h0, .inr (1, [.null, .ref q1, .int 0, .int 0, .ref q3, .int 0, .int 0, .ref q5, .ref q7, .ref q9, .ref q11, .ref q12, .ref q14, .int 0, .null])), (q5, .inl (k6, 400, .inl (fun _ => 0))), (q7, .inl (k8, 8, .inl (fun _ => 0))), (q9, .inl (k10, 8, .inr (.inr (.inr (.inr (va_up (va_up (va_up (va_up (va_up (fun _ => none) (0 : Int32).toNatClampNeg (some q16)) (1 : Int32).toNatClampNeg (some q17)) (2 : Int32).toNatClampNeg (some q18)) (3 : Int32).toNatClampNeg (some q19)) (4 : Int32).toNatClampNeg (some q20))))))), (q11, .inr (2, [.null, .null])), (q12, .inr (0, [.int 0, .ref (x13 0), .ref (x13 1)])), (q16, .inr (2, [.null, .null])), (q17, .inr (2, [.null, .null])), (q18, .inr (2, [.null, .null])), (q19, .inr (2, [.null, .null])), (q20, .inr (2, [.null, .null])), (q21, .inr (2, [.null, .null]))] H := hP
  have hD : va_D A [(h0, .inr (1, [.null, .ref q1, .int 0, .int 0, .ref q3, .int 0, .int 0, .ref q5, .ref q7, .ref q9, .ref q11, .ref q12, .ref q14, .int 0, .null])), (q5, .inl (k6, 400, .inl (fun _ => 0))), (q7, .inl (k8, 8, .inl (fun _ => 0))), (q9, .inl (k10, 8, .inr (.inr (.inr (.inr (va_up (va_up (va_up (va_up (va_up (fun _ => none) (0 : Int32).toNatClampNeg (some q16)) (1 : Int32).toNatClampNeg (some q17)) (2 : Int32).toNatClampNeg (some q18)) (3 : Int32).toNatClampNeg (some q19)) (4 : Int32).toNatClampNeg (some q20))))))), (q11, .inr (2, [.null, .null])), (q12, .inr (0, [.int 0, .ref (x13 0), .ref (x13 1)])), (q16, .inr (2, [.null, .null])), (q17, .inr (2, [.null, .null])), (q18, .inr (2, [.null, .null])), (q19, .inr (2, [.null, .null])), (q20, .inr (2, [.null, .null])), (q21, .inr (2, [.null, .null]))] := hD
  have hK : va_K (dC, dI) vwCl [(k6, .int), (k8, .int), (k10, .object RX2)] s := hK
  refine va_astq hx hb hK hP hD hS 3 2 11 2 rfl rfl rfl rfl (px_in 5 8 (by decide +kernel)) dX1_init_100 (fun H locs hP hD hS => ?_)
  have hP : va_P (dC, dI) vwCl [(h0, .inr (1, [.null, .ref q1, .int 0, .int 0, .ref q3, .int 0, .int 0, .ref q5, .ref q7, .ref q9, .ref q11, .ref q12, .ref q14, .int 0, .null])), (q5, .inl (k6, 400, .inl (fun _ => 0))), (q7, .inl (k8, 8, .inl (fun _ => 0))), (q9, .inl (k10, 8, .inr (.inr (.inr (.inr (va_up (va_up (va_up (va_up (va_up (va_up (fun _ => none) (0 : Int32).toNatClampNeg (some q16)) (1 : Int32).toNatClampNeg (some q17)) (2 : Int32).toNatClampNeg (some q18)) (3 : Int32).toNatClampNeg (some q19)) (4 : Int32).toNatClampNeg (some q20)) (5 : Int32).toNatClampNeg (some q21))))))), (q11, .inr (2, [.null, .null])), (q12, .inr (0, [.int 0, .ref (x13 0), .ref (x13 1)])), (q16, .inr (2, [.null, .null])), (q17, .inr (2, [.null, .null])), (q18, .inr (2, [.null, .null])), (q19, .inr (2, [.null, .null])), (q20, .inr (2, [.null, .null])), (q21, .inr (2, [.null, .null]))] H := hP
  have hD : va_D A [(h0, .inr (1, [.null, .ref q1, .int 0, .int 0, .ref q3, .int 0, .int 0, .ref q5, .ref q7, .ref q9, .ref q11, .ref q12, .ref q14, .int 0, .null])), (q5, .inl (k6, 400, .inl (fun _ => 0))), (q7, .inl (k8, 8, .inl (fun _ => 0))), (q9, .inl (k10, 8, .inr (.inr (.inr (.inr (va_up (va_up (va_up (va_up (va_up (va_up (fun _ => none) (0 : Int32).toNatClampNeg (some q16)) (1 : Int32).toNatClampNeg (some q17)) (2 : Int32).toNatClampNeg (some q18)) (3 : Int32).toNatClampNeg (some q19)) (4 : Int32).toNatClampNeg (some q20)) (5 : Int32).toNatClampNeg (some q21))))))), (q11, .inr (2, [.null, .null])), (q12, .inr (0, [.int 0, .ref (x13 0), .ref (x13 1)])), (q16, .inr (2, [.null, .null])), (q17, .inr (2, [.null, .null])), (q18, .inr (2, [.null, .null])), (q19, .inr (2, [.null, .null])), (q20, .inr (2, [.null, .null])), (q21, .inr (2, [.null, .null]))] := hD
  refine lv_iinc (v := 6) (lv' := [(1, .int 6), (0, .ref h0)]) hx hb dX1_init_101 hl (k := 0) rfl (by decide) (by decide) rfl (fun ls hl => ?_)
  refine lv_goto (tgt := 82) hx hb dX1_init_104 (by decide) ?_
  refine lv_iload_n hx hb dX1_init_82 rfl (lv_at hl 0 rfl) ?_
  refine lv_bipush (v := 8) hx hb dX1_init_83 (by decide) ?_
  refine lv_icmp_ge (tgt := 107) hx hb dX1_init_85 (by decide) (fun h => absurd h (by decide)) (fun _ => ?_)
  refine lv_aload_n hx hb dX1_init_88 rfl (lv_at hl 1 rfl) ?_
  refine va_get (D := (dC, dI)) (ci := 1) (v := .ref q9) (C := RX1) (T := TX1) (N := 15) hx hb hts in_X1 hown hK hP 0 rfl rfl 9 (by decide) (hts _ wd_253) (fun _ h9 => h9) rfl dX1_init_89 ?_
  refine lv_iload_n hx hb dX1_init_92 rfl (lv_at hl 0 rfl) ?_
  refine va_new (ci := 2) (fs := [.null, .null]) (C := RX2) (T := TX2) (N := 2) hx hb hts in_X2 tyX2 tyX2_ok hown (hts _ wd_201) (hts _ wd_203) (hts _ wd_10) hK hP hD hS hA rfl df_X2 (Nat.le_of_ble_eq_true rfl) (Nat.le_of_ble_eq_true rfl) dX1_init_93 (fun q22 H hP hD hS => ?_)
  have hP : va_P (dC, dI) vwCl [(h0, .inr (1, [.null, .ref q1, .int 0, .int 0, .ref q3, .int 0, .int 0, .ref q5, .ref q7, .ref q9, .ref q11, .ref q12, .ref q14, .int 0, .null])), (q5, .inl (k6, 400, .inl (fun _ => 0))), (q7, .inl (k8, 8, .inl (fun _ => 0))), (q9, .inl (k10, 8, .inr (.inr (.inr (.inr (va_up (va_up (va_up (va_up (va_up (va_up (fun _ => none) (0 : Int32).toNatClampNeg (some q16)) (1 : Int32).toNatClampNeg (some q17)) (2 : Int32).toNatClampNeg (some q18)) (3 : Int32).toNatClampNeg (some q19)) (4 : Int32).toNatClampNeg (some q20)) (5 : Int32).toNatClampNeg (some q21))))))), (q11, .inr (2, [.null, .null])), (q12, .inr (0, [.int 0, .ref (x13 0), .ref (x13 1)])), (q16, .inr (2, [.null, .null])), (q17, .inr (2, [.null, .null])), (q18, .inr (2, [.null, .null])), (q19, .inr (2, [.null, .null])), (q20, .inr (2, [.null, .null])), (q21, .inr (2, [.null, .null])), (q22, .inr (2, [.null, .null]))] H := hP
  have hD : va_D A [(h0, .inr (1, [.null, .ref q1, .int 0, .int 0, .ref q3, .int 0, .int 0, .ref q5, .ref q7, .ref q9, .ref q11, .ref q12, .ref q14, .int 0, .null])), (q5, .inl (k6, 400, .inl (fun _ => 0))), (q7, .inl (k8, 8, .inl (fun _ => 0))), (q9, .inl (k10, 8, .inr (.inr (.inr (.inr (va_up (va_up (va_up (va_up (va_up (va_up (fun _ => none) (0 : Int32).toNatClampNeg (some q16)) (1 : Int32).toNatClampNeg (some q17)) (2 : Int32).toNatClampNeg (some q18)) (3 : Int32).toNatClampNeg (some q19)) (4 : Int32).toNatClampNeg (some q20)) (5 : Int32).toNatClampNeg (some q21))))))), (q11, .inr (2, [.null, .null])), (q12, .inr (0, [.int 0, .ref (x13 0), .ref (x13 1)])), (q16, .inr (2, [.null, .null])), (q17, .inr (2, [.null, .null])), (q18, .inr (2, [.null, .null])), (q19, .inr (2, [.null, .null])), (q20, .inr (2, [.null, .null])), (q21, .inr (2, [.null, .null])), (q22, .inr (2, [.null, .null]))] := hD
  refine W.widen (k := 17) (n := 1851) (Nat.le_of_ble_eq_true rfl) (Nat.le_of_ble_eq_true rfl) ?_
  refine lv_dup hx hb dX1_init_96 rfl ?_
  have hPc := hP.sub (ws' := [(q22, .inr (2, [.null, .null]))]) [12] rfl
  have hDc := hD.sub (ws' := [(q22, .inr (2, [.null, .null]))]) [12] (by decide) rfl
  have hKc := hK.sub (tys' := []) [] rfl
  have hFc := va_free (wc := [(q22, .inr (2, [.null, .null]))]) hD hS hA [12] rfl
  refine va_callv (va_runIN (As := []) (rest := [.ref q22, .int 6, .ref q9]) ⟨hx, hb, hml, hown, hts⟩ (ct_X2_init l dC dI q22 H.size) ⟨va_cnB 0 hts (gd_c wd_206) rfl rfl rfl hZ0 (hts _ wd_10) (by decide +kernel) ⟨Nat.le_of_ble_eq_true rfl, Nat.le_of_ble_eq_true rfl⟩, rfl, hts _ wd_205⟩ ⟨fun a U g mk q => by obtain ⟨q0, q1, qP, qK, qD⟩ := q; exact ⟨q0, q1, qP, va_K.moved (u := U) (U := U.calling g mk a) (Vm.Alike.refl U.vm) qK, qD⟩, fun U hU hW => ⟨rfl, by rw [hU], by rw [hU]; exact hPc, va_K.moved hW.alike hKc, hDc.weaken (fun _ _ _ _ => trivial)⟩⟩ rfl rfl hl.1 rfl (lv_room (Nat.le_of_ble_eq_true rfl)) dX1_init_97 ⟨Nat.le_of_ble_eq_true rfl, Nat.le_of_ble_eq_true rfl⟩) hS (fun q _ h => hFc q h) hFc (fun u t H1 locs ht hvm hw hB hz1 hk1 hS => ?_)
  obtain ⟨hP1, hK1, hD1⟩ := hB
  rw [ht] at hP1
  have hK1 := va_K.moved hvm.symm hK1
  obtain ⟨hP, hD⟩ := va_join (wr := [(h0, .inr (1, [.null, .ref q1, .int 0, .int 0, .ref q3, .int 0, .int 0, .ref q5, .ref q7, .ref q9, .ref q11, .ref q12, .ref q14, .int 0, .null])), (q5, .inl (k6, 400, .inl (fun _ => 0))), (q7, .inl (k8, 8, .inl (fun _ => 0))), (q9, .inl (k10, 8, .inr (.inr (.inr (.inr (va_up (va_up (va_up (va_up (va_up (va_up (fun _ => none) (0 : Int32).toNatClampNeg (some q16)) (1 : Int32).toNatClampNeg (some q17)) (2 : Int32).toNatClampNeg (some q18)) (3 : Int32).toNatClampNeg (some q19)) (4 : Int32).toNatClampNeg (some q20)) (5 : Int32).toNatClampNeg (some q21))))))), (q11, .inr (2, [.null, .null])), (q12, .inr (0, [.int 0, .ref (x13 0), .ref (x13 1)])), (q16, .inr (2, [.null, .null])), (q17, .inr (2, [.null, .null])), (q18, .inr (2, [.null, .null])), (q19, .inr (2, [.null, .null])), (q20, .inr (2, [.null, .null])), (q21, .inr (2, [.null, .null]))]) (w1 := [(q22, .inr (2, [.null, .null]))]) hP hD [12] [0, 1, 2, 3, 4, 5, 6, 7, 8, 9, 10, 11] rfl rfl (by decide) (by decide) hk1 hFc hP1 hD1
  have hK := (hK.sub (tys' := [(k6, .int), (k8, .int), (k10, .object RX2)]) [0, 1, 2] rfl).app (hK1.sub (tys' := []) [] rfl)
  generalize H1 = H at hP hS ⊢
  have hP : va_P (dC, dI) vwCl [(h0, .inr (1, [.null, .ref q1, .int 0, .int 0, .ref q3, .int 0, .int 0, .ref q5, .ref q7, .ref q9, .ref q11, .ref q12, .ref q14, .int 0, .null])), (q5, .inl (k6, 400, .inl (fun _ => 0))), (q7, .inl (k8, 8, .inl (fun _ => 0))), (q9, .inl (k10, 8, .inr (.inr (.inr (.inr (va_up (va_up (va_up (va_up (va_up (va_up (fun _ => none) (0 : Int32).toNatClampNeg (some q16)) (1 : Int32).toNatClampNeg (some q17)) (2 : Int32).toNatClampNeg (some q18)) (3 : Int32).toNatClampNeg (some q19)) (4 : Int32).toNatClampNeg (some q20)) (5 : Int32).toNatClampNeg (some q21))))))), (q11, .inr (2, [.null, .null])), (q12, .inr (0, [.int 0, .ref (x13 0), .ref (x13 1)])), (q16, .inr (2, [.null, .null])), (q17, .inr (2, [.null, .null])), (q18, .inr (2, [.null, .null])), (q19, .inr (2, [.null, .null])), (q20, .inr (2, [.null, .null])), (q21, .inr (2, [.null, .null])), (q22, .inr (2, [.null, .null]))] H := hP
  have hD : va_D A [(h0, .inr (1, [.null, .ref q1, .int 0, .int 0, .ref q3, .int 0, .int 0, .ref q5, .ref q7, .ref q9, .ref q11, .ref q12, .ref q14, .int 0, .null])), (q5, .inl (k6, 400, .inl (fun _ => 0))), (q7, .inl (k8, 8, .inl (fun _ => 0))), (q9, .inl (k10, 8, .inr (.inr (.inr (.inr (va_up (va_up (va_up (va_up (va_up (va_up (fun _ => none) (0 : Int32).toNatClampNeg (some q16)) (1 : Int32).toNatClampNeg (some q17)) (2 : Int32).toNatClampNeg (some q18)) (3 : Int32).toNatClampNeg (some q19)) (4 : Int32).toNatClampNeg (some q20)) (5 : Int32).toNatClampNeg (some q21))))))), (q11, .inr (2, [.null, .null])), (q12, .inr (0, [.int 0, .ref (x13 0), .ref (x13 1)])), (q16, .inr (2, [.null, .null])), (q17, .inr (2, [.null, .null])), (q18, .inr (2, [.null, .null])), (q19, .inr (2, [.null, .null])), (q20, .inr (2, [.null, .null])), (q21, .inr (2, [.null, .null])), (q22, .inr (2, [.null, .null]))] := hD
  have hK : va_K (dC, dI) vwCl [(k6, .int), (k8, .int), (k10, .object RX2)] s := hK
  refine va_astq hx hb hK hP hD hS 3 2 12 2 rfl rfl rfl rfl (px_in 6 8 (by decide +kernel)) dX1_init_100 (fun H locs hP hD hS => ?_)
  have hP : va_P (dC, dI) vwCl [(h0, .inr (1, [.null, .ref q1, .int 0, .int 0, .ref q3, .int 0, .int 0, .ref q5, .ref q7, .ref q9, .ref q11, .ref q12, .ref q14, .int 0, .null])), (q5, .inl (k6, 400, .inl (fun _ => 0))), (q7, .inl (k8, 8, .inl (fun _ => 0))), (q9, .inl (k10, 8, .inr (.inr (.inr (.inr (va_up (va_up (va_up (va_up (va_up (va_up (va_up (fun _ => none) (0 : Int32).toNatClampNeg (some q16)) (1 : Int32).toNatClampNeg (some q17)) (2 : Int32).toNatClampNeg (some q18)) (3 : Int32).toNatClampNeg (some q19)) (4 : Int32).toNatClampNeg (some q20)) (5 : Int32).toNatClampNeg (some q21)) (6 : Int32).toNatClampNeg (some q22))))))), (q11, .inr (2, [.null, .null])), (q12, .inr (0, [.int 0, .ref (x13 0), .ref (x13 1)])), (q16, .inr (2, [.null, .null])), (q17, .inr (2, [.null, .null])), (q18, .inr (2, [.null, .null])), (q19, .inr (2, [.null, .null])), (q20, .inr (2, [.null, .null])), (q21, .inr (2, [.null, .null])), (q22, .inr (2, [.null, .null]))] H := hP
  have hD : va_D A [(h0, .inr (1, [.null, .ref q1, .int 0, .int 0, .ref q3, .int 0, .int 0, .ref q5, .ref q7, .ref q9, .ref q11, .ref q12, .ref q14, .int 0, .null])), (q5, .inl (k6, 400, .inl (fun _ => 0))), (q7, .inl (k8, 8, .inl (fun _ => 0))), (q9, .inl (k10, 8, .inr (.inr (.inr (.inr (va_up (va_up (va_up (va_up (va_up (va_up (va_up (fun _ => none) (0 : Int32).toNatClampNeg (some q16)) (1 : Int32).toNatClampNeg (some q17)) (2 : Int32).toNatClampNeg (some q18)) (3 : Int32).toNatClampNeg (some q19)) (4 : Int32).toNatClampNeg (some q20)) (5 : Int32).toNatClampNeg (some q21)) (6 : Int32).toNatClampNeg (some q22))))))), (q11, .inr (2, [.null, .null])), (q12, .inr (0, [.int 0, .ref (x13 0), .ref (x13 1)])), (q16, .inr (2, [.null, .null])), (q17, .inr (2, [.null, .null])), (q18, .inr (2, [.null, .null])), (q19, .inr (2, [.null, .null])), (q20, .inr (2, [.null, .null])), (q21, .inr (2, [.null, .null])), (q22, .inr (2, [.null, .null]))] := hD
  refine lv_iinc (v := 7) (lv' := [(1, .int 7), (0, .ref h0)]) hx hb dX1_init_101 hl (k := 0) rfl (by decide) (by decide) rfl (fun ls hl => ?_)
  refine lv_goto (tgt := 82) hx hb dX1_init_104 (by decide) ?_
  refine lv_iload_n hx hb dX1_init_82 rfl (lv_at hl 0 rfl) ?_
  refine lv_bipush (v := 8) hx hb dX1_init_83 (by decide) ?_
  refine lv_icmp_ge (tgt := 107) hx hb dX1_init_85 (by decide) (fun h => absurd h (by decide)) (fun _ => ?_)
  refine lv_aload_n hx hb dX1_init_88 rfl (lv_at hl 1 rfl) ?_
  refine va_get (D := (dC, dI)) (ci := 1) (v := .ref q9) (C := RX1) (T := TX1) (N := 15) hx hb hts in_X1 hown hK hP 0 rfl rfl 9 (by decide) (hts _ wd_253) (fun _ h9 => h9) rfl dX1_init_89 ?_
  refine lv_iload_n hx hb dX1_init_92 rfl (lv_at hl 0 rfl) ?_
  refine va_new (ci := 2) (fs := [.null, .null]) (C := RX2) (T := TX2) (N := 2) hx hb hts in_X2 tyX2 tyX2_ok hown (hts _ wd_201) (hts _ wd_203) (hts _ wd_10) hK hP hD hS hA rfl df_X2 (Nat.le_of_ble_eq_true rfl) (Nat.le_of_ble_eq_true rfl) dX1_init_93 (fun q23 H hP hD hS => ?_)
  have hP : va_P (dC, dI) vwCl [(h0, .inr (1, [.null, .ref q1, .int 0, .int 0, .ref q3, .int 0, .int 0, .ref q5, .ref q7, .ref q9, .ref q11, .ref q12, .ref q14, .int 0, .null])), (q5, .inl (k6, 400, .inl (fun _ => 0))), (q7, .inl (k8, 8, .inl (fun _ => 0))), (q9, .inl (k10, 8, .inr (.inr (.inr (.inr (va_up (va_up (va_up (va_up (va_up (va_up (va_up (fun _ => none) (0 : Int32).toNatClampNeg (some q16)) (1 : Int32).toNatClampNeg (some q17)) (2 : Int32).toNatClampNeg (some q18)) (3 : Int32).toNatClampNeg (some q19)) (4 : Int32).toNatClampNeg (some q20)) (5 : Int32).toNatClampNeg (some q21)) (6 : Int32).toNatClampNeg (some q22))))))), (q11, .inr (2, [.null, .null])), (q12, .inr (0, [.int 0, .ref (x13 0), .ref (x13 1)])), (q16, .inr (2, [.null, .null])), (q17, .inr (2, [.null, .null])), (q18, .inr (2, [.null, .null])), (q19, .inr (2, [.null, .null])), (q20, .inr (2, [.null, .null])), (q21, .inr (2, [.null, .null])), (q22, .inr (2, [.null, .null])), (q23, .inr (2, [.null, .null]))] H := hP
  have hD : va_D A [(h0, .inr (1, [.null, .ref q1, .int 0, .int 0, .ref q3, .int 0, .int 0, .ref q5, .ref q7, .ref q9, .ref q11, .ref q12, .ref q14, .int 0, .null])), (q5, .inl (k6, 400, .inl (fun _ => 0))), (q7, .inl (k8, 8, .inl (fun _ => 0))), (q9, .inl (k10, 8, .inr (.inr (.inr (.inr (va_up (va_up (va_up (va_up (va_up (va_up (va_up (fun _ => none) (0 : Int32).toNatClampNeg (some q16)) (1 : Int32).toNatClampNeg (some q17)) (2 : Int32).toNatClampNeg (some q18)) (3 : Int32).toNatClampNeg (some q19)) (4 : Int32).toNatClampNeg (some q20)) (5 : Int32).toNatClampNeg (some q21)) (6 : Int32).toNatClampNeg (some q22))))))), (q11, .inr (2, [.null, .null])), (q12, .inr (0, [.int 0, .ref (x13 0), .ref (x13 1)])), (q16, .inr (2, [.null, .null])), (q17, .inr (2, [.null, .null])), (q18, .inr (2, [.null, .null])), (q19, .inr (2, [.null, .null])), (q20, .inr (2, [.null, .null])), (q21, .inr (2, [.null, .null])), (q22, .inr (2, [.null, .null])), (q23, .inr (2, [.null, .null]))] := hD
  refine W.widen (k := 18) (n := 1853) (Nat.le_of_ble_eq_true rfl) (Nat.le_of_ble_eq_true rfl) ?_
  refine lv_dup hx hb dX1_init_96 rfl ?_
  have hPc := hP.sub (ws' := [(q23, .inr (2, [.null, .null]))]) [13] rfl
  have hDc := hD.sub (ws' := [(q23, .inr (2, [.null, .null]))]) [13] (by decide) rfl
  have hKc := hK.sub (tys' := []) [] rfl
  have hFc := va_free (wc := [(q23, .inr (2, [.null, .null]))]) hD hS hA [13] rfl
  refine va_callv (va_runIN (As := []) (rest := [.ref q23, .int 7, .ref q9]) ⟨hx, hb, hml, hown, hts⟩ (ct_X2_init l dC dI q23 H.size) ⟨va_cnB 0 hts (gd_c wd_206) rfl rfl rfl hZ0 (hts _ wd_10) (by decide +kernel) ⟨Nat.le_of_ble_eq_true rfl, Nat.le_of_ble_eq_true rfl⟩, rfl, hts _ wd_205⟩ ⟨fun a U g mk q => by obtain ⟨q0, q1, qP, qK, qD⟩ := q; exact ⟨q0, q1, qP, va_K.moved (u := U) (U := U.calling g mk a) (Vm.Alike.refl U.vm) qK, qD⟩, fun U hU hW => ⟨rfl, by rw [hU], by rw [hU]; exact hPc, va_K.moved hW.alike hKc, hDc.weaken (fun _ _ _ _ => trivial)⟩⟩ rfl rfl hl.1 rfl (lv_room (Nat.le_of_ble_eq_true rfl)) dX1_init_97 ⟨Nat.le_of_ble_eq_true rfl, Nat.le_of_ble_eq_true rfl⟩) hS (fun q _ h => hFc q h) hFc (fun u t H1 locs ht hvm hw hB hz1 hk1 hS => ?_)
  obtain ⟨hP1, hK1, hD1⟩ := hB
  rw [ht] at hP1
  have hK1 := va_K.moved hvm.symm hK1
  obtain ⟨hP, hD⟩ := va_join (wr := [(h0, .inr (1, [.null, .ref q1, .int 0, .int 0, .ref q3, .int 0, .int 0, .ref q5, .ref q7, .ref q9, .ref q11, .ref q12, .ref q14, .int 0, .null])), (q5, .inl (k6, 400, .inl (fun _ => 0))), (q7, .inl (k8, 8, .inl (fun _ => 0))), (q9, .inl (k10, 8, .inr (.inr (.inr (.inr (va_up (va_up (va_up (va_up (va_up (va_up (va_up (fun _ => none) (0 : Int32).toNatClampNeg (some q16)) (1 : Int32).toNatClampNeg (some q17)) (2 : Int32).toNatClampNeg (some q18)) (3 : Int32).toNatClampNeg (some q19)) (4 : Int32).toNatClampNeg (some q20)) (5 : Int32).toNatClampNeg (some q21)) (6 : Int32).toNatClampNeg (some q22))))))), (q11, .inr (2, [.null, .null])), (q12, .inr (0, [.int 0, .ref (x13 0), .ref (x13 1)])), (q16, .inr (2, [.null, .null])), (q17, .inr (2, [.null, .null])), (q18, .inr (2, [.null, .null])), (q19, .inr (2, [.null, .null])), (q20, .inr (2, [.null, .null])), (q21, .inr (2, [.null, .null])), (q22, .inr (2, [.null, .null]))]) (w1 := [(q23, .inr (2, [.null, .null]))]) hP hD [13] [0, 1, 2, 3, 4, 5, 6, 7, 8, 9, 10, 11, 12] rfl rfl (by decide) (by decide) hk1 hFc hP1 hD1
  have hK := (hK.sub (tys' := [(k6, .int), (k8, .int), (k10, .object RX2)]) [0, 1, 2] rfl).app (hK1.sub (tys' := []) [] rfl)
  generalize H1 = H at hP hS ⊢
  have hP : va_P (dC, dI) vwCl [(h0, .inr (1, [.null, .ref q1, .int 0, .int 0, .ref q3, .int 0, .int 0, .ref q5, .ref q7, .ref q9, .ref q11, .ref q12, .ref q14, .int 0, .null])), (q5, .inl (k6, 400, .inl (fun _ => 0))), (q7, .inl (k8, 8, .inl (fun _ => 0))), (q9, .inl (k10, 8, .inr (.inr (.inr (.inr (va_up (va_up (va_up (va_up (va_up (va_up (va_up (fun _ => none) (0 : Int32).toNatClampNeg (some q16)) (1 : Int32).toNatClampNeg (some q17)) (2 : Int32).toNatClampNeg (some q18)) (3 : Int32).toNatClampNeg (some q19)) (4 : Int32).toNatClampNeg (some q20)) (5 : Int32).toNatClampNeg (some q21)) (6 : Int32).toNatClampNeg (some q22))))))), (q11, .inr (2, [.null, .null])), (q12, .inr (0, [.int 0, .ref (x13 0), .ref (x13 1)])), (q16, .inr (2, [.null, .null])), (q17, .inr (2, [.null, .null])), (q18, .inr (2, [.null, .null])), (q19, .inr (2, [.null, .null])), (q20, .inr (2, [.null, .null])), (q21, .inr (2, [.null, .null])), (q22, .inr (2, [.null, .null])), (q23, .inr (2, [.null, .null]))] H := hP
  have hD : va_D A [(h0, .inr (1, [.null, .ref q1, .int 0, .int 0, .ref q3, .int 0, .int 0, .ref q5, .ref q7, .ref q9, .ref q11, .ref q12, .ref q14, .int 0, .null])), (q5, .inl (k6, 400, .inl (fun _ => 0))), (q7, .inl (k8, 8, .inl (fun _ => 0))), (q9, .inl (k10, 8, .inr (.inr (.inr (.inr (va_up (va_up (va_up (va_up (va_up (va_up (va_up (fun _ => none) (0 : Int32).toNatClampNeg (some q16)) (1 : Int32).toNatClampNeg (some q17)) (2 : Int32).toNatClampNeg (some q18)) (3 : Int32).toNatClampNeg (some q19)) (4 : Int32).toNatClampNeg (some q20)) (5 : Int32).toNatClampNeg (some q21)) (6 : Int32).toNatClampNeg (some q22))))))), (q11, .inr (2, [.null, .null])), (q12, .inr (0, [.int 0, .ref (x13 0), .ref (x13 1)])), (q16, .inr (2, [.null, .null])), (q17, .inr (2, [.null, .null])), (q18, .inr (2, [.null, .null])), (q19, .inr (2, [.null, .null])), (q20, .inr (2, [.null, .null])), (q21, .inr (2, [.null, .null])), (q22, .inr (2, [.null, .null])), (q23, .inr (2, [.null, .null]))] := hD
  have hK : va_K (dC, dI) vwCl [(k6, .int), (k8, .int), (k10, .object RX2)] s := hK
  refine va_astq hx hb hK hP hD hS 3 2 13 2 rfl rfl rfl rfl (px_in 7 8 (by decide +kernel)) dX1_init_100 (fun H locs hP hD hS => ?_)
  have hP : va_P (dC, dI) vwCl [(h0, .inr (1, [.null, .ref q1, .int 0, .int 0, .ref q3, .int 0, .int 0, .ref q5, .ref q7, .ref q9, .ref q11, .ref q12, .ref q14, .int 0, .null])), (q5, .inl (k6, 400, .inl (fun _ => 0))), (q7, .inl (k8, 8, .inl (fun _ => 0))), (q9, .inl (k10, 8, .inr (.inr (.inr (.inr (va_up (va_up (va_up (va_up (va_up (va_up (va_up (va_up (fun _ => none) (0 : Int32).toNatClampNeg (some q16)) (1 : Int32).toNatClampNeg (some q17)) (2 : Int32).toNatClampNeg (some q18)) (3 : Int32).toNatClampNeg (some q19)) (4 : Int32).toNatClampNeg (some q20)) (5 : Int32).toNatClampNeg (some q21)) (6 : Int32).toNatClampNeg (some q22)) (7 : Int32).toNatClampNeg (some q23))))))), (q11, .inr (2, [.null, .null])), (q12, .inr (0, [.int 0, .ref (x13 0), .ref (x13 1)])), (q16, .inr (2, [.null, .null])), (q17, .inr (2, [.null, .null])), (q18, .inr (2, [.null, .null])), (q19, .inr (2, [.null, .null])), (q20, .inr (2, [.null, .null])), (q21, .inr (2, [.null, .null])), (q22, .inr (2, [.null, .null])), (q23, .inr (2, [.null, .null]))] H := hP
  have hD : va_D A [(h0, .inr (1, [.null, .ref q1, .int 0, .int 0, .ref q3, .int 0, .int 0, .ref q5, .ref q7, .ref q9, .ref q11, .ref q12, .ref q14, .int 0, .null])), (q5, .inl (k6, 400, .inl (fun _ => 0))), (q7, .inl (k8, 8, .inl (fun _ => 0))), (q9, .inl (k10, 8, .inr (.inr (.inr (.inr (va_up (va_up (va_up (va_up (va_up (va_up (va_up (va_up (fun _ => none) (0 : Int32).toNatClampNeg (some q16)) (1 : Int32).toNatClampNeg (some q17)) (2 : Int32).toNatClampNeg (some q18)) (3 : Int32).toNatClampNeg (some q19)) (4 : Int32).toNatClampNeg (some q20)) (5 : Int32).toNatClampNeg (some q21)) (6 : Int32).toNatClampNeg (some q22)) (7 : Int32).toNatClampNeg (some q23))))))), (q11, .inr (2, [.null, .null])), (q12, .inr (0, [.int 0, .ref (x13 0), .ref (x13 1)])), (q16, .inr (2, [.null, .null])), (q17, .inr (2, [.null, .null])), (q18, .inr (2, [.null, .null])), (q19, .inr (2, [.null, .null])), (q20, .inr (2, [.null, .null])), (q21, .inr (2, [.null, .null])), (q22, .inr (2, [.null, .null])), (q23, .inr (2, [.null, .null]))] := hD
  refine lv_iinc (v := 8) (lv' := [(1, .int 8), (0, .ref h0)]) hx hb dX1_init_101 hl (k := 0) rfl (by decide) (by decide) rfl (fun ls hl => ?_)
  refine lv_goto (tgt := 82) hx hb dX1_init_104 (by decide) ?_
  refine lv_iload_n hx hb dX1_init_82 rfl (lv_at hl 0 rfl) ?_
  refine lv_bipush (v := 8) hx hb dX1_init_83 (by decide) ?_
  refine lv_icmp_ge (tgt := 107) hx hb dX1_init_85 (by decide) (fun _ => ?_) (fun h => absurd (by decide) h)
  rw [ln_eq] at hP hD
  have hP : va_P (dC, dI) vwCl [(h0, .inr (1, [.null, .ref q1, .int 0, .int 0, .ref q3, .int 0, .int 0, .ref q5, .ref q7, .ref q9, .ref q11, .ref q12, .ref q14, .int 0, .null])), (q5, .inl (k6, 400, .inl (fun _ => 0))), (q7, .inl (k8, 8, .inl (fun _ => 0))), (q9, .inl (k10, 8, .inr (.inr (.inr (.inr (fun i => [q16, q17, q18, q19, q20, q21, q22, q23][i]?)))))), (q11, .inr (2, [.null, .null])), (q12, .inr (0, [.int 0, .ref (x13 0), .ref (x13 1)])), (q16, .inr (2, [.null, .null])), (q17, .inr (2, [.null, .null])), (q18, .inr (2, [.null, .null])), (q19, .inr (2, [.null, .null])), (q20, .inr (2, [.null, .null])), (q21, .inr (2, [.null, .null])), (q22, .inr (2, [.null, .null])), (q23, .inr (2, [.null, .null]))] H := hP
  have hD : va_D A [(h0, .inr (1, [.null, .ref q1, .int 0, .int 0, .ref q3, .int 0, .int 0, .ref q5, .ref q7, .ref q9, .ref q11, .ref q12, .ref q14, .int 0, .null])), (q5, .inl (k6, 400, .inl (fun _ => 0))), (q7, .inl (k8, 8, .inl (fun _ => 0))), (q9, .inl (k10, 8, .inr (.inr (.inr (.inr (fun i => [q16, q17, q18, q19, q20, q21, q22, q23][i]?)))))), (q11, .inr (2, [.null, .null])), (q12, .inr (0, [.int 0, .ref (x13 0), .ref (x13 1)])), (q16, .inr (2, [.null, .null])), (q17, .inr (2, [.null, .null])), (q18, .inr (2, [.null, .null])), (q19, .inr (2, [.null, .null])), (q20, .inr (2, [.null, .null])), (q21, .inr (2, [.null, .null])), (q22, .inr (2, [.null, .null])), (q23, .inr (2, [.null, .null]))] := hD
  have hP9 := hP.sub (ws' := [(h0, .inr (1, [.null, .ref q1, .int 0, .int 0, .ref q3, .int 0, .int 0, .ref q5, .ref q7, .ref q9, .ref q11, .ref q12, .ref q14, .int 0, .null])), (q5, .inl (k6, 400, .inl (fun _ => 0))), (q7, .inl (k8, 8, .inl (fun _ => 0))), (q9, .inl (k10, 8, .inr (.inr (.inr (.inr (fun i => [q16, q17, q18, q19, q20, q21, q22, q23][i]?)))))), (q16, .inr (2, [.null, .null])), (q17, .inr (2, [.null, .null])), (q18, .inr (2, [.null, .null])), (q19, .inr (2, [.null, .null])), (q20, .inr (2, [.null, .null])), (q21, .inr (2, [.null, .null])), (q22, .inr (2, [.null, .null])), (q23, .inr (2, [.null, .null])), (q11, .inr (2, [.null, .null])), (q12, .inr (0, [.int 0, .ref (x13 0), .ref (x13 1)]))]) [0, 1, 2, 3, 6, 7, 8, 9, 10, 11, 12, 13, 4, 5] rfl
  have hD9 := hD.sub (ws' := [(h0, .inr (1, [.null, .ref q1, .int 0, .int 0, .ref q3, .int 0, .int 0, .ref q5, .ref q7, .ref q9, .ref q11, .ref q12, .ref q14, .int 0, .null])), (q5, .inl (k6, 400, .inl (fun _ => 0))), (q7, .inl (k8, 8, .inl (fun _ => 0))), (q9, .inl (k10, 8, .inr (.inr (.inr (.inr (fun i => [q16, q17, q18, q19, q20, q21, q22, q23][i]?)))))), (q16, .inr (2, [.null, .null])), (q17, .inr (2, [.null, .null])), (q18, .inr (2, [.null, .null])), (q19, .inr (2, [.null, .null])), (q20, .inr (2, [.null, .null])), (q21, .inr (2, [.null, .null])), (q22, .inr (2, [.null, .null])), (q23, .inr (2, [.null, .null])), (q11, .inr (2, [.null, .null])), (q12, .inr (0, [.int 0, .ref (x13 0), .ref (x13 1)]))]) [0, 1, 2, 3, 6, 7, 8, 9, 10, 11, 12, 13, 4, 5] (by decide) rfl
  have hK9 := hK.sub (tys' := [(k6, .int), (k8, .int), (k10, .object RX2)]) [0, 1, 2] rfl
  refine W.widen (k := 18) (n := 1853) (Nat.le_of_ble_eq_true rfl) (Nat.le_of_ble_eq_true rfl) ?_
  exact W.vret hx hb hr (fun t ht hW => ⟨⟨(), rfl, trivial, q1, q3, q5, q7, q9, q11, q12, q14, k6, k8, k10, x13, q16, q17, q18, q19, q20, q21, q22, q23, by rw [ht]; exact hP9, va_K.moved hW.alike hK9, hD9⟩, hS.F ht⟩) hS.2.2 dX1_init_107
end
section
theorem wd_208 : (Jvm.Cond.fieldLink "Sleepers$Line" (24 : Nat) "Sleepers$Line" "first" "LSleepers$Part;") ∈ tb := tb_at 208 (by decide +kernel) (by decide +kernel)
theorem wd_210 : (Jvm.Cond.fieldLink "Sleepers$Line" (9 : Nat) "Sleepers$Line" "last" "LSleepers$Part;") ∈ tb := tb_at 210 (by decide +kernel) (by decide +kernel)
theorem wd_222 : (Jvm.Cond.fieldLink "Sleepers$Book" (18 : Nat) "Sleepers$Book" "size" "I") ∈ tb := tb_at 222 (by decide +kernel) (by decide +kernel)
theorem wd_341 : (Jvm.Cond.fieldLink "Sleepers$Scopes" (42 : Nat) "Sleepers$Scopes" "tries" "I") ∈ tb := tb_at 341 (by decide +kernel) (by decide +kernel)
theorem wd_361 : (Jvm.Cond.fieldLink "Sleepers$Scopes" (46 : Nat) "Sleepers$Scopes" "loops" "I") ∈ tb := tb_at 361 (by decide +kernel) (by decide +kernel)
theorem wd_395 : (Jvm.Cond.fieldLink "Sleepers$Program" (53 : Nat) "Sleepers$Program" "size" "I") ∈ tb := tb_at 395 (by decide +kernel) (by decide +kernel)
theorem wd_413 : (Jvm.Cond.fieldLink "Sleepers$Program" (57 : Nat) "Sleepers$Program" "routines" "I") ∈ tb := tb_at 413 (by decide +kernel) (by decide +kernel)
theorem wd_604 : (Jvm.Cond.methodLink "Sleepers$Program" (60 : Nat) ({ cls := "Sleepers$Scopes", name := "clear", desc := "()V" } : Jvm.MethodName)) ∈ tb := tb_at 604 (by decide +kernel) (by decide +kernel)
theorem wd_605 : (Jvm.Cond.instanceMethod ({ cls := "Sleepers$Scopes", name := "clear", desc := "()V" } : Jvm.MethodName)) ∈ tb := tb_at 605 (by decide +kernel) (by decide +kernel)
theorem wd_606 : (Jvm.Cond.selects "Sleepers$Scopes" ({ cls := "Sleepers$Scopes", name := "clear", desc := "()V" } : Jvm.MethodName) ({ cls := "Sleepers$Scopes", name := "clear", desc := "()V" } : Jvm.MethodName)) ∈ tb := tb_at 606 (by decide +kernel) (by decide +kernel)
theorem wd_607 : (Jvm.Cond.code ({ cls := "Sleepers$Scopes", name := "clear", desc := "()V" } : Jvm.MethodName) prog_9_method_2_code (1 : Nat) (Option.none : Option Jvm.ClassFile.FieldType)) ∈ tb := tb_at 607 (by decide +kernel) (by decide +kernel)
theorem dX0_clear_0 : decode cX0_clear 0 = .ok (.aload_n 0, 1) := by decide +kernel
theorem dX0_clear_1 : decode cX0_clear 1 = .ok (.iconst 0, 1) := by decide +kernel
theorem dX0_clear_2 : decode cX0_clear 2 = .ok (.putfield 18, 3) := by decide +kernel
theorem dX0_clear_5 : decode cX0_clear 5 = .ok (.return_, 1) := by decide +kernel
theorem dX2_clear_0 : decode cX2_clear 0 = .ok (.aload_n 0, 1) := by decide +kernel
theorem dX2_clear_1 : decode cX2_clear 1 = .ok (.aconst_null, 1) := by decide +kernel
theorem dX2_clear_2 : decode cX2_clear 2 = .ok (.putfield 24, 3) := by decide +kernel
theorem dX2_clear_5 : decode cX2_clear 5 = .ok (.aload_n 0, 1) := by decide +kernel
theorem dX2_clear_6 : decode cX2_clear 6 = .ok (.aconst_null, 1) := by decide +kernel
theorem dX2_clear_7 : decode cX2_clear 7 = .ok (.putfield 9, 3) := by decide +kernel
theorem dX2_clear_10 : decode cX2_clear 10 = .ok (.return_, 1) := by decide +kernel
theorem dX5_clear_0 : decode cX5_clear 0 = .ok (.aload_n 0, 1) := by decide +kernel
theorem dX5_clear_1 : decode cX5_clear 1 = .ok (.iconst 0, 1) := by decide +kernel
theorem dX5_clear_2 : decode cX5_clear 2 = .ok (.putfield 53, 3) := by decide +kernel
theorem dX5_clear_5 : decode cX5_clear 5 = .ok (.aload_n 0, 1) := by decide +kernel
theorem dX5_clear_6 : decode cX5_clear 6 = .ok (.iconst 0, 1) := by decide +kernel
theorem dX5_clear_7 : decode cX5_clear 7 = .ok (.putfield 57, 3) := by decide +kernel
theorem dX5_clear_10 : decode cX5_clear 10 = .ok (.aload_n 0, 1) := by decide +kernel
theorem dX5_clear_11 : decode cX5_clear 11 = .ok (.getfield 24, 3) := by decide +kernel
theorem dX5_clear_14 : decode cX5_clear 14 = .ok (.invokevirtual 60, 3) := by decide +kernel
theorem dX5_clear_17 : decode cX5_clear 17 = .ok (.return_, 1) := by decide +kernel
theorem dX7_clear_0 : decode cX7_clear 0 = .ok (.aload_n 0, 1) := by decide +kernel
theorem dX7_clear_1 : decode cX7_clear 1 = .ok (.iconst 0, 1) := by decide +kernel
theorem dX7_clear_2 : decode cX7_clear 2 = .ok (.putfield 42, 3) := by decide +kernel
theorem dX7_clear_5 : decode cX7_clear 5 = .ok (.aload_n 0, 1) := by decide +kernel
theorem dX7_clear_6 : decode cX7_clear 6 = .ok (.iconst 0, 1) := by decide +kernel
theorem dX7_clear_7 : decode cX7_clear 7 = .ok (.putfield 46, 3) := by decide +kernel
theorem dX7_clear_10 : decode cX7_clear 10 = .ok (.return_, 1) := by decide +kernel
set_option maxHeartbeats 4000000 in
set_option maxRecDepth 100000 in
theorem ct_X2_clear (l : Launch) (dC : Nat → ClassId) (dI : Nat → Nat → Nat) (h0 : Nat) (sz : Nat) : Met l yX2_clear (.code yX2_clear cX2_clear 1 none :: tb) ({ frames := 0, cells := 0, slots := 0, locals := 0 }) (va_Pc [.ref h0] (fun U => U.heap.size = sz ∧ va_P (dC, dI) vwCl [(h0, .inr (2, [.null, .null]))] U.heap ∧ va_K (dC, dI) vwCl [] U ∧ va_D (fun _ => True) [(h0, .inr (2, [.null, .null]))])) (va_Qv (fun (_ : Unit) => True) (fun (_ : Unit) t => va_P (dC, dI) vwCl [(h0, .inr (2, [.null, .null]))] t.heap ∧ va_K (dC, dI) vwCl [] t ∧ va_D (va_A [(h0, .inr (2, [.null, .null]))] sz) [(h0, .inr (2, [.null, .null]))]) (va_A [(h0, .inr (2, [.null, .null]))] sz)) 0 0 (va_A [(h0, .inr (2, [.null, .null]))] sz) := by
  refine Met.ofW (cc := cX2_clear) (maxL := 1) (ret := none) (by decide) rfl ?_
  intro p e s m args below meth c s₁ B hml hv
  obtain ⟨rfl, hsz, hP, hK, hD0⟩ := hv
  have hx := B.exec
  have hb := B.bytes
  have hr := B.returns
  have hts : ∀ w ∈ tb, w.before _ s = true := fun w h => atoms_spec (ws := (.code yX2_clear cX2_clear 1 none :: tb)) B.pre w (List.mem_cons_of_mem _ h)
  have hown : s.vm.findClass RX2 = some m.cls := findClass_of_methodNamed B.named
  have hlocks := B.notSynchronized
  subst hsz
  have hD := hD0.self (sz := s.heap.size)
  generalize hAe : va_A [(h0, .inr (2, [.null, .null]))] s.heap.size = A at hD ⊢
  have hA : ∀ q : Nat, s.heap.size ≤ q → A q := fun q h => by rw [← hAe]; exact Or.inr h
  have hS : va_S A s.heap s.heap [] := va_S.rf
  have hP : va_P (dC, dI) vwCl [(h0, .inr (2, [.null, .null]))] s.heap := hP
  have hl := lv_entry ([.ref h0]) (n := 1) (Nat.le_of_ble_eq_true rfl)
  rw [lg_entry_eq]
  generalize (lg_sl ([.ref h0]) ++ List.replicate (1 - (lg_sl ([.ref h0])).length) Slot.unset).toArray = ls at hl ⊢
  have hl : lv_has ls 1 [(0, .ref h0)] := hl
  refine lv_aload_n hx hb dX2_clear_0 rfl (lv_at hl 0 rfl) ?_
  refine lv_null hx hb dX2_clear_1 ?_
  refine va_put (D := (dC, dI)) (ci := 2) (v := .null) (ty := (tyX2 0)) (C := RX2) (T := TX2) (N := 2) hx hb hts in_X2 tyX2 tyX2_ok nmX2 hown hK hP hD hS 0 rfl rfl 0 (by decide) (hts _ wd_208) (fun _ h9 => h9) rfl (tyX2_ok 0 (by decide)) rfl rfl (Nat.le_of_ble_eq_true rfl) dX2_clear_2 (fun H locs hP hD hS => ?_)
  have hP : va_P (dC, dI) vwCl [(h0, .inr (2, [.null, .null]))] H := hP
  have hD : va_D A [(h0, .inr (2, [.null, .null]))] := hD
  refine lv_aload_n hx hb dX2_clear_5 rfl (lv_at hl 0 rfl) ?_
  refine lv_null hx hb dX2_clear_6 ?_
  refine va_put (D := (dC, dI)) (ci := 2) (v := .null) (ty := (tyX2 1)) (C := RX2) (T := TX2) (N := 2) hx hb hts in_X2 tyX2 tyX2_ok nmX2 hown hK hP hD hS 0 rfl rfl 1 (by decide) (hts _ wd_210) (fun _ h9 => h9) rfl (tyX2_ok 1 (by decide)) rfl rfl (Nat.le_of_ble_eq_true rfl) dX2_clear_7 (fun H locs hP hD hS => ?_)
  have hP : va_P (dC, dI) vwCl [(h0, .inr (2, [.null, .null]))] H := hP
  have hD : va_D A [(h0, .inr (2, [.null, .null]))] := hD
  have hP9 := hP.sub (ws' := [(h0, .inr (2, [.null, .null]))]) [0] rfl
  have hD9 := hD.sub (ws' := [(h0, .inr (2, [.null, .null]))]) [0] (by decide) rfl
  have hK9 := hK.sub (tys' := []) [] rfl
  refine W.widen (k := 0) (n := 0) (Nat.le_of_ble_eq_true rfl) (Nat.le_of_ble_eq_true rfl) ?_
  exact W.vret hx hb hr (fun t ht hW => ⟨⟨(), rfl, trivial, by rw [ht]; exact hP9, va_K.moved hW.alike hK9, hD9⟩, hS.F ht⟩) hS.2.2 dX2_clear_10
set_option maxHeartbeats 4000000 in
set_option maxRecDepth 100000 in
theorem ct_X0_clear (l : Launch) (dC : Nat → ClassId) (dI : Nat → Nat → Nat) (h0 : Nat) (q : Nat → Nat) (sz : Nat) : Met l yX0_clear (.code yX0_clear cX0_clear 1 none :: tb) ({ frames := 0, cells := 0, slots := 0, locals := 0 }) (va_Pc [.ref h0] (fun U => U.heap.size = sz ∧ va_P (dC, dI) vwCl [(h0, .inr (0, [.int 0, .ref (q 0), .ref (q 1)]))] U.heap ∧ va_K (dC, dI) vwCl [] U ∧ va_D (fun _ => True) [(h0, .inr (0, [.int 0, .ref (q 0), .ref (q 1)]))])) (va_Qv (fun (_ : Unit) => True) (fun (_ : Unit) t => va_P (dC, dI) vwCl [(h0, .inr (0, [.int 0, .ref (q 0), .ref (q 1)]))] t.heap ∧ va_K (dC, dI) vwCl [] t ∧ va_D (va_A [(h0, .inr (0, [.int 0, .ref (q 0), .ref (q 1)]))] sz) [(h0, .inr (0, [.int 0, .ref (q 0), .ref (q 1)]))]) (va_A [(h0, .inr (0, [.int 0, .ref (q 0), .ref (q 1)]))] sz)) 0 0 (va_A [(h0, .inr (0, [.int 0, .ref (q 0), .ref (q 1)]))] sz) := by
  refine Met.ofW (cc := cX0_clear) (maxL := 1) (ret := none) (by decide) rfl ?_
  intro p e s m args below meth c s₁ B hml hv
  obtain ⟨rfl, hsz, hP, hK, hD0⟩ := hv
  have hx := B.exec
  have hb := B.bytes
  have hr := B.returns
  have hts : ∀ w ∈ tb, w.before _ s = true := fun w h => atoms_spec (ws := (.code yX0_clear cX0_clear 1 none :: tb)) B.pre w (List.mem_cons_of_mem _ h)
  have hown : s.vm.findClass RX0 = some m.cls := findClass_of_methodNamed B.named
  have hlocks := B.notSynchronized
  subst hsz
  have hD := hD0.self (sz := s.heap.size)
  generalize hAe : va_A [(h0, .inr (0, [.int 0, .ref (q 0), .ref (q 1)]))] s.heap.size = A at hD ⊢
  have hA : ∀ q : Nat, s.heap.size ≤ q → A q := fun q h => by rw [← hAe]; exact Or.inr h
  have hS : va_S A s.heap s.heap [] := va_S.rf
  have hP : va_P (dC, dI) vwCl [(h0, .inr (0, [.int 0, .ref (q 0), .ref (q 1)]))] s.heap := hP
  have hl := lv_entry ([.ref h0]) (n := 1) (Nat.le_of_ble_eq_true rfl)
  rw [lg_entry_eq]
  generalize (lg_sl ([.ref h0]) ++ List.replicate (1 - (lg_sl ([.ref h0])).length) Slot.unset).toArray = ls at hl ⊢
  have hl : lv_has ls 1 [(0, .ref h0)] := hl
  refine lv_aload_n hx hb dX0_clear_0 rfl (lv_at hl 0 rfl) ?_
  refine lv_iconst (v := 0) hx hb dX0_clear_1 (by decide) ?_
  refine va_put (D := (dC, dI)) (ci := 0) (v := .int 0) (ty := (tyX0 0)) (C := RX0) (T := TX0) (N := 3) hx hb hts in_X0 tyX0 tyX0_ok nmX0 hown hK hP hD hS 0 rfl rfl 0 (by decide) (hts _ wd_222) (fun _ h9 => h9) rfl (tyX0_ok 0 (by decide)) rfl rfl (Nat.le_of_ble_eq_true rfl) dX0_clear_2 (fun H locs hP hD hS => ?_)
  have hP : va_P (dC, dI) vwCl [(h0, .inr (0, [.int 0, .ref (q 0), .ref (q 1)]))] H := hP
  have hD : va_D A [(h0, .inr (0, [.int 0, .ref (q 0), .ref (q 1)]))] := hD
  have hP9 := hP.sub (ws' := [(h0, .inr (0, [.int 0, .ref (q 0), .ref (q 1)]))]) [0] rfl
  have hD9 := hD.sub (ws' := [(h0, .inr (0, [.int 0, .ref (q 0), .ref (q 1)]))]) [0] (by decide) rfl
  have hK9 := hK.sub (tys' := []) [] rfl
  refine W.widen (k := 0) (n := 0) (Nat.le_of_ble_eq_true rfl) (Nat.le_of_ble_eq_true rfl) ?_
  exact W.vret hx hb hr (fun t ht hW => ⟨⟨(), rfl, trivial, by rw [ht]; exact hP9, va_K.moved hW.alike hK9, hD9⟩, hS.F ht⟩) hS.2.2 dX0_clear_5
set_option maxHeartbeats 4000000 in
set_option maxRecDepth 100000 in
theorem ct_X7_clear (l : Launch) (dC : Nat → ClassId) (dI : Nat → Nat → Nat) (h0 : Nat) (q : Nat → Nat) (sz : Nat) : Met l yX7_clear (.code yX7_clear cX7_clear 1 none :: tb) ({ frames := 0, cells := 0, slots := 0, locals := 0 }) (va_Pc [.ref h0] (fun U => U.heap.size = sz ∧ va_P (dC, dI) vwCl [(h0, .inr (7, [.int 0, .ref (q 0), .ref (q 1), .ref (q 2), .ref (q 3), .ref (q 4), .ref (q 5), .ref (q 6), .int 0, .ref (q 7), .ref (q 8), .ref (q 9)]))] U.heap ∧ va_K (dC, dI) vwCl [] U ∧ va_D (fun _ => True) [(h0, .inr (7, [.int 0, .ref (q 0), .ref (q 1), .ref (q 2), .ref (q 3), .ref (q 4), .ref (q 5), .ref (q 6), .int 0, .ref (q 7), .ref (q 8), .ref (q 9)]))])) (va_Qv (fun (_ : Unit) => True) (fun (_ : Unit) t => va_P (dC, dI) vwCl [(h0, .inr (7, [.int 0, .ref (q 0), .ref (q 1), .ref (q 2), .ref (q 3), .ref (q 4), .ref (q 5), .ref (q 6), .int 0, .ref (q 7), .ref (q 8), .ref (q 9)]))] t.heap ∧ va_K (dC, dI) vwCl [] t ∧ va_D (va_A [(h0, .inr (7, [.int 0, .ref (q 0), .ref (q 1), .ref (q 2), .ref (q 3), .ref (q 4), .ref (q 5), .ref (q 6), .int 0, .ref (q 7), .ref (q 8), .ref (q 9)]))] sz) [(h0, .inr (7, [.int 0, .ref (q 0), .ref (q 1), .ref (q 2), .ref (q 3), .ref (q 4), .ref (q 5), .ref (q 6), .int 0, .ref (q 7), .ref (q 8), .ref (q 9)]))]) (va_A [(h0, .inr (7, [.int 0, .ref (q 0), .ref (q 1), .ref (q 2), .ref (q 3), .ref (q 4), .ref (q 5), .ref (q 6), .int 0, .ref (q 7), .ref (q 8), .ref (q 9)]))] sz)) 0 0 (va_A [(h0, .inr (7, [.int 0, .ref (q 0), .ref (q 1), .ref (q 2), .ref (q 3), .ref (q 4), .ref (q 5), .ref (q 6), .int 0, .ref (q 7), .ref (q 8), .ref (q 9)]))] sz) := by
  refine Met.ofW (cc := cX7_clear) (maxL := 1) (ret := none) (by decide) rfl ?_
  intro p e s m args below meth c s₁ B hml hv
  obtain ⟨rfl, hsz, hP, hK, hD0⟩ := hv
  have hx := B.exec
  have hb := B.bytes
  have hr := B.returns
  have hts : ∀ w ∈ tb, w.before _ s = true := fun w h => atoms_spec (ws := (.code yX7_clear cX7_clear 1 none :: tb)) B.pre w (List.mem_cons_of_mem _ h)
  have hown : s.vm.findClass RX7 = some m.cls := findClass_of_methodNamed B.named
  have hlocks := B.notSynchronized
  subst hsz
  have hD := hD0.self (sz := s.heap.size)
  generalize hAe : va_A [(h0, .inr (7, [.int 0, .ref (q 0), .ref (q 1), .ref (q 2), .ref (q 3), .ref (q 4), .ref (q 5), .ref (q 6), .int 0, .ref (q 7), .ref (q 8), .ref (q 9)]))] s.heap.size = A at hD ⊢
  have hA : ∀ q : Nat, s.heap.size ≤ q → A q := fun q h => by rw [← hAe]; exact Or.inr h
  have hS : va_S A s.heap s.heap [] := va_S.rf
  have hP : va_P (dC, dI) vwCl [(h0, .inr (7, [.int 0, .ref (q 0), .ref (q 1), .ref (q 2), .ref (q 3), .ref (q 4), .ref (q 5), .ref (q 6), .int 0, .ref (q 7), .ref (q 8), .ref (q 9)]))] s.heap := hP
  have hl := lv_entry ([.ref h0]) (n := 1) (Nat.le_of_ble_eq_true rfl)
  rw [lg_entry_eq]
  generalize (lg_sl ([.ref h0]) ++ List.replicate (1 - (lg_sl ([.ref h0])).length) Slot.unset).toArray = ls at hl ⊢
  have hl : lv_has ls 1 [(0, .ref h0)] := hl
  refine lv_aload_n hx hb dX7_clear_0 rfl (lv_at hl 0 rfl) ?_
  refine lv_iconst (v := 0) hx hb dX7_clear_1 (by decide) ?_
  refine va_put (D := (dC, dI)) (ci := 7) (v := .int 0) (ty := (tyX7 0)) (C := RX7) (T := TX7) (N := 12) hx hb hts in_X7 tyX7 tyX7_ok nmX7 hown hK hP hD hS 0 rfl rfl 0 (by decide) (hts _ wd_341) (fun _ h9 => h9) rfl (tyX7_ok 0 (by decide)) rfl rfl (Nat.le_of_ble_eq_true rfl) dX7_clear_2 (fun H locs hP hD hS => ?_)
  have hP : va_P (dC, dI) vwCl [(h0, .inr (7, [.int 0, .ref (q 0), .ref (q 1), .ref (q 2), .ref (q 3), .ref (q 4), .ref (q 5), .ref (q 6), .int 0, .ref (q 7), .ref (q 8), .ref (q 9)]))] H := hP
  have hD : va_D A [(h0, .inr (7, [.int 0, .ref (q 0), .ref (q 1), .ref (q 2), .ref (q 3), .ref (q 4), .ref (q 5), .ref (q 6), .int 0, .ref (q 7), .ref (q 8), .ref (q 9)]))] := hD
  refine lv_aload_n hx hb dX7_clear_5 rfl (lv_at hl 0 rfl) ?_
  refine lv_iconst (v := 0) hx hb dX7_clear_6 (by decide) ?_
  refine va_put (D := (dC, dI)) (ci := 7) (v := .int 0) (ty := (tyX7 8)) (C := RX7) (T := TX7) (N := 12) hx hb hts in_X7 tyX7 tyX7_ok nmX7 hown hK hP hD hS 0 rfl rfl 8 (by decide) (hts _ wd_361) (fun _ h9 => h9) rfl (tyX7_ok 8 (by decide)) rfl rfl (Nat.le_of_ble_eq_true rfl) dX7_clear_7 (fun H locs hP hD hS => ?_)
  have hP : va_P (dC, dI) vwCl [(h0, .inr (7, [.int 0, .ref (q 0), .ref (q 1), .ref (q 2), .ref (q 3), .ref (q 4), .ref (q 5), .ref (q 6), .int 0, .ref (q 7), .ref (q 8), .ref (q 9)]))] H := hP
  have hD : va_D A [(h0, .inr (7, [.int 0, .ref (q 0), .ref (q 1), .ref (q 2), .ref (q 3), .ref (q 4), .ref (q 5), .ref (q 6), .int 0, .ref (q 7), .ref (q 8), .ref (q 9)]))] := hD
  have hP9 := hP.sub (ws' := [(h0, .inr (7, [.int 0, .ref (q 0), .ref (q 1), .ref (q 2), .ref (q 3), .ref (q 4), .ref (q 5), .ref (q 6), .int 0, .ref (q 7), .ref (q 8), .ref (q 9)]))]) [0] rfl
  have hD9 := hD.sub (ws' := [(h0, .inr (7, [.int 0, .ref (q 0), .ref (q 1), .ref (q 2), .ref (q 3), .ref (q 4), .ref (q 5), .ref (q 6), .int 0, .ref (q 7), .ref (q 8), .ref (q 9)]))]) [0] (by decide) rfl
  have hK9 := hK.sub (tys' := []) [] rfl
  refine W.widen (k := 0) (n := 0) (Nat.le_of_ble_eq_true rfl) (Nat.le_of_ble_eq_true rfl) ?_
  exact W.vret hx hb hr (fun t ht hW => ⟨⟨(), rfl, trivial, by rw [ht]; exact hP9, va_K.moved hW.alike hK9, hD9⟩, hS.F ht⟩) hS.2.2 dX7_clear_10
set_option maxHeartbeats 4000000 in
set_option maxRecDepth 100000 in
theorem ct_X5_clear (l : Launch) (dC : Nat → ClassId) (dI : Nat → Nat → Nat) (h0 : Nat) (q : Nat → Nat) (sc : Nat) (qc : Nat → Nat) (sz : Nat) : Met l yX5_clear (.code yX5_clear cX5_clear 1 none :: tb) ({ frames := 1, cells := 0, slots := 0, locals := 20 }) (va_Pc [.ref h0] (fun U => U.heap.size = sz ∧ va_P (dC, dI) vwCl [(h0, .inr (5, [.int 0, .ref (q 0), .ref (q 1), .ref (q 2), .ref sc, .int 0, .ref (q 3), .ref (q 4), .ref (q 5), .ref (q 6), .ref (q 7), .ref (q 8), .ref (q 9), .ref (q 10)])), (sc, .inr (7, [.int 0, .ref (qc 0), .ref (qc 1), .ref (qc 2), .ref (qc 3), .ref (qc 4), .ref (qc 5), .ref (qc 6), .int 0, .ref (qc 7), .ref (qc 8), .ref (qc 9)]))] U.heap ∧ va_K (dC, dI) vwCl [] U ∧ va_D (fun _ => True) [(h0, .inr (5, [.int 0, .ref (q 0), .ref (q 1), .ref (q 2), .ref sc, .int 0, .ref (q 3), .ref (q 4), .ref (q 5), .ref (q 6), .ref (q 7), .ref (q 8), .ref (q 9), .ref (q 10)])), (sc, .inr (7, [.int 0, .ref (qc 0), .ref (qc 1), .ref (qc 2), .ref (qc 3), .ref (qc 4), .ref (qc 5), .ref (qc 6), .int 0, .ref (qc 7), .ref (qc 8), .ref (qc 9)]))])) (va_Qv (fun (_ : Unit) => True) (fun (_ : Unit) t => va_P (dC, dI) vwCl [(h0, .inr (5, [.int 0, .ref (q 0), .ref (q 1), .ref (q 2), .ref sc, .int 0, .ref (q 3), .ref (q 4), .ref (q 5), .ref (q 6), .ref (q 7), .ref (q 8), .ref (q 9), .ref (q 10)])), (sc, .inr (7, [.int 0, .ref (qc 0), .ref (qc 1), .ref (qc 2), .ref (qc 3), .ref (qc 4), .ref (qc 5), .ref (qc 6), .int 0, .ref (qc 7), .ref (qc 8), .ref (qc 9)]))] t.heap ∧ va_K (dC, dI) vwCl [] t ∧ va_D (va_A [(h0, .inr (5, [.int 0, .ref (q 0), .ref (q 1), .ref (q 2), .ref sc, .int 0, .ref (q 3), .ref (q 4), .ref (q 5), .ref (q 6), .ref (q 7), .ref (q 8), .ref (q 9), .ref (q 10)])), (sc, .inr (7, [.int 0, .ref (qc 0), .ref (qc 1), .ref (qc 2), .ref (qc 3), .ref (qc 4), .ref (qc 5), .ref (qc 6), .int 0, .ref (qc 7), .ref (qc 8), .ref (qc 9)]))] sz) [(h0, .inr (5, [.int 0, .ref (q 0), .ref (q 1), .ref (q 2), .ref sc, .int 0, .ref (q 3), .ref (q 4), .ref (q 5), .ref (q 6), .ref (q 7), .ref (q 8), .ref (q 9), .ref (q 10)])), (sc, .inr (7, [.int 0, .ref (qc 0), .ref (qc 1), .ref (qc 2), .ref (qc 3), .ref (qc 4), .ref (qc 5), .ref (qc 6), .int 0, .ref (qc 7), .ref (qc 8), .ref (qc 9)]))]) (va_A [(h0, .inr (5, [.int 0, .ref (q 0), .ref (q 1), .ref (q 2), .ref sc, .int 0, .ref (q 3), .ref (q 4), .ref (q 5), .ref (q 6), .ref (q 7), .ref (q 8), .ref (q 9), .ref (q 10)])), (sc, .inr (7, [.int 0, .ref (qc 0), .ref (qc 1), .ref (qc 2), .ref (qc 3), .ref (qc 4), .ref (qc 5), .ref (qc 6), .int 0, .ref (qc 7), .ref (qc 8), .ref (qc 9)]))] sz)) 0 0 (va_A [(h0, .inr (5, [.int 0, .ref (q 0), .ref (q 1), .ref (q 2), .ref sc, .int 0, .ref (q 3), .ref (q 4), .ref (q 5), .ref (q 6), .ref (q 7), .ref (q 8), .ref (q 9), .ref (q 10)])), (sc, .inr (7, [.int 0, .ref (qc 0), .ref (qc 1), .ref (qc 2), .ref (qc 3), .ref (qc 4), .ref (qc 5), .ref (qc 6), .int 0, .ref (qc 7), .ref (qc 8), .ref (qc 9)]))] sz) := by
  refine Met.ofW (cc := cX5_clear) (maxL := 1) (ret := none) (by decide) rfl ?_
  intro p e s m args below meth c s₁ B hml hv
  obtain ⟨rfl, hsz, hP, hK, hD0⟩ := hv
  have hx := B.exec
  have hb := B.bytes
  have hr := B.returns
  have hts : ∀ w ∈ tb, w.before _ s = true := fun w h => atoms_spec (ws := (.code yX5_clear cX5_clear 1 none :: tb)) B.pre w (List.mem_cons_of_mem _ h)
  have hown : s.vm.findClass RX5 = some m.cls := findClass_of_methodNamed B.named
  have hlocks := B.notSynchronized
  subst hsz
  have hD := hD0.self (sz := s.heap.size)
  generalize hAe : va_A [(h0, .inr (5, [.int 0, .ref (q 0), .ref (q 1), .ref (q 2), .ref sc, .int 0, .ref (q 3), .ref (q 4), .ref (q 5), .ref (q 6), .ref (q 7), .ref (q 8), .ref (q 9), .ref (q 10)])), (sc, .inr (7, [.int 0, .ref (qc 0), .ref (qc 1), .ref (qc 2), .ref (qc 3), .ref (qc 4), .ref (qc 5), .ref (qc 6), .int 0, .ref (qc 7), .ref (qc 8), .ref (qc 9)]))] s.heap.size = A at hD ⊢
  have hA : ∀ q : Nat, s.heap.size ≤ q → A q := fun q h => by rw [← hAe]; exact Or.inr h
  have hS : va_S A s.heap s.heap [] := va_S.rf
  have hP : va_P (dC, dI) vwCl [(h0, .inr (5, [.int 0, .ref (q 0), .ref (q 1), .ref (q 2), .ref sc, .int 0, .ref (q 3), .ref (q 4), .ref (q 5), .ref (q 6), .ref (q 7), .ref (q 8), .ref (q 9), .ref (q 10)])), (sc, .inr (7, [.int 0, .ref (qc 0), .ref (qc 1), .ref (qc 2), .ref (qc 3), .ref (qc 4), .ref (qc 5), .ref (qc 6), .int 0, .ref (qc 7), .ref (qc 8), .ref (qc 9)]))] s.heap := hP
  have hl := lv_entry ([.ref h0]) (n := 1) (Nat.le_of_ble_eq_true rfl)
  rw [lg_entry_eq]
  generalize (lg_sl ([.ref h0]) ++ List.replicate (1 - (lg_sl ([.ref h0])).length) Slot.unset).toArray = ls at hl ⊢
  have hl : lv_has ls 1 [(0, .ref h0)] := hl
  refine lv_aload_n hx hb dX5_clear_0 rfl (lv_at hl 0 rfl) ?_
  refine lv_iconst (v := 0) hx hb dX5_clear_1 (by decide) ?_
  refine va_put (D := (dC, dI)) (ci := 5) (v := .int 0) (ty := (tyX5 0)) (C := RX5) (T := TX5) (N := 14) hx hb hts in_X5 tyX5 tyX5_ok nmX5 hown hK hP hD hS 0 rfl rfl 0 (by decide) (hts _ wd_395) (fun _ h9 => h9) rfl (tyX5_ok 0 (by decide)) rfl rfl (Nat.le_of_ble_eq_true rfl) dX5_clear_2 (fun H locs hP hD hS => ?_)
  have hP : va_P (dC, dI) vwCl [(h0, .inr (5, [.int 0, .ref (q 0), .ref (q 1), .ref (q 2), .ref sc, .int 0, .ref (q 3), .ref (q 4), .ref (q 5), .ref (q 6), .ref (q 7), .ref (q 8), .ref (q 9), .ref (q 10)])), (sc, .inr (7, [.int 0, .ref (qc 0), .ref (qc 1), .ref (qc 2), .ref (qc 3), .ref (qc 4), .ref (qc 5), .ref (qc 6), .int 0, .ref (qc 7), .ref (qc 8), .ref (qc 9)]))] H := hP
  have hD : va_D A [(h0, .inr (5, [.int 0, .ref (q 0), .ref (q 1), .ref (q 2), .ref sc, .int 0, .ref (q 3), .ref (q 4), .ref (q 5), .ref (q 6), .ref (q 7), .ref (q 8), .ref (q 9), .ref (q 10)])), (sc, .inr (7, [.int 0, .ref (qc 0), .ref (qc 1), .ref (qc 2), .ref (qc 3), .ref (qc 4), .ref (qc 5), .ref (qc 6), .int 0, .ref (qc 7), .ref (qc 8), .ref (qc 9)]))] := hD
  refine lv_aload_n hx hb dX5_clear_5 rfl (lv_at hl 0 rfl) ?_
  refine lv_iconst (v := 0) hx hb dX5_clear_6 (by decide) ?_
  refine va_put (D := (dC, dI)) (ci := 5) (v := .int 0) (ty := (tyX5 5)) (C := RX5) (T := TX5) (N := 14) hx hb hts in_X5 tyX5 tyX5_ok nmX5 hown hK hP hD hS 0 rfl rfl 5 (by decide) (hts _ wd_413) (fun _ h9 => h9) rfl (tyX5_ok 5 (by decide)) rfl rfl (Nat.le_of_ble_eq_true rfl) dX5_clear_7 (fun H locs hP hD hS => ?_)
  have hP : va_P (dC, dI) vwCl [(h0, .inr (5, [.int 0, .ref (q 0), .ref (q 1), .ref (q 2), .ref sc, .int 0, .ref (q 3), .ref (q 4), .ref (q 5), .ref (q 6), .ref (q 7), .ref (q 8), .ref (q 9), .ref (q 10)])), (sc, .inr (7, [.int 0, .ref (qc 0), .ref (qc 1), .ref (qc 2), .ref (qc 3), .ref (qc 4), .ref (qc 5), .ref (qc 6), .int 0, .ref (qc 7), .ref (qc 8), .ref (qc 9)]))] H := hP
  have hD : va_D A [(h0, .inr (5, [.int 0, .ref (q 0), .ref (q 1), .ref (q 2), .ref sc, .int 0, .ref (q 3), .ref (q 4), .ref (q 5), .ref (q 6), .ref (q 7), .ref (q 8), .ref (q 9), .ref (q 10)])), (sc, .inr (7, [.int 0, .ref (qc 0), .ref (qc 1), .ref (qc 2), .ref (qc 3), .ref (qc 4), .ref (qc 5), .ref (qc 6), .int 0, .ref (qc 7), .ref (qc 8), .ref (qc 9)]))] := hD
  refine lv_aload_n hx hb dX5_clear_10 rfl (lv_at hl 0 rfl) ?_
  refine va_get (D := (dC, dI)) (ci := 5) (v := .ref sc) (C := RX5) (T := TX5) (N := 14) hx hb hts in_X5 hown hK hP 0 rfl rfl 4 (by decide) (hts _ wd_409) (fun _ h9 => h9) rfl dX5_clear_11 ?_
  have hPc := hP.sub (ws' := [(sc, .inr (7, [.int 0, .ref (qc 0), .ref (qc 1), .ref (qc 2), .ref (qc 3), .ref (qc 4), .ref (qc 5), .ref (qc 6), .int 0, .ref (qc 7), .ref (qc 8), .ref (qc 9)]))]) [1] rfl
  have hDc := hD.sub (ws' := [(sc, .inr (7, [.int 0, .ref (qc 0), .ref (qc 1), .ref (qc 2), .ref (qc 3), .ref (qc 4), .ref (qc 5), .ref (qc 6), .int 0, .ref (qc 7), .ref (qc 8), .ref (qc 9)]))]) [1] (by decide) rfl
  have hKc := hK.sub (tys' := []) [] rfl
  have hFc := va_free (wc := [(sc, .inr (7, [.int 0, .ref (qc 0), .ref (qc 1), .ref (qc 2), .ref (qc 3), .ref (qc 4), .ref (qc 5), .ref (qc 6), .int 0, .ref (qc 7), .ref (qc 8), .ref (qc 9)]))]) hD hS hA [1] rfl
  refine va_callv (va_runV (As := []) (rest := []) ⟨hx, hb, hml, hown, hts⟩ (ct_X7_clear l dC dI sc qc H.size) (cwV 0 hts (gd_V wd_604 wd_605 wd_606 wd_14 wd_607) rfl rfl rfl (by decide +kernel) ⟨Nat.le_of_ble_eq_true rfl, Nat.le_of_ble_eq_true rfl⟩) ⟨fun a U g mk q => by obtain ⟨q0, q1, qP, qK, qD⟩ := q; exact ⟨q0, q1, qP, va_K.moved (u := U) (U := U.calling g mk a) (Vm.Alike.refl U.vm) qK, qD⟩, va_recv hKc hPc (ci := 7) (q0 := 0) rfl rfl, fun U hU hW => ⟨rfl, by rw [hU], by rw [hU]; exact hPc, va_K.moved hW.alike hKc, hDc.weaken (fun _ _ _ _ => trivial)⟩⟩ rfl rfl hl.1 rfl (lv_room (Nat.le_of_ble_eq_true rfl)) dX5_clear_14 ⟨Nat.le_of_ble_eq_true rfl, Nat.le_of_ble_eq_true rfl⟩) hS (fun q _ h => hFc q h) hFc (fun u t H1 locs ht hvm hw hB hz1 hk1 hS => ?_)
  obtain ⟨hP1, hK1, hD1⟩ := hB
  rw [ht] at hP1
  have hK1 := va_K.moved hvm.symm hK1
  obtain ⟨hP, hD⟩ := va_join (wr := [(h0, .inr (5, [.int 0, .ref (q 0), .ref (q 1), .ref (q 2), .ref sc, .int 0, .ref (q 3), .ref (q 4), .ref (q 5), .ref (q 6), .ref (q 7), .ref (q 8), .ref (q 9), .ref (q 10)]))]) (w1 := [(sc, .inr (7, [.int 0, .ref (qc 0), .ref (qc 1), .ref (qc 2), .ref (qc 3), .ref (qc 4), .ref (qc 5), .ref (qc 6), .int 0, .ref (qc 7), .ref (qc 8), .ref (qc 9)]))]) hP hD [1] [0] rfl rfl (by decide) (by decide) hk1 hFc hP1 hD1
  have hK := (hK.sub (tys' := []) [] rfl).app (hK1.sub (tys' := []) [] rfl)
  generalize H1 = H at hP hS ⊢
  have hP : va_P (dC, dI) vwCl [(h0, .inr (5, [.int 0, .ref (q 0), .ref (q 1), .ref (q 2), .ref sc, .int 0, .ref (q 3), .ref (q 4), .ref (q 5), .ref (q 6), .ref (q 7), .ref (q 8), .ref (q 9), .ref (q 10)])), (sc, .inr (7, [.int 0, .ref (qc 0), .ref (qc 1), .ref (qc 2), .ref (qc 3), .ref (qc 4), .ref (qc 5), .ref (qc 6), .int 0, .ref (qc 7), .ref (qc 8), .ref (qc 9)]))] H := hP
  have hD : va_D A [(h0, .inr (5, [.int 0, .ref (q 0), .ref (q 1), .ref (q 2), .ref sc, .int 0, .ref (q 3), .ref (q 4), .ref (q 5), .ref (q 6), .ref (q 7), .ref (q 8), .ref (q 9), .ref (q 10)])), (sc, .inr (7, [.int 0, .ref (qc 0), .ref (qc 1), .ref (qc 2), .ref (qc 3), .ref (qc 4), .ref (qc 5), .ref (qc 6), .int 0, .ref (qc 7), .ref (qc 8), .ref (qc 9)]))] := hD
  have hK : va_K (dC, dI) vwCl [] s := hK
  have hP9 := hP.sub (ws' := [(h0, .inr (5, [.int 0, .ref (q 0), .ref (q 1), .ref (q 2), .ref sc, .int 0, .ref (q 3), .ref (q 4), .ref (q 5), .ref (q 6), .ref (q 7), .ref (q 8), .ref (q 9), .ref (q 10)])), (sc, .inr (7, [.int 0, .ref (qc 0), .ref (qc 1), .ref (qc 2), .ref (qc 3), .ref (qc 4), .ref (qc 5), .ref (qc 6), .int 0, .ref (qc 7), .ref (qc 8), .ref (qc 9)]))]) [0, 1] rfl
  have hD9 := hD.sub (ws' := [(h0, .inr (5, [.int 0, .ref (q 0), .ref (q 1), .ref (q 2), .ref sc, .int 0, .ref (q 3), .ref (q 4), .ref (q 5), .ref (q 6), .ref (q 7), .ref (q 8), .ref (q 9), .ref (q 10)])), (sc, .inr (7, [.int 0, .ref (qc 0), .ref (qc 1), .ref (qc 2), .ref (qc 3), .ref (qc 4), .ref (qc 5), .ref (qc 6), .int 0, .ref (qc 7), .ref (qc 8), .ref (qc 9)]))]) [0, 1] (by decide) rfl
  have hK9 := hK.sub (tys' := []) [] rfl
  refine W.widen (k := 0) (n := 0) (Nat.le_of_ble_eq_true rfl) (Nat.le_of_ble_eq_true rfl) ?_
  exact W.vret hx hb hr (fun t ht hW => ⟨⟨(), rfl, trivial, by rw [ht]; exact hP9, va_K.moved hW.alike hK9, hD9⟩, hS.F ht⟩) hS.2.2 dX5_clear_17
end
section
theorem wd_233 : (Jvm.Cond.fieldLink "Sleepers$Hall" (48 : Nat) "Sleepers$Hall" "program" "LSleepers$Program;") ∈ tb := tb_at 233 (by decide +kernel) (by decide +kernel)
theorem wd_237 : (Jvm.Cond.fieldLink "Sleepers$Hall" (52 : Nat) "Sleepers$Hall" "taskCount" "I") ∈ tb := tb_at 237 (by decide +kernel) (by decide +kernel)
theorem wd_239 : (Jvm.Cond.fieldLink "Sleepers$Hall" (60 : Nat) "Sleepers$Hall" "endedCount" "I") ∈ tb := tb_at 239 (by decide +kernel) (by decide +kernel)
theorem wd_243 : (Jvm.Cond.fieldLink "Sleepers$Hall" (63 : Nat) "Sleepers$Hall" "rowCount" "I") ∈ tb := tb_at 243 (by decide +kernel) (by decide +kernel)
theorem wd_245 : (Jvm.Cond.fieldLink "Sleepers$Hall" (66 : Nat) "Sleepers$Hall" "clock" "I") ∈ tb := tb_at 245 (by decide +kernel) (by decide +kernel)
theorem wd_470 : (Jvm.Cond.methodLink "Sleepers$Hall" (69 : Nat) ({ cls := "Sleepers$Line", name := "clear", desc := "()V" } : Jvm.MethodName)) ∈ tb := tb_at 470 (by decide +kernel) (by decide +kernel)
theorem wd_471 : (Jvm.Cond.instanceMethod ({ cls := "Sleepers$Line", name := "clear", desc := "()V" } : Jvm.MethodName)) ∈ tb := tb_at 471 (by decide +kernel) (by decide +kernel)
theorem wd_472 : (Jvm.Cond.selects "Sleepers$Line" ({ cls := "Sleepers$Line", name := "clear", desc := "()V" } : Jvm.MethodName) ({ cls := "Sleepers$Line", name := "clear", desc := "()V" } : Jvm.MethodName)) ∈ tb := tb_at 472 (by decide +kernel) (by decide +kernel)
theorem wd_473 : (Jvm.Cond.code ({ cls := "Sleepers$Line", name := "clear", desc := "()V" } : Jvm.MethodName) prog_4_method_5_code (1 : Nat) (Option.none : Option Jvm.ClassFile.FieldType)) ∈ tb := tb_at 473 (by decide +kernel) (by decide +kernel)
theorem wd_474 : (Jvm.Cond.methodLink "Sleepers$Hall" (72 : Nat) ({ cls := "Sleepers$Book", name := "clear", desc := "()V" } : Jvm.MethodName)) ∈ tb := tb_at 474 (by decide +kernel) (by decide +kernel)
theorem wd_475 : (Jvm.Cond.instanceMethod ({ cls := "Sleepers$Book", name := "clear", desc := "()V" } : Jvm.MethodName)) ∈ tb := tb_at 475 (by decide +kernel) (by decide +kernel)
theorem wd_476 : (Jvm.Cond.selects "Sleepers$Book" ({ cls := "Sleepers$Book", name := "clear", desc := "()V" } : Jvm.MethodName) ({ cls := "Sleepers$Book", name := "clear", desc := "()V" } : Jvm.MethodName)) ∈ tb := tb_at 476 (by decide +kernel) (by decide +kernel)
theorem wd_477 : (Jvm.Cond.code ({ cls := "Sleepers$Book", name := "clear", desc := "()V" } : Jvm.MethodName) prog_2_method_4_code (1 : Nat) (Option.none : Option Jvm.ClassFile.FieldType)) ∈ tb := tb_at 477 (by decide +kernel) (by decide +kernel)
theorem dX1_open_0 : decode cX1_open 0 = .ok (.aload_n 0, 1) := by decide +kernel
theorem dX1_open_1 : decode cX1_open 1 = .ok (.aload_n 1, 1) := by decide +kernel
theorem dX1_open_2 : decode cX1_open 2 = .ok (.putfield 48, 3) := by decide +kernel
theorem dX1_open_5 : decode cX1_open 5 = .ok (.iconst 0, 1) := by decide +kernel
theorem dX1_open_6 : decode cX1_open 6 = .ok (.istore_n 2, 1) := by decide +kernel
theorem dX1_open_7 : decode cX1_open 7 = .ok (.iload_n 2, 1) := by decide +kernel
theorem dX1_open_8 : decode cX1_open 8 = .ok (.aload_n 0, 1) := by decide +kernel
theorem dX1_open_9 : decode cX1_open 9 = .ok (.getfield 52, 3) := by decide +kernel
theorem dX1_open_12 : decode cX1_open 12 = .ok (.if_icmp .ge 19, 3) := by decide +kernel
theorem dX1_open_15 : decode cX1_open 15 = .ok (.aload_n 0, 1) := by decide +kernel
theorem dX1_open_16 : decode cX1_open 16 = .ok (.aload_n 0, 1) := by decide +kernel
theorem dX1_open_17 : decode cX1_open 17 = .ok (.getfield 11, 3) := by decide +kernel
theorem dX1_open_20 : decode cX1_open 20 = .ok (.iload_n 2, 1) := by decide +kernel
theorem dX1_open_21 : decode cX1_open 21 = .ok (.aaload, 1) := by decide +kernel
theorem dX1_open_22 : decode cX1_open 22 = .ok (.invokevirtual 56, 3) := by decide +kernel
theorem dX1_open_25 : decode cX1_open 25 = .ok (.iinc 2 1, 3) := by decide +kernel
theorem dX1_open_28 : decode cX1_open 28 = .ok (.goto (-21), 3) := by decide +kernel
theorem dX1_open_31 : decode cX1_open 31 = .ok (.aload_n 0, 1) := by decide +kernel
theorem dX1_open_32 : decode cX1_open 32 = .ok (.iconst 0, 1) := by decide +kernel
theorem dX1_open_33 : decode cX1_open 33 = .ok (.putfield 52, 3) := by decide +kernel
theorem dX1_open_36 : decode cX1_open 36 = .ok (.aload_n 0, 1) := by decide +kernel
theorem dX1_open_37 : decode cX1_open 37 = .ok (.iconst 0, 1) := by decide +kernel
theorem dX1_open_38 : decode cX1_open 38 = .ok (.putfield 60, 3) := by decide +kernel
theorem dX1_open_41 : decode cX1_open 41 = .ok (.aload_n 0, 1) := by decide +kernel
theorem dX1_open_42 : decode cX1_open 42 = .ok (.iconst 0, 1) := by decide +kernel
theorem dX1_open_43 : decode cX1_open 43 = .ok (.putfield 63, 3) := by decide +kernel
theorem dX1_open_46 : decode cX1_open 46 = .ok (.aload_n 0, 1) := by decide +kernel
theorem dX1_open_47 : decode cX1_open 47 = .ok (.iconst 0, 1) := by decide +kernel
theorem dX1_open_48 : decode cX1_open 48 = .ok (.putfield 66, 3) := by decide +kernel
theorem dX1_open_51 : decode cX1_open 51 = .ok (.iconst 0, 1) := by decide +kernel
theorem dX1_open_52 : decode cX1_open 52 = .ok (.istore_n 2, 1) := by decide +kernel
theorem dX1_open_53 : decode cX1_open 53 = .ok (.iload_n 2, 1) := by decide +kernel
theorem dX1_open_54 : decode cX1_open 54 = .ok (.bipush 8, 2) := by decide +kernel
theorem dX1_open_56 : decode cX1_open 56 = .ok (.if_icmp .ge 25, 3) := by decide +kernel
theorem dX1_open_59 : decode cX1_open 59 = .ok (.aload_n 0, 1) := by decide +kernel
theorem dX1_open_60 : decode cX1_open 60 = .ok (.getfield 24, 3) := by decide +kernel
theorem dX1_open_63 : decode cX1_open 63 = .ok (.iload_n 2, 1) := by decide +kernel
theorem dX1_open_64 : decode cX1_open 64 = .ok (.iconst 0, 1) := by decide +kernel
theorem dX1_open_65 : decode cX1_open 65 = .ok (.iastore, 1) := by decide +kernel
theorem dX1_open_66 : decode cX1_open 66 = .ok (.aload_n 0, 1) := by decide +kernel
theorem dX1_open_67 : decode cX1_open 67 = .ok (.getfield 29, 3) := by decide +kernel
theorem dX1_open_70 : decode cX1_open 70 = .ok (.iload_n 2, 1) := by decide +kernel
theorem dX1_open_71 : decode cX1_open 71 = .ok (.aaload, 1) := by decide +kernel
theorem dX1_open_72 : decode cX1_open 72 = .ok (.invokevirtual 69, 3) := by decide +kernel
theorem dX1_open_75 : decode cX1_open 75 = .ok (.iinc 2 1, 3) := by decide +kernel
theorem dX1_open_78 : decode cX1_open 78 = .ok (.goto (-25), 3) := by decide +kernel
theorem dX1_open_81 : decode cX1_open 81 = .ok (.aload_n 0, 1) := by decide +kernel
theorem dX1_open_82 : decode cX1_open 82 = .ok (.getfield 34, 3) := by decide +kernel
theorem dX1_open_85 : decode cX1_open 85 = .ok (.invokevirtual 69, 3) := by decide +kernel
theorem dX1_open_88 : decode cX1_open 88 = .ok (.aload_n 0, 1) := by decide +kernel
theorem dX1_open_89 : decode cX1_open 89 = .ok (.getfield 41, 3) := by decide +kernel
theorem dX1_open_92 : decode cX1_open 92 = .ok (.invokevirtual 72, 3) := by decide +kernel
theorem dX1_open_95 : decode cX1_open 95 = .ok (.return_, 1) := by decide +kernel
set_option maxHeartbeats 4000000 in
set_option maxRecDepth 100000 in
theorem ct_X1_open (l : Launch) (dC : Nat → ClassId) (dI : Nat → Nat → Nat) (h0 : Nat) (h1 : Nat) (pv : Value) (xt : Nat) (xr : Nat) (le : Nat) (lc : Nat) (ln : Nat) (al : Nat) (lo : Nat) (xg : Nat) (klc : ClassId) (kln : ClassId) (ql : Nat → Nat) (l0 : Nat) (l1 : Nat) (l2 : Nat) (l3 : Nat) (l4 : Nat) (l5 : Nat) (l6 : Nat) (l7 : Nat) (sz : Nat) : Met l yX1_open (.code yX1_open cX1_open 3 none :: tb) ({ frames := 1, cells := 0, slots := 0, locals := 20 }) (va_Pc [.ref h0, .ref h1] (fun U => U.heap.size = sz ∧ va_P (dC, dI) vwCl [(h0, .inr (1, [pv, .ref xt, .int 0, .int 0, .ref xr, .int 0, .int 0, .ref le, .ref lc, .ref ln, .ref al, .ref lo, .ref xg, .int 0, .null])), (lc, .inl (klc, 8, .inl (fun _ => 0))), (ln, .inl (kln, 8, .inr (.inr (.inr (.inr (fun i => [l0, l1, l2, l3, l4, l5, l6, l7][i]?)))))), (l0, .inr (2, [.null, .null])), (l1, .inr (2, [.null, .null])), (l2, .inr (2, [.null, .null])), (l3, .inr (2, [.null, .null])), (l4, .inr (2, [.null, .null])), (l5, .inr (2, [.null, .null])), (l6, .inr (2, [.null, .null])), (l7, .inr (2, [.null, .null])), (al, .inr (2, [.null, .null])), (lo, .inr (0, [.int 0, .ref (ql 0), .ref (ql 1)]))] U.heap ∧ va_K (dC, dI) vwCl [(klc, .int), (kln, .object RX2)] U ∧ va_D (fun _ => True) [(h0, .inr (1, [pv, .ref xt, .int 0, .int 0, .ref xr, .int 0, .int 0, .ref le, .ref lc, .ref ln, .ref al, .ref lo, .ref xg, .int 0, .null])), (lc, .inl (klc, 8, .inl (fun _ => 0))), (ln, .inl (kln, 8, .inr (.inr (.inr (.inr (fun i => [l0, l1, l2, l3, l4, l5, l6, l7][i]?)))))), (l0, .inr (2, [.null, .null])), (l1, .inr (2, [.null, .null])), (l2, .inr (2, [.null, .null])), (l3, .inr (2, [.null, .null])), (l4, .inr (2, [.null, .null])), (l5, .inr (2, [.null, .null])), (l6, .inr (2, [.null, .null])), (l7, .inr (2, [.null, .null])), (al, .inr (2, [.null, .null])), (lo, .inr (0, [.int 0, .ref (ql 0), .ref (ql 1)]))])) (va_Qv (fun (_ : Unit) => True) (fun (_ : Unit) t => va_P (dC, dI) vwCl [(h0, .inr (1, [.ref h1, .ref xt, .int 0, .int 0, .ref xr, .int 0, .int 0, .ref le, .ref lc, .ref ln, .ref al, .ref lo, .ref xg, .int 0, .null])), (lc, .inl (klc, 8, .inl (fun _ => 0))), (ln, .inl (kln, 8, .inr (.inr (.inr (.inr (fun i => [l0, l1, l2, l3, l4, l5, l6, l7][i]?)))))), (l0, .inr (2, [.null, .null])), (l1, .inr (2, [.null, .null])), (l2, .inr (2, [.null, .null])), (l3, .inr (2, [.null, .null])), (l4, .inr (2, [.null, .null])), (l5, .inr (2, [.null, .null])), (l6, .inr (2, [.null, .null])), (l7, .inr (2, [.null, .null])), (al, .inr (2, [.null, .null])), (lo, .inr (0, [.int 0, .ref (ql 0), .ref (ql 1)]))] t.heap ∧ va_K (dC, dI) vwCl [] t ∧ va_D (va_A [(h0, .inr (1, [pv, .ref xt, .int 0, .int 0, .ref xr, .int 0, .int 0, .ref le, .ref lc, .ref ln, .ref al, .ref lo, .ref xg, .int 0, .null])), (lc, .inl (klc, 8, .inl (fun _ => 0))), (ln, .inl (kln, 8, .inr (.inr (.inr (.inr (fun i => [l0, l1, l2, l3, l4, l5, l6, l7][i]?)))))), (l0, .inr (2, [.null, .null])), (l1, .inr (2, [.null, .null])), (l2, .inr (2, [.null, .null])), (l3, .inr (2, [.null, .null])), (l4, .inr (2, [.null, .null])), (l5, .inr (2, [.null, .null])), (l6, .inr (2, [.null, .null])), (l7, .inr (2, [.null, .null])), (al, .inr (2, [.null, .null])), (lo, .inr (0, [.int 0, .ref (ql 0), .ref (ql 1)]))] sz) [(h0, .inr (1, [.ref h1, .ref xt, .int 0, .int 0, .ref xr, .int 0, .int 0, .ref le, .ref lc, .ref ln, .ref al, .ref lo, .ref xg, .int 0, .null])), (lc, .inl (klc, 8, .inl (fun _ => 0))), (ln, .inl (kln, 8, .inr (.inr (.inr (.inr (fun i => [l0, l1, l2, l3, l4, l5, l6, l7][i]?)))))), (l0, .inr (2, [.null, .null])), (l1, .inr (2, [.null, .null])), (l2, .inr (2, [.null, .null])), (l3, .inr (2, [.null, .null])), (l4, .inr (2, [.null, .null])), (l5, .inr (2, [.null, .null])), (l6, .inr (2, [.null, .null])), (l7, .inr (2, [.null, .null])), (al, .inr (2, [.null, .null])), (lo, .inr (0, [.int 0, .ref (ql 0), .ref (ql 1)]))]) (va_A [(h0, .inr (1, [pv, .ref xt, .int 0, .int 0, .ref xr, .int 0, .int 0, .ref le, .ref lc, .ref ln, .ref al, .ref lo, .ref xg, .int 0, .null])), (lc, .inl (klc, 8, .inl (fun _ => 0))), (ln, .inl (kln, 8, .inr (.inr (.inr (.inr (fun i => [l0, l1, l2, l3, l4, l5, l6, l7][i]?)))))), (l0, .inr (2, [.null, .null])), (l1, .inr (2, [.null, .null])), (l2, .inr (2, [.null, .null])), (l3, .inr (2, [.null, .null])), (l4, .inr (2, [.null, .null])), (l5, .inr (2, [.null, .null])), (l6, .inr (2, [.null, .null])), (l7, .inr (2, [.null, .null])), (al, .inr (2, [.null, .null])), (lo, .inr (0, [.int 0, .ref (ql 0), .ref (ql 1)]))] sz)) 0 0 (va_A [(h0, .inr (1, [pv, .ref xt, .int 0, .int 0, .ref xr, .int 0, .int 0, .ref le, .ref lc, .ref ln, .ref al, .ref lo, .ref xg, .int 0, .null])), (lc, .inl (klc, 8, .inl (fun _ => 0))), (ln, .inl (kln, 8, .inr (.inr (.inr (.inr (fun i => [l0, l1, l2, l3, l4, l5, l6, l7][i]?)))))), (l0, .inr (2, [.null, .null])), (l1, .inr (2, [.null, .null])), (l2, .inr (2, [.null, .null])), (l3, .inr (2, [.null, .null])), (l4, .inr (2, [.null, .null])), (l5, .inr (2, [.null, .null])), (l6, .inr (2, [.null, .null])), (l7, .inr (2, [.null, .null])), (al, .inr (2, [.null, .null])), (lo, .inr (0, [.int 0, .ref (ql 0), .ref (ql 1)]))] sz) := by
  refine Met.ofW (cc := cX1_open) (maxL := 3) (ret := none) (by decide) rfl ?_
  intro p e s m args below meth c s₁ B hml hv
  obtain ⟨rfl, hsz, hP, hK, hD0⟩ := hv
  have hx := B.exec
  have hb := B.bytes
  have hr := B.returns
  have hts : ∀ w ∈ tb, w.before _ s = true := fun w h => atoms_spec (ws := (.code yX1_open cX1_open 3 none :: tb)) B.pre w (List.mem_cons_of_mem _ h)
  have hown : s.vm.findClass RX1 = some m.cls := findClass_of_methodNamed B.named
  have hlocks := B.notSynchronized
  subst hsz
  have hD := hD0.self (sz := s.heap.size)
  generalize hAe : va_A [(h0, .inr (1, [pv, .ref xt, .int 0, .int 0, .ref xr, .int 0, .int 0, .ref le, .ref lc, .ref ln, .ref al, .ref lo, .ref xg, .int 0, .null])), (lc, .inl (klc, 8, .inl (fun _ => 0))), (ln, .inl (kln, 8, .inr (.inr (.inr (.inr (fun i => [l0, l1, l2, l3, l4, l5, l6, l7][i]?)))))), (l0, .inr (2, [.null, .null])), (l1, .inr (2, [.null, .null])), (l2, .inr (2, [.null, .null])), (l3, .inr (2, [.null, .null])), (l4, .inr (2, [.null, .null])), (l5, .inr (2, [.null, .null])), (l6, .inr (2, [.null, .null])), (l7, .inr (2, [.null, .null])), (al, .inr (2, [.null, .null])), (lo, .inr (0, [.int 0, .ref (ql 0), .ref (ql 1)]))] s.heap.size = A at hD ⊢
  have hA : ∀ q : Nat, s.heap.size ≤ q → A q := fun q h => by rw [← hAe]; exact Or.inr h
  have hS : va_S A s.heap s.heap [] := va_S.rf
  have hP : va_P (dC, dI) vwCl [(h0, .inr (1, [pv, .ref xt, .int 0, .int 0, .ref xr, .int 0, .int 0, .ref le, .ref lc, .ref ln, .ref al, .ref lo, .ref xg, .int 0, .null])), (lc, .inl (klc, 8, .inl (fun _ => 0))), (ln, .inl (kln, 8, .inr (.inr (.inr (.inr (fun i => [l0, l1, l2, l3, l4, l5, l6, l7][i]?)))))), (l0, .inr (2, [.null, .null])), (l1, .inr (2, [.null, .null])), (l2, .inr (2, [.null, .null])), (l3, .inr (2, [.null, .null])), (l4, .inr (2, [.null, .null])), (l5, .inr (2, [.null, .null])), (l6, .inr (2, [.null, .null])), (l7, .inr (2, [.null, .null])), (al, .inr (2, [.null, .null])), (lo, .inr (0, [.int 0, .ref (ql 0), .ref (ql 1)]))] s.heap := hP
  have hl := lv_entry ([.ref h0, .ref h1]) (n := 3) (Nat.le_of_ble_eq_true rfl)
  rw [lg_entry_eq]
  generalize (lg_sl ([.ref h0, .ref h1]) ++ List.replicate (3 - (lg_sl ([.ref h0, .ref h1])).length) Slot.unset).toArray = ls at hl ⊢
  have hl : lv_has ls 3 [(0, .ref h0), (1, .ref h1)] := hl
  refine lv_aload_n hx hb dX1_open_0 rfl (lv_at hl 0 rfl) ?_
  refine lv_aload_n hx hb dX1_open_1 rfl (lv_at hl 1 rfl) ?_
  refine va_put (D := (dC, dI)) (ci := 1) (v := .ref h1) (ty := (tyX1 0)) (C := RX1) (T := TX1) (N := 15) hx hb hts in_X1 tyX1 tyX1_ok nmX1 hown hK hP hD hS 0 rfl rfl 0 (by decide) (hts _ wd_233) (fun _ h9 => h9) rfl (tyX1_ok 0 (by decide)) rfl rfl (Nat.le_of_ble_eq_true rfl) dX1_open_2 (fun H locs hP hD hS => ?_)
  have hP : va_P (dC, dI) vwCl [(h0, .inr (1, [.ref h1, .ref xt, .int 0, .int 0, .ref xr, .int 0, .int 0, .ref le, .ref lc, .ref ln, .ref al, .ref lo, .ref xg, .int 0, .null])), (lc, .inl (klc, 8, .inl (fun _ => 0))), (ln, .inl (kln, 8, .inr (.inr (.inr (.inr (fun i => [l0, l1, l2, l3, l4, l5, l6, l7][i]?)))))), (l0, .inr (2, [.null, .null])), (l1, .inr (2, [.null, .null])), (l2, .inr (2, [.null, .null])), (l3, .inr (2, [.null, .null])), (l4, .inr (2, [.null, .null])), (l5, .inr (2, [.null, .null])), (l6, .inr (2, [.null, .null])), (l7, .inr (2, [.null, .null])), (al, .inr (2, [.null, .null])), (lo, .inr (0, [.int 0, .ref (ql 0), .ref (ql 1)]))] H := hP
  have hD : va_D A [(h0, .inr (1, [.ref h1, .ref xt, .int 0, .int 0, .ref xr, .int 0, .int 0, .ref le, .ref lc, .ref ln, .ref al, .ref lo, .ref xg, .int 0, .null])), (lc, .inl (klc, 8, .inl (fun _ => 0))), (ln, .inl (kln, 8, .inr (.inr (.inr (.inr (fun i => [l0, l1, l2, l3, l4, l5, l6, l7][i]?)))))), (l0, .inr (2, [.null, .null])), (l1, .inr (2, [.null, .null])), (l2, .inr (2, [.null, .null])), (l3, .inr (2, [.null, .null])), (l4, .inr (2, [.null, .null])), (l5, .inr (2, [.null, .null])), (l6, .inr (2, [.null, .null])), (l7, .inr (2, [.null, .null])), (al, .inr (2, [.null, .null])), (lo, .inr (0, [.int 0, .ref (ql 0), .ref (ql 1)]))] := hD
  refine lv_iconst (v := 0) hx hb dX1_open_5 (by decide) ?_
  refine lv_istore_n (lv' := [(2, .int 0), (0, .ref h0), (1, .ref h1)]) hx hb dX1_open_6 rfl hl (by decide) rfl (fun ls hl => ?_)
  refine lv_iload_n hx hb dX1_open_7 rfl (lv_at hl 0 rfl) ?_
  refine lv_aload_n hx hb dX1_open_8 rfl (lv_at hl 1 rfl) ?_
  refine va_get (D := (dC, dI)) (ci := 1) (v := .int 0) (C := RX1) (T := TX1) (N := 15) hx hb hts in_X1 hown hK hP 0 rfl rfl 2 (by decide) (hts _ wd_237) (fun _ h9 => h9) rfl dX1_open_9 ?_
  refine lv_icmp_ge (tgt := 31) hx hb dX1_open_12 (by decide) (fun _ => ?_) (fun h => absurd (by decide) h)
  refine lv_aload_n hx hb dX1_open_31 rfl (lv_at hl 1 rfl) ?_
  refine lv_iconst (v := 0) hx hb dX1_open_32 (by decide) ?_
  refine va_put (D := (dC, dI)) (ci := 1) (v := .int 0) (ty := (tyX1 2)) (C := RX1) (T := TX1) (N := 15) hx hb hts in_X1 tyX1 tyX1_ok nmX1 hown hK hP hD hS 0 rfl rfl 2 (by decide) (hts _ wd_237) (fun _ h9 => h9) rfl (tyX1_ok 2 (by decide)) rfl rfl (Nat.le_of_ble_eq_true rfl) dX1_open_33 (fun H locs hP hD hS => ?_)
  have hP : va_P (dC, dI) vwCl [(h0, .inr (1, [.ref h1, .ref xt, .int 0, .int 0, .ref xr, .int 0, .int 0, .ref le, .ref lc, .ref ln, .ref al, .ref lo, .ref xg, .int 0, .null])), (lc, .inl (klc, 8, .inl (fun _ => 0))), (ln, .inl (kln, 8, .inr (.inr (.inr (.inr (fun i => [l0, l1, l2, l3, l4, l5, l6, l7][i]?)))))), (l0, .inr (2, [.null, .null])), (l1, .inr (2, [.null, .null])), (l2, .inr (2, [.null, .null])), (l3, .inr (2, [.null, .null])), (l4, .inr (2, [.null, .null])), (l5, .inr (2, [.null, .null])), (l6, .inr (2, [.null, .null])), (l7, .inr (2, [.null, .null])), (al, .inr (2, [.null, .null])), (lo, .inr (0, [.int 0, .ref (ql 0), .ref (ql 1)]))] H := hP
  have hD : va_D A [(h0, .inr (1, [.ref h1, .ref xt, .int 0, .int 0, .ref xr, .int 0, .int 0, .ref le, .ref lc, .ref ln, .ref al, .ref lo, .ref xg, .int 0, .null])), (lc, .inl (klc, 8, .inl (fun _ => 0))), (ln, .inl (kln, 8, .inr (.inr (.inr (.inr (fun i => [l0, l1, l2, l3, l4, l5, l6, l7][i]?)))))), (l0, .inr (2, [.null, .null])), (l1, .inr (2, [.null, .null])), (l2, .inr (2, [.null, .null])), (l3, .inr (2, [.null, .null])), (l4, .inr (2, [.null, .null])), (l5, .inr (2, [.null, .null])), (l6, .inr (2, [.null, .null])), (l7, .inr (2, [.null, .null])), (al, .inr (2, [.null, .null])), (lo, .inr (0, [.int 0, .ref (ql 0), .ref (ql 1)]))] := hD
  refine lv_aload_n hx hb dX1_open_36 rfl (lv_at hl 1 rfl) ?_
  refine lv_iconst (v := 0) hx hb dX1_open_37 (by decide) ?_
  refine va_put (D := (dC, dI)) (ci := 1) (v := .int 0) (ty := (tyX1 3)) (C := RX1) (T := TX1) (N := 15) hx hb hts in_X1 tyX1 tyX1_ok nmX1 hown hK hP hD hS 0 rfl rfl 3 (by decide) (hts _ wd_239) (fun _ h9 => h9) rfl (tyX1_ok 3 (by decide)) rfl rfl (Nat.le_of_ble_eq_true rfl) dX1_open_38 (fun H locs hP hD hS => ?_)
  have hP : va_P (dC, dI) vwCl [(h0, .inr (1, [.ref h1, .ref xt, .int 0, .int 0, .ref xr, .int 0, .int 0, .ref le, .ref lc, .ref ln, .ref al, .ref lo, .ref xg, .int 0, .null])), (lc, .inl (klc, 8, .inl (fun _ => 0))), (ln, .inl (kln, 8, .inr (.inr (.inr (.inr (fun i => [l0, l1, l2, l3, l4, l5, l6, l7][i]?)))))), (l0, .inr (2, [.null, .null])), (l1, .inr (2, [.null, .null])), (l2, .inr (2, [.null, .null])), (l3, .inr (2, [.null, .null])), (l4, .inr (2, [.null, .null])), (l5, .inr (2, [.null, .null])), (l6, .inr (2, [.null, .null])), (l7, .inr (2, [.null, .null])), (al, .inr (2, [.null, .null])), (lo, .inr (0, [.int 0, .ref (ql 0), .ref (ql 1)]))] H := hP
  have hD : va_D A [(h0, .inr (1, [.ref h1, .ref xt, .int 0, .int 0, .ref xr, .int 0, .int 0, .ref le, .ref lc, .ref ln, .ref al, .ref lo, .ref xg, .int 0, .null])), (lc, .inl (klc, 8, .inl (fun _ => 0))), (ln, .inl (kln, 8, .inr (.inr (.inr (.inr (fun i => [l0, l1, l2, l3, l4, l5, l6, l7][i]?)))))), (l0, .inr (2, [.null, .null])), (l1, .inr (2, [.null, .null])), (l2, .inr (2, [.null, .null])), (l3, .inr (2, [.null, .null])), (l4, .inr (2, [.null, .null])), (l5, .inr (2, [.null, .null])), (l6, .inr (2, [.null, .null])), (l7, .inr (2, [.null, .null])), (al, .inr (2, [.null, .null])), (lo, .inr (0, [.int 0, .ref (ql 0), .ref (ql 1)]))] := hD
  refine lv_aload_n hx hb dX1_open_41 rfl (lv_at hl 1 rfl) ?_
  refine lv_iconst (v := 0) hx hb dX1_open_42 (by decide) ?_
  refine va_put (D := (dC, dI)) (ci := 1) (v := .int 0) (ty := (tyX1 5)) (C := RX1) (T := TX1) (N := 15) hx hb hts in_X1 tyX1 tyX1_ok nmX1 hown hK hP hD hS 0 rfl rfl 5 (by decide) (hts _ wd_243) (fun _ h9 => h9) rfl (tyX1_ok 5 (by decide)) rfl rfl (Nat.le_of_ble_eq_true rfl) dX1_open_43 (fun H locs hP hD hS => ?_)
  have hP : va_P (dC, dI) vwCl [(h0, .inr (1, [.ref h1, .ref xt, .int 0, .int 0, .ref xr, .int 0, .int 0, .ref le, .ref lc, .ref ln, .ref al, .ref lo, .ref xg, .int 0, .null])), (lc, .inl (klc, 8, .inl (fun _ => 0))), (ln, .inl (kln, 8, .inr (.inr (.inr (.inr (fun i => [l0, l1, l2, l3, l4, l5, l6, l7][i]?)))))), (l0, .inr (2, [.null, .null])), (l1, .inr (2, [.null, .null])), (l2, .inr (2, [.null, .null])), (l3, .inr (2, [.null, .null])), (l4, .inr (2, [.null, .null])), (l5, .inr (2, [.null, .null])), (l6, .inr (2, [.null, .null])), (l7, .inr (2, [.null, .null])), (al, .inr (2, [.null, .null])), (lo, .inr (0, [.int 0, .ref (ql 0), .ref (ql 1)]))] H := hP
  have hD : va_D A [(h0, .inr (1, [.ref h1, .ref xt, .int 0, .int 0, .ref xr, .int 0, .int 0, .ref le, .ref lc, .ref ln, .ref al, .ref lo, .ref xg, .int 0, .null])), (lc, .inl (klc, 8, .inl (fun _ => 0))), (ln, .inl (kln, 8, .inr (.inr (.inr (.inr (fun i => [l0, l1, l2, l3, l4, l5, l6, l7][i]?)))))), (l0, .inr (2, [.null, .null])), (l1, .inr (2, [.null, .null])), (l2, .inr (2, [.null, .null])), (l3, .inr (2, [.null, .null])), (l4, .inr (2, [.null, .null])), (l5, .inr (2, [.null, .null])), (l6, .inr (2, [.null, .null])), (l7, .inr (2, [.null, .null])), (al, .inr (2, [.null, .null])), (lo, .inr (0, [.int 0, .ref (ql 0), .ref (ql 1)]))] := hD
  refine lv_aload_n hx hb dX1_open_46 rfl (lv_at hl 1 rfl) ?_
  refine lv_iconst (v := 0) hx hb dX1_open_47 (by decide) ?_
  refine va_put (D := (dC, dI)) (ci := 1) (v := .int 0) (ty := (tyX1 6)) (C := RX1) (T := TX1) (N := 15) hx hb hts in_X1 tyX1 tyX1_ok nmX1 hown hK hP hD hS 0 rfl rfl 6 (by decide) (hts _ wd_245) (fun _ h9 => h9) rfl (tyX1_ok 6 (by decide)) rfl rfl (Nat.le_of_ble_eq_true rfl) dX1_open_48 (fun H locs hP hD hS => ?_)
  have hP : va_P (dC, dI) vwCl [(h0, .inr (1, [.ref h1, .ref xt, .int 0, .int 0, .ref xr, .int 0, .int 0, .ref le, .ref lc, .ref ln, .ref al, .ref lo, .ref xg, .int 0, .null])), (lc, .inl (klc, 8, .inl (fun _ => 0))), (ln, .inl (kln, 8, .inr (.inr (.inr (.inr (fun i => [l0, l1, l2, l3, l4, l5, l6, l7][i]?)))))), (l0, .inr (2, [.null, .null])), (l1, .inr (2, [.null, .null])), (l2, .inr (2, [.null, .null])), (l3, .inr (2, [.null, .null])), (l4, .inr (2, [.null, .null])), (l5, .inr (2, [.null, .null])), (l6, .inr (2, [.null, .null])), (l7, .inr (2, [.null, .null])), (al, .inr (2, [.null, .null])), (lo, .inr (0, [.int 0, .ref (ql 0), .ref (ql 1)]))] H := hP
  have hD : va_D A [(h0, .inr (1, [.ref h1, .ref xt, .int 0, .int 0, .ref xr, .int 0, .int 0, .ref le, .ref lc, .ref ln, .ref al, .ref lo, .ref xg, .int 0, .null])), (lc, .inl (klc, 8, .inl (fun _ => 0))), (ln, .inl (kln, 8, .inr (.inr (.inr (.inr (fun i => [l0, l1, l2, l3, l4, l5, l6, l7][i]?)))))), (l0, .inr (2, [.null, .null])), (l1, .inr (2, [.null, .null])), (l2, .inr (2, [.null, .null])), (l3, .inr (2, [.null, .null])), (l4, .inr (2, [.null, .null])), (l5, .inr (2, [.null, .null])), (l6, .inr (2, [.null, .null])), (l7, .inr (2, [.null, .null])), (al, .inr (2, [.null, .null])), (lo, .inr (0, [.int 0, .ref (ql 0), .ref (ql 1)]))] := hD
  refine lv_iconst (v := 0) hx hb dX1_open_51 (by decide) ?_
  refine lv_istore_n (lv' := [(2, .int 0), (0, .ref h0), (1, .ref h1)]) hx hb dX1_open_52 rfl hl (by decide) rfl (fun ls hl => ?_)
  refine lv_iload_n hx hb dX1_open_53 rfl (lv_at hl 0 rfl) ?_
  refine lv_bipush (v := 8) hx hb dX1_open_54 (by decide) ?_
  refine lv_icmp_ge (tgt := 81) hx hb dX1_open_56 (by decide) (fun h => absurd h (by decide)) (fun _ => ?_)
  refine lv_aload_n hx hb dX1_open_59 rfl (lv_at hl 1 rfl) ?_
  refine va_get (D := (dC, dI)) (ci := 1) (v := .ref lc) (C := RX1) (T := TX1) (N := 15) hx hb hts in_X1 hown hK hP 0 rfl rfl 8 (by decide) (hts _ wd_250) (fun _ h9 => h9) rfl dX1_open_60 ?_
  refine lv_iload_n hx hb dX1_open_63 rfl (lv_at hl 0 rfl) ?_
  refine lv_iconst (v := 0) hx hb dX1_open_64 (by decide) ?_
  refine va_iast hx hb hK hP hD hS 1 0 rfl rfl (px_in 0 8 (by decide +kernel)) dX1_open_65 (fun H locs hP hD hS => ?_)
  have hP : va_P (dC, dI) vwCl [(h0, .inr (1, [.ref h1, .ref xt, .int 0, .int 0, .ref xr, .int 0, .int 0, .ref le, .ref lc, .ref ln, .ref al, .ref lo, .ref xg, .int 0, .null])), (lc, .inl (klc, 8, .inl (upd (fun _ => 0) (0 : Int32).toNatClampNeg 0))), (ln, .inl (kln, 8, .inr (.inr (.inr (.inr (fun i => [l0, l1, l2, l3, l4, l5, l6, l7][i]?)))))), (l0, .inr (2, [.null, .null])), (l1, .inr (2, [.null, .null])), (l2, .inr (2, [.null, .null])), (l3, .inr (2, [.null, .null])), (l4, .inr (2, [.null, .null])), (l5, .inr (2, [.null, .null])), (l6, .inr (2, [.null, .null])), (l7, .inr (2, [.null, .null])), (al, .inr (2, [.null, .null])), (lo, .inr (0, [.int 0, .ref (ql 0), .ref (ql 1)]))] H := hP
  have hD : va_D A [(h0, .inr (1, [.ref h1, .ref xt, .int 0, .int 0, .ref xr, .int 0, .int 0, .ref le, .ref lc, .ref ln, .ref al, .ref lo, .ref xg, .int 0, .null])), (lc, .inl (klc, 8, .inl (upd (fun _ => 0) (0 : Int32).toNatClampNeg 0))), (ln, .inl (kln, 8, .inr (.inr (.inr (.inr (fun i => [l0, l1, l2, l3, l4, l5, l6, l7][i]?)))))), (l0, .inr (2, [.null, .null])), (l1, .inr (2, [.null, .null])), (l2, .inr (2, [.null, .null])), (l3, .inr (2, [.null, .null])), (l4, .inr (2, [.null, .null])), (l5, .inr (2, [.null, .null])), (l6, .inr (2, [.null, .null])), (l7, .inr (2, [.null, .null])), (al, .inr (2, [.null, .null])), (lo, .inr (0, [.int 0, .ref (ql 0), .ref (ql 1)]))] := hD
  rw [up_z] at hP hD
  have hP : va_P (dC, dI) vwCl [(h0, .inr (1, [.ref h1, .ref xt, .int 0, .int 0, .ref xr, .int 0, .int 0, .ref le, .ref lc, .ref ln, .ref al, .ref lo, .ref xg, .int 0, .null])), (lc, .inl (klc, 8, .inl (fun _ => 0))), (ln, .inl (kln, 8, .inr (.inr (.inr (.inr (fun i => [l0, l1, l2, l3, l4, l5, l6, l7][i]?)))))), (l0, .inr (2, [.null, .null])), (l1, .inr (2, [.null, .null])), (l2, .inr (2, [.null, .null])), (l3, .inr (2, [.null, .null])), (l4, .inr (2, [.null, .null])), (l5, .inr (2, [.null, .null])), (l6, .inr (2, [.null, .null])), (l7, .inr (2, [.null, .null])), (al, .inr (2, [.null, .null])), (lo, .inr (0, [.int 0, .ref (ql 0), .ref (ql 1)]))] H := hP
  have hD : va_D A [(h0, .inr (1, [.ref h1, .ref xt, .int 0, .int 0, .ref xr, .int 0, .int 0, .ref le, .ref lc, .ref ln, .ref al, .ref lo, .ref xg, .int 0, .null])), (lc, .inl (klc, 8, .inl (fun _ => 0))), (ln, .inl (kln, 8, .inr (.inr (.inr (.inr (fun i => [l0, l1, l2, l3, l4, l5, l6, l7][i]?)))))), (l0, .inr (2, [.null, .null])), (l1, .inr (2, [.null, .null])), (l2, .inr (2, [.null, .null])), (l3, .inr (2, [.null, .null])), (l4, .inr (2, [.null, .null])), (l5, .inr (2, [.null, .null])), (l6, .inr (2, [.null, .null])), (l7, .inr (2, [.null, .null])), (al, .inr (2, [.null, .null])), (lo, .inr (0, [.int 0, .ref (ql 0), .ref (ql 1)]))] := hD
  refine lv_aload_n hx hb dX1_open_66 rfl (lv_at hl 1 rfl) ?_
  refine va_get (D := (dC, dI)) (ci := 1) (v := .ref ln) (C := RX1) (T := TX1) (N := 15) hx hb hts in_X1 hown hK hP 0 rfl rfl 9 (by decide) (hts _ wd_253) (fun _ h9 => h9) rfl dX1_open_67 ?_
  refine lv_iload_n hx hb dX1_open_70 rfl (lv_at hl 0 rfl) ?_
  refine va_aldq hx hb hK hP 2 1 rfl rfl (px_in 0 8 (by decide +kernel)) dX1_open_71 ?_
  refine W.eq (g2 := F0 m 72 ls [.ref l0]) rfl ?_
  have hPc := hP.sub (ws' := [(l0, .inr (2, [.null, .null]))]) [3] rfl
  have hDc := hD.sub (ws' := [(l0, .inr (2, [.null, .null]))]) [3] (by decide) rfl
  have hKc := hK.sub (tys' := []) [] rfl
  have hFc := va_free (wc := [(l0, .inr (2, [.null, .null]))]) hD hS hA [3] rfl
  refine va_callv (va_runV (As := []) (rest := []) ⟨hx, hb, hml, hown, hts⟩ (ct_X2_clear l dC dI l0 H.size) (cwV 0 hts (gd_V wd_470 wd_471 wd_472 wd_10 wd_473) rfl rfl rfl (by decide +kernel) ⟨Nat.le_of_ble_eq_true rfl, Nat.le_of_ble_eq_true rfl⟩) ⟨fun a U g mk q => by obtain ⟨q0, q1, qP, qK, qD⟩ := q; exact ⟨q0, q1, qP, va_K.moved (u := U) (U := U.calling g mk a) (Vm.Alike.refl U.vm) qK, qD⟩, va_recv hKc hPc (ci := 2) (q0 := 0) rfl rfl, fun U hU hW => ⟨rfl, by rw [hU], by rw [hU]; exact hPc, va_K.moved hW.alike hKc, hDc.weaken (fun _ _ _ _ => trivial)⟩⟩ rfl rfl hl.1 rfl (lv_room (Nat.le_of_ble_eq_true rfl)) dX1_open_72 ⟨Nat.le_of_ble_eq_true rfl, Nat.le_of_ble_eq_true rfl⟩) hS (fun q _ h => hFc q h) hFc (fun u t H1 locs ht hvm hw hB hz1 hk1 hS => ?_)
  obtain ⟨hP1, hK1, hD1⟩ := hB
  rw [ht] at hP1
  have hK1 := va_K.moved hvm.symm hK1
  obtain ⟨hP, hD⟩ := va_join (wr := [(h0, .inr (1, [.ref h1, .ref xt, .int 0, .int 0, .ref xr, .int 0, .int 0, .ref le, .ref lc, .ref ln, .ref al, .ref lo, .ref xg, .int 0, .null])), (lc, .inl (klc, 8, .inl (fun _ => 0))), (ln, .inl (kln, 8, .inr (.inr (.inr (.inr (fun i => [l0, l1, l2, l3, l4, l5, l6, l7][i]?)))))), (l1, .inr (2, [.null, .null])), (l2, .inr (2, [.null, .null])), (l3, .inr (2, [.null, .null])), (l4, .inr (2, [.null, .null])), (l5, .inr (2, [.null, .null])), (l6, .inr (2, [.null, .null])), (l7, .inr (2, [.null, .null])), (al, .inr (2, [.null, .null])), (lo, .inr (0, [.int 0, .ref (ql 0), .ref (ql 1)]))]) (w1 := [(l0, .inr (2, [.null, .null]))]) hP hD [3] [0, 1, 2, 4, 5, 6, 7, 8, 9, 10, 11, 12] rfl rfl (by decide) (by decide) hk1 hFc hP1 hD1
  have hK := (hK.sub (tys' := [(klc, .int), (kln, .object RX2)]) [0, 1] rfl).app (hK1.sub (tys' := []) [] rfl)
  generalize H1 = H at hP hS ⊢
  have hP : va_P (dC, dI) vwCl [(h0, .inr (1, [.ref h1, .ref xt, .int 0, .int 0, .ref xr, .int 0, .int 0, .ref le, .ref lc, .ref ln, .ref al, .ref lo, .ref xg, .int 0, .null])), (lc, .inl (klc, 8, .inl (fun _ => 0))), (ln, .inl (kln, 8, .inr (.inr (.inr (.inr (fun i => [l0, l1, l2, l3, l4, l5, l6, l7][i]?)))))), (l1, .inr (2, [.null, .null])), (l2, .inr (2, [.null, .null])), (l3, .inr (2, [.null, .null])), (l4, .inr (2, [.null, .null])), (l5, .inr (2, [.null, .null])), (l6, .inr (2, [.null, .null])), (l7, .inr (2, [.null, .null])), (al, .inr (2, [.null, .null])), (lo, .inr (0, [.int 0, .ref (ql 0), .ref (ql 1)])), (l0, .inr (2, [.null, .null]))] H := hP
  have hD : va_D A [(h0, .inr (1, [.ref h1, .ref xt, .int 0, .int 0, .ref xr, .int 0, .int 0, .ref le, .ref lc, .ref ln, .ref al, .ref lo, .ref xg, .int 0, .null])), (lc, .inl (klc, 8, .inl (fun _ => 0))), (ln, .inl (kln, 8, .inr (.inr (.inr (.inr (fun i => [l0, l1, l2, l3, l4, l5, l6, l7][i]?)))))), (l1, .inr (2, [.null, .null])), (l2, .inr (2, [.null, .null])), (l3, .inr (2, [.null, .null])), (l4, .inr (2, [.null, .null])), (l5, .inr (2, [.null, .null])), (l6, .inr (2, [.null, .null])), (l7, .inr (2, [.null, .null])), (al, .inr (2, [.null, .null])), (lo, .inr (0, [.int 0, .ref (ql 0), .ref (ql 1)])), (l0, .inr (2, [.null, .null]))] := hD
  have hK : va_K (dC, dI) vwCl [(klc, .int), (kln, .object RX2)] s := hK
  refine lv_iinc (v := 1) (lv' := [(2, .int 1), (0, .ref h0), (1, .ref h1)]) hx hb dX1_open_75 hl (k := 0) rfl (by decide) (by decide) rfl (fun ls hl => ?_)
  refine lv_goto (tgt := 53) hx hb dX1_open_78 (by decide) ?_
  refine lv_iload_n hx hb dX1_open_53 rfl (lv_at hl 0 rfl) ?_
  refine lv_bipush (v := 8) hx hb dX1_open_54 (by decide) ?_
  refine lv_icmp_ge (tgt := 81) hx hb dX1_open_56 (by decide) (fun h => absurd h (by decide)) (fun _ => ?_)
  refine lv_aload_n hx hb dX1_open_59 rfl (lv_at hl 1 rfl) ?_
  refine va_get (D := (dC, dI)) (ci := 1) (v := .ref lc) (C := RX1) (T := TX1) (N := 15) hx hb hts in_X1 hown hK hP 0 rfl rfl 8 (by decide) (hts _ wd_250) (fun _ h9 => h9) rfl dX1_open_60 ?_
  refine lv_iload_n hx hb dX1_open_63 rfl (lv_at hl 0 rfl) ?_
  refine lv_iconst (v := 0) hx hb dX1_open_64 (by decide) ?_
  refine va_iast hx hb hK hP hD hS 1 0 rfl rfl (px_in 1 8 (by decide +kernel)) dX1_open_65 (fun H locs hP hD hS => ?_)
  have hP : va_P (dC, dI) vwCl [(h0, .inr (1, [.ref h1, .ref xt, .int 0, .int 0, .ref xr, .int 0, .int 0, .ref le, .ref lc, .ref ln, .ref al, .ref lo, .ref xg, .int 0, .null])), (lc, .inl (klc, 8, .inl (upd (fun _ => 0) (1 : Int32).toNatClampNeg 0))), (ln, .inl (kln, 8, .inr (.inr (.inr (.inr (fun i => [l0, l1, l2, l3, l4, l5, l6, l7][i]?)))))), (l1, .inr (2, [.null, .null])), (l2, .inr (2, [.null, .null])), (l3, .inr (2, [.null, .null])), (l4, .inr (2, [.null, .null])), (l5, .inr (2, [.null, .null])), (l6, .inr (2, [.null, .null])), (l7, .inr (2, [.null, .null])), (al, .inr (2, [.null, .null])), (lo, .inr (0, [.int 0, .ref (ql 0), .ref (ql 1)])), (l0, .inr (2, [.null, .null]))] H := hP
  have hD : va_D A [(h0, .inr (1, [.ref h1, .ref xt, .int 0, .int 0, .ref xr, .int 0, .int 0, .ref le, .ref lc, .ref ln, .ref al, .ref lo, .ref xg, .int 0, .null])), (lc, .inl (klc, 8, .inl (upd (fun _ => 0) (1 : Int32).toNatClampNeg 0))), (ln, .inl (kln, 8, .inr (.inr (.inr (.inr (fun i => [l0, l1, l2, l3, l4, l5, l6, l7][i]?)))))), (l1, .inr (2, [.null, .null])), (l2, .inr (2, [.null, .null])), (l3, .inr (2, [.null, .null])), (l4, .inr (2, [.null, .null])), (l5, .inr (2, [.null, .null])), (l6, .inr (2, [.null, .null])), (l7, .inr (2, [.null, .null])), (al, .inr (2, [.null, .null])), (lo, .inr (0, [.int 0, .ref (ql 0), .ref (ql 1)])), (l0, .inr (2, [.null, .null]))] := hD
  rw [up_z] at hP hD
  have hP : va_P (dC, dI) vwCl [(h0, .inr (1, [.ref h1, .ref xt, .int 0, .int 0, .ref xr, .int 0, .int 0, .ref le, .ref lc, .ref ln, .ref al, .ref lo, .ref xg, .int 0, .null])), (lc, .inl (klc, 8, .inl (fun _ => 0))), (ln, .inl (kln, 8, .inr (.inr (.inr (.inr (fun i => [l0, l1, l2, l3, l4, l5, l6, l7][i]?)))))), (l1, .inr (2, [.null, .null])), (l2, .inr (2, [.null, .null])), (l3, .inr (2, [.null, .null])), (l4, .inr (2, [.null, .null])), (l5, .inr (2, [.null, .null])), (l6, .inr (2, [.null, .null])), (l7, .inr (2, [.null, .null])), (al, .inr (2, [.null, .null])), (lo, .inr (0, [.int 0, .ref (ql 0), .ref (ql 1)])), (l0, .inr (2, [.null, .null]))] H := hP
  have hD : va_D A [(h0, .inr (1, [.ref h1, .ref xt, .int 0, .int 0, .ref xr, .int 0, .int 0, .ref le, .ref lc, .ref ln, .ref al, .ref lo, .ref xg, .int 0, .null])), (lc, .inl (klc, 8, .inl (fun _ => 0))), (ln, .inl (kln, 8, .inr (.inr (.inr (.inr (fun i => [l0, l1, l2, l3, l4, l5, l6, l7][i]?)))))), (l1, .inr (2, [.null, .null])), (l2, .inr (2, [.null, .null])), (l3, .inr (2, [.null, .null])), (l4, .inr (2, [.null, .null])), (l5, .inr (2, [.null, .null])), (l6, .inr (2, [.null, .null])), (l7, .inr (2, [.null, .null])), (al, .inr (2, [.null, .null])), (lo, .inr (0, [.int 0, .ref (ql 0), .ref (ql 1)])), (l0, .inr (2, [.null, .null]))] := hD
  refine lv_aload_n hx hb dX1_open_66 rfl (lv_at hl 1 rfl) ?_
  refine va_get (D := (dC, dI)) (ci := 1) (v := .ref ln) (C := RX1) (T := TX1) (N := 15) hx hb hts in_X1 hown hK hP 0 rfl rfl 9 (by decide) (hts _ wd_253) (fun _ h9 => h9) rfl dX1_open_67 ?_
  refine lv_iload_n hx hb dX1_open_70 rfl (lv_at hl 0 rfl) ?_
  refine va_aldq hx hb hK hP 2 1 rfl rfl (px_in 1 8 (by decide +kernel)) dX1_open_71 ?_
  refine W.eq (g2 := F0 m 72 ls [.ref l1]) rfl ?_
  have hPc := hP.sub (ws' := [(l1, .inr (2, [.null, .null]))]) [3] rfl
  have hDc := hD.sub (ws' := [(l1, .inr (2, [.null, .null]))]) [3] (by decide) rfl
  have hKc := hK.sub (tys' := []) [] rfl
  have hFc := va_free (wc := [(l1, .inr (2, [.null, .null]))]) hD hS hA [3] rfl
  refine va_callv (va_runV (As := []) (rest := []) ⟨hx, hb, hml, hown, hts⟩ (ct_X2_clear l dC dI l1 H.size) (cwV 0 hts (gd_V wd_470 wd_471 wd_472 wd_10 wd_473) rfl rfl rfl (by decide +kernel) ⟨Nat.le_of_ble_eq_true rfl, Nat.le_of_ble_eq_true rfl⟩) ⟨fun a U g mk q => by obtain ⟨q0, q1, qP, qK, qD⟩ := q; exact ⟨q0, q1, qP, va_K.moved (u := U) (U := U.calling g mk a) (Vm.Alike.refl U.vm) qK, qD⟩, va_recv hKc hPc (ci := 2) (q0 := 0) rfl rfl, fun U hU hW => ⟨rfl, by rw [hU], by rw [hU]; exact hPc, va_K.moved hW.alike hKc, hDc.weaken (fun _ _ _ _ => trivial)⟩⟩ rfl rfl hl.1 rfl (lv_room (Nat.le_of_ble_eq_true rfl)) dX1_open_72 ⟨Nat.le_of_ble_eq_true rfl, Nat.le_of_ble_eq_true rfl⟩) hS (fun q _ h => hFc q h) hFc (fun u t H1 locs ht hvm hw hB hz1 hk1 hS => ?_)
  obtain ⟨hP1, hK1, hD1⟩ := hB
  rw [ht] at hP1
  have hK1 := va_K.moved hvm.symm hK1
  obtain ⟨hP, hD⟩ := va_join (wr := [(h0, .inr (1, [.ref h1, .ref xt, .int 0, .int 0, .ref xr, .int 0, .int 0, .ref le, .ref lc, .ref ln, .ref al, .ref lo, .ref xg, .int 0, .null])), (lc, .inl (klc, 8, .inl (fun _ => 0))), (ln, .inl (kln, 8, .inr (.inr (.inr (.inr (fun i => [l0, l1, l2, l3, l4, l5, l6, l7][i]?)))))), (l2, .inr (2, [.null, .null])), (l3, .inr (2, [.null, .null])), (l4, .inr (2, [.null, .null])), (l5, .inr (2, [.null, .null])), (l6, .inr (2, [.null, .null])), (l7, .inr (2, [.null, .null])), (al, .inr (2, [.null, .null])), (lo, .inr (0, [.int 0, .ref (ql 0), .ref (ql 1)])), (l0, .inr (2, [.null, .null]))]) (w1 := [(l1, .inr (2, [.null, .null]))]) hP hD [3] [0, 1, 2, 4, 5, 6, 7, 8, 9, 10, 11, 12] rfl rfl (by decide) (by decide) hk1 hFc hP1 hD1
  have hK := (hK.sub (tys' := [(klc, .int), (kln, .object RX2)]) [0, 1] rfl).app (hK1.sub (tys' := []) [] rfl)
  generalize H1 = H at hP hS ⊢
  have hP : va_P (dC, dI) vwCl [(h0, .inr (1, [.ref h1, .ref xt, .int 0, .int 0, .ref xr, .int 0, .int 0, .ref le, .ref lc, .ref ln, .ref al, .ref lo, .ref xg, .int 0, .null])), (lc, .inl (klc, 8, .inl (fun _ => 0))), (ln, .inl (kln, 8, .inr (.inr (.inr (.inr (fun i => [l0, l1, l2, l3, l4, l5, l6, l7][i]?)))))), (l2, .inr (2, [.null, .null])), (l3, .inr (2, [.null, .null])), (l4, .inr (2, [.null, .null])), (l5, .inr (2, [.null, .null])), (l6, .inr (2, [.null, .null])), (l7, .inr (2, [.null, .null])), (al, .inr (2, [.null, .null])), (lo, .inr (0, [.int 0, .ref (ql 0), .ref (ql 1)])), (l0, .inr (2, [.null, .null])), (l1, .inr (2, [.null, .null]))] H := hP
  have hD : va_D A [(h0, .inr (1, [.ref h1, .ref xt, .int 0, .int 0, .ref xr, .int 0, .int 0, .ref le, .ref lc, .ref ln, .ref al, .ref lo, .ref xg, .int 0, .null])), (lc, .inl (klc, 8, .inl (fun _ => 0))), (ln, .inl (kln, 8, .inr (.inr (.inr (.inr (fun i => [l0, l1, l2, l3, l4, l5, l6, l7][i]?)))))), (l2, .inr (2, [.null, .null])), (l3, .inr (2, [.null, .null])), (l4, .inr (2, [.null, .null])), (l5, .inr (2, [.null, .null])), (l6, .inr (2, [.null, .null])), (l7, .inr (2, [.null, .null])), (al, .inr (2, [.null, .null])), (lo, .inr (0, [.int 0, .ref (ql 0), .ref (ql 1)])), (l0, .inr (2, [.null, .null])), (l1, .inr (2, [.null, .null]))] := hD
  have hK : va_K (dC, dI) vwCl [(klc, .int), (kln, .object RX2)] s := hK
  refine lv_iinc (v := 2) (lv' := [(2, .int 2), (0, .ref h0), (1, .ref h1)]) hx hb dX1_open_75 hl (k := 0) rfl (by decide) (by decide) rfl (fun ls hl => ?_)
  refine lv_goto (tgt := 53) hx hb dX1_open_78 (by decide) ?_
  refine lv_iload_n hx hb dX1_open_53 rfl (lv_at hl 0 rfl) ?_
  refine lv_bipush (v := 8) hx hb dX1_open_54 (by decide) ?_
  refine lv_icmp_ge (tgt := 81) hx hb dX1_open_56 (by decide) (fun h => absurd h (by decide)) (fun _ => ?_)
  refine lv_aload_n hx hb dX1_open_59 rfl (lv_at hl 1 rfl) ?_
  refine va_get (D := (dC, dI)) (ci := 1) (v := .ref lc) (C := RX1) (T := TX1) (N := 15) hx hb hts in_X1 hown hK hP 0 rfl rfl 8 (by decide) (hts _ wd_250) (fun _ h9 => h9) rfl dX1_open_60 ?_
  refine lv_iload_n hx hb dX1_open_63 rfl (lv_at hl 0 rfl) ?_
  refine lv_iconst (v := 0) hx hb dX1_open_64 (by decide) ?_
  refine va_iast hx hb hK hP hD hS 1 0 rfl rfl (px_in 2 8 (by decide +kernel)) dX1_open_65 (fun H locs hP hD hS => ?_)
  have hP : va_P (dC, dI) vwCl [(h0, .inr (1, [.ref h1, .ref xt, .int 0, .int 0, .ref xr, .int 0, .int 0, .ref le, .ref lc, .ref ln, .ref al, .ref lo, .ref xg, .int 0, .null])), (lc, .inl (klc, 8, .inl (upd (fun _ => 0) (2 : Int32).toNatClampNeg 0))), (ln, .inl (kln, 8, .inr (.inr (.inr (.inr (fun i => [l0, l1, l2, l3, l4, l5, l6, l7][i]?)))))), (l2, .inr (2, [.null, .null])), (l3, .inr (2, [.null, .null])), (l4, .inr (2, [.null, .null])), (l5, .inr (2, [.null, .null])), (l6, .inr (2, [.null, .null])), (l7, .inr (2, [.null, .null])), (al, .inr (2, [.null, .null])), (lo, .inr (0, [.int 0, .ref (ql 0), .ref (ql 1)])), (l0, .inr (2, [.null, .null])), (l1, .inr (2, [.null, .null]))] H := hP
  have hD : va_D A [(h0, .inr (1, [.ref h1, .ref xt, .int 0, .int 0, .ref xr, .int 0, .int 0, .ref le, .ref lc, .ref ln, .ref al, .ref lo, .ref xg, .int 0, .null])), (lc, .inl (klc, 8, .inl (upd (fun _ => 0) (2 : Int32).toNatClampNeg 0))), (ln, .inl (kln, 8, .inr (.inr (.inr (.inr (fun i => [l0, l1, l2, l3, l4, l5, l6, l7][i]?)))))), (l2, .inr (2, [.null, .null])), (l3, .inr (2, [.null, .null])), (l4, .inr (2, [.null, .null])), (l5, .inr (2, [.null, .null])), (l6, .inr (2, [.null, .null])), (l7, .inr (2, [.null, .null])), (al, .inr (2, [.null, .null])), (lo, .inr (0, [.int 0, .ref (ql 0), .ref (ql 1)])), (l0, .inr (2, [.null, .null])), (l1, .inr (2, [.null, .null]))] := hD
  rw [up_z] at hP hD
  have hP : va_P (dC, dI) vwCl [(h0, .inr (1, [.ref h1, .ref xt, .int 0, .int 0, .ref xr, .int 0, .int 0, .ref le, .ref lc, .ref ln, .ref al, .ref lo, .ref xg, .int 0, .null])), (lc, .inl (klc, 8, .inl (fun _ => 0))), (ln, .inl (kln, 8, .inr (.inr (.inr (.inr (fun i => [l0, l1, l2, l3, l4, l5, l6, l7][i]?)))))), (l2, .inr (2, [.null, .null])), (l3, .inr (2, [.null, .null])), (l4, .inr (2, [.null, .null])), (l5, .inr (2, [.null, .null])), (l6, .inr (2, [.null, .null])), (l7, .inr (2, [.null, .null])), (al, .inr (2, [.null, .null])), (lo, .inr (0, [.int 0, .ref (ql 0), .ref (ql 1)])), (l0, .inr (2, [.null, .null])), (l1, .inr (2, [.null, .null]))] H := hP
  have hD : va_D A [(h0, .inr (1, [.ref h1, .ref xt, .int 0, .int 0, .ref xr, .int 0, .int 0, .ref le, .ref lc, .ref ln, .ref al, .ref lo, .ref xg, .int 0, .null])), (lc, .inl (klc, 8, .inl (fun _ => 0))), (ln, .inl (kln, 8, .inr (.inr (.inr (.inr (fun i => [l0, l1, l2, l3, l4, l5, l6, l7][i]?)))))), (l2, .inr (2, [.null, .null])), (l3, .inr (2, [.null, .null])), (l4, .inr (2, [.null, .null])), (l5, .inr (2, [.null, .null])), (l6, .inr (2, [.null, .null])), (l7, .inr (2, [.null, .null])), (al, .inr (2, [.null, .null])), (lo, .inr (0, [.int 0, .ref (ql 0), .ref (ql 1)])), (l0, .inr (2, [.null, .null])), (l1, .inr (2, [.null, .null]))] := hD
  refine lv_aload_n hx hb dX1_open_66 rfl (lv_at hl 1 rfl) ?_
  refine va_get (D := (dC, dI)) (ci := 1) (v := .ref ln) (C := RX1) (T := TX1) (N := 15) hx hb hts in_X1 hown hK hP 0 rfl rfl 9 (by decide) (hts _ wd_253) (fun _ h9 => h9) rfl dX1_open_67 ?_
  refine lv_iload_n hx hb dX1_open_70 rfl (lv_at hl 0 rfl) ?_
  refine va_aldq hx hb hK hP 2 1 rfl rfl (px_in 2 8 (by decide +kernel)) dX1_open_71 ?_
  refine W.eq (g2 := F0 m 72 ls [.ref l2]) rfl ?_
  have hPc := hP.sub (ws' := [(l2, .inr (2, [.null, .null]))]) [3] rfl
  have hDc := hD.sub (ws' := [(l2, .inr (2, [.null, .null]))]) [3] (by decide) rfl
  have hKc := hK.sub (tys' := []) [] rfl
  have hFc := va_free (wc := [(l2, .inr (2, [.null, .null]))]) hD hS hA [3] rfl
  refine va_callv (va_runV (As := []) (rest := []) ⟨hx, hb, hml, hown, hts⟩ (ct_X2_clear l dC dI l2 H.size) (cwV 0 hts (gd_V wd_470 wd_471 wd_472 wd_10 wd_473) rfl rfl rfl (by decide +kernel) ⟨Nat.le_of_ble_eq_true rfl, Nat.le_of_ble_eq_true rfl⟩) ⟨fun a U g mk q => by obtain ⟨q0, q1, qP, qK, qD⟩ := q; exact ⟨q0, q1, qP, va_K.moved (u := U) (U := U.calling g mk a) (Vm.Alike.refl U.vm) qK, qD⟩, va_recv hKc hPc (ci := 2) (q0 := 0) rfl rfl, fun U hU hW => ⟨rfl, by rw [hU], by rw [hU]; exact hPc, va_K.moved hW.alike hKc, hDc.weaken (fun _ _ _ _ => trivial)⟩⟩ rfl rfl hl.1 rfl (lv_room (Nat.le_of_ble_eq_true rfl)) dX1_open_72 ⟨Nat.le_of_ble_eq_true rfl, Nat.le_of_ble_eq_true rfl⟩) hS (fun q _ h => hFc q h) hFc (fun u t H1 locs ht hvm hw hB hz1 hk1 hS => ?_)
  obtain ⟨hP1, hK1, hD1⟩ := hB
  rw [ht] at hP1
  have hK1 := va_K.moved hvm.symm hK1
  obtain ⟨hP, hD⟩ := va_join (wr := [(h0, .inr (1, [.ref h1, .ref xt, .int 0, .int 0, .ref xr, .int 0, .int 0, .ref le, .ref lc, .ref ln, .ref al, .ref lo, .ref xg, .int 0, .null])), (lc, .inl (klc, 8, .inl (fun _ => 0))), (ln, .inl (kln, 8, .inr (.inr (.inr (.inr (fun i => [l0, l1, l2, l3, l4, l5, l6, l7][i]?)))))), (l3, .inr (2, [.null, .null])), (l4, .inr (2, [.null, .null])), (l5, .inr (2, [.null, .null])), (l6, .inr (2, [.null, .null])), (l7, .inr (2, [.null, .null])), (al, .inr (2, [.null, .null])), (lo, .inr (0, [.int 0, .ref (ql 0), .ref (ql 1)])), (l0, .inr (2, [.null, .null])), (l1, .inr (2, [.null, .null]))]) (w1 := [(l2, .inr (2, [.null, .null]))]) hP hD [3] [0, 1, 2, 4, 5, 6, 7, 8, 9, 10, 11, 12] rfl rfl (by decide) (by decide) hk1 hFc hP1 hD1
  have hK := (hK.sub (tys' := [(klc, .int), (kln, .object RX2)]) [0, 1] rfl).app (hK1.sub (tys' := []) [] rfl)
  generalize H1 = H at hP hS ⊢
  have hP : va_P (dC, dI) vwCl [(h0, .inr (1, [.ref h1, .ref xt, .int 0, .int 0, .ref xr, .int 0, .int 0, .ref le, .ref lc, .ref ln, .ref al, .ref lo, .ref xg, .int 0, .null])), (lc, .inl (klc, 8, .inl (fun _ => 0))), (ln, .inl (kln, 8, .inr (.inr (.inr (.inr (fun i => [l0, l1, l2, l3, l4, l5, l6, l7][i]?)))))), (l3, .inr (2, [.null, .null])), (l4, .inr (2, [.null, .null])), (l5, .inr (2, [.null, .null])), (l6, .inr (2, [.null, .null])), (l7, .inr (2, [.null, .null])), (al, .inr (2, [.null, .null])), (lo, .inr (0, [.int 0, .ref (ql 0), .ref (ql 1)])), (l0, .inr (2, [.null, .null])), (l1, .inr (2, [.null, .null])), (l2, .inr (2, [.null, .null]))] H := hP
  have hD : va_D A [(h0, .inr (1, [.ref h1, .ref xt, .int 0, .int 0, .ref xr, .int 0, .int 0, .ref le, .ref lc, .ref ln, .ref al, .ref lo, .ref xg, .int 0, .null])), (lc, .inl (klc, 8, .inl (fun _ => 0))), (ln, .inl (kln, 8, .inr (.inr (.inr (.inr (fun i => [l0, l1, l2, l3, l4, l5, l6, l7][i]?)))))), (l3, .inr (2, [.null, .null])), (l4, .inr (2, [.null, .null])), (l5, .inr (2, [.null, .null])), (l6, .inr (2, [.null, .null])), (l7, .inr (2, [.null, .null])), (al, .inr (2, [.null, .null])), (lo, .inr (0, [.int 0, .ref (ql 0), .ref (ql 1)])), (l0, .inr (2, [.null, .null])), (l1, .inr (2, [.null, .null])), (l2, .inr (2, [.null, .null]))] := hD
  have hK : va_K (dC, dI) vwCl [(klc, .int), (kln, .object RX2)] s := hK
  refine lv_iinc (v := 3) (lv' := [(2, .int 3), (0, .ref h0), (1, .ref h1)]) hx hb dX1_open_75 hl (k := 0) rfl (by decide) (by decide) rfl (fun ls hl => ?_)
  refine lv_goto (tgt := 53) hx hb dX1_open_78 (by decide) ?_
  refine lv_iload_n hx hb dX1_open_53 rfl (lv_at hl 0 rfl) ?_
  refine lv_bipush (v := 8) hx hb dX1_open_54 (by decide) ?_
  refine lv_icmp_ge (tgt := 81) hx hb dX1_open_56 (by decide) (fun h => absurd h (by decide)) (fun _ => ?_)
  refine lv_aload_n hx hb dX1_open_59 rfl (lv_at hl 1 rfl) ?_
  refine va_get (D := (dC, dI)) (ci := 1) (v := .ref lc) (C := RX1) (T := TX1) (N := 15) hx hb hts in_X1 hown hK hP 0 rfl rfl 8 (by decide) (hts _ wd_250) (fun _ h9 => h9) rfl dX1_open_60 ?_
  refine lv_iload_n hx hb dX1_open_63 rfl (lv_at hl 0 rfl) ?_
  refine lv_iconst (v := 0) hx hb dX1_open_64 (by decide) ?_
  refine va_iast hx hb hK hP hD hS 1 0 rfl rfl (px_in 3 8 (by decide +kernel)) dX1_open_65 (fun H locs hP hD hS => ?_)
  have hP : va_P (dC, dI) vwCl [(h0, .inr (1, [.ref h1, .ref xt, .int 0, .int 0, .ref xr, .int 0, .int 0, .ref le, .ref lc, .ref ln, .ref al, .ref lo, .ref xg, .int 0, .null])), (lc, .inl (klc, 8, .inl (upd (fun _ => 0) (3 : Int32).toNatClampNeg 0))), (ln, .inl (kln, 8, .inr (.inr (.inr (.inr (fun i => [l0, l1, l2, l3, l4, l5, l6, l7][i]?)))))), (l3, .inr (2, [.null, .null])), (l4, .inr (2, [.null, .null])), (l5, .inr (2, [.null, .null])), (l6, .inr (2, [.null, .null])), (l7, .inr (2, [.null, .null])), (al, .inr (2, [.null, .null])), (lo, .inr (0, [.int 0, .ref (ql 0), .ref (ql 1)])), (l0, .inr (2, [.null, .null])), (l1, .inr (2, [.null, .null])), (l2, .inr (2, [.null, .null]))] H := hP
  have hD : va_D A [(h0, .inr (1, [.ref h1, .ref xt, .int 0, .int 0, .ref xr, .int 0, .int 0, .ref le, .ref lc, .ref ln, .ref al, .ref lo, .ref xg, .int 0, .null])), (lc, .inl (klc, 8, .inl (upd (fun _ => 0) (3 : Int32).toNatClampNeg 0))), (ln, .inl (kln, 8, .inr (.inr (.inr (.inr (fun i => [l0, l1, l2, l3, l4, l5, l6, l7][i]?)))))), (l3, .inr (2, [.null, .null])), (l4, .inr (2, [.null, .null])), (l5, .inr (2, [.null, .null])), (l6, .inr (2, [.null, .null])), (l7, .inr (2, [.null, .null])), (al, .inr (2, [.null, .null])), (lo, .inr (0, [.int 0, .ref (ql 0), .ref (ql 1)])), (l0, .inr (2, [.null, .null])), (l1, .inr (2, [.null, .null])), (l2, .inr (2, [.null, .null]))] := hD
  rw [up_z] at hP hD
  have hP : va_P (dC, dI) vwCl [(h0, .inr (1, [.ref h1, .ref xt, .int 0, .int 0, .ref xr, .int 0, .int 0, .ref le, .ref lc, .ref ln, .ref al, .ref lo, .ref xg, .int 0, .null])), (lc, .inl (klc, 8, .inl (fun _ => 0))), (ln, .inl (kln, 8, .inr (.inr (.inr (.inr (fun i => [l0, l1, l2, l3, l4, l5, l6, l7][i]?)))))), (l3, .inr (2, [.null, .null])), (l4, .inr (2, [.null, .null])), (l5, .inr (2, [.null, .null])), (l6, .inr (2, [.null, .null])), (l7, .inr (2, [.null, .null])), (al, .inr (2, [.null, .null])), (lo, .inr (0, [.int 0, .ref (ql 0), .ref (ql 1)])), (l0, .inr (2, [.null, .null])), (l1, .inr (2, [.null, .null])), (l2, .inr (2, [.null, .null]))] H := hP
  have hD : va_D A [(h0, .inr (1, [.ref h1, .ref xt, .int 0, .int 0, .ref xr, .int 0, .int 0, .ref le, .ref lc, .ref ln, .ref al, .ref lo, .ref xg, .int 0, .null])), (lc, .inl (klc, 8, .inl (fun _ => 0))), (ln, .inl (kln, 8, .inr (.inr (.inr (.inr (fun i => [l0, l1, l2, l3, l4, l5, l6, l7][i]?)))))), (l3, .inr (2, [.null, .null])), (l4, .inr (2, [.null, .null])), (l5, .inr (2, [.null, .null])), (l6, .inr (2, [.null, .null])), (l7, .inr (2, [.null, .null])), (al, .inr (2, [.null, .null])), (lo, .inr (0, [.int 0, .ref (ql 0), .ref (ql 1)])), (l0, .inr (2, [.null, .null])), (l1, .inr (2, [.null, .null])), (l2, .inr (2, [.null, .null]))] := hD
  refine lv_aload_n hx hb dX1_open_66 rfl (lv_at hl 1 rfl) ?_
  refine va_get (D := (dC, dI)) (ci := 1) (v := .ref ln) (C := RX1) (T := TX1) (N := 15) hx hb hts in_X1 hown hK hP 0 rfl rfl 9 (by decide) (hts _ wd_253) (fun _ h9 => h9) rfl dX1_open_67 ?_
  refine lv_iload_n hx hb dX1_open_70 rfl (lv_at hl 0 rfl) ?_
  refine va_aldq hx hb hK hP 2 1 rfl rfl (px_in 3 8 (by decide +kernel)) dX1_open_71 ?_
  refine W.eq (g2 := F0 m 72 ls [.ref l3]) rfl ?_
  have hPc := hP.sub (ws' := [(l3, .inr (2, [.null, .null]))]) [3] rfl
  have hDc := hD.sub (ws' := [(l3, .inr (2, [.null, .null]))]) [3] (by decide) rfl
  have hKc := hK.sub (tys' := []) [] rfl
  have hFc := va_free (wc := [(l3, .inr (2, [.null, .null]))]) hD hS hA [3] rfl
  refine va_callv (va_runV (As := []) (rest := []) ⟨hx, hb, hml, hown, hts⟩ (ct_X2_clear l dC dI l3 H.size) (cwV 0 hts (gd_V wd_470 wd_471 wd_472 wd_10 wd_473) rfl rfl rfl (by decide +kernel) ⟨Nat.le_of_ble_eq_true rfl, Nat.le_of_ble_eq_true rfl⟩) ⟨fun a U g mk q => by obtain ⟨q0, q1, qP, qK, qD⟩ := q; exact ⟨q0, q1, qP, va_K.moved (u := U) (U := U.calling g mk a) (Vm.Alike.refl U.vm) qK, qD⟩, va_recv hKc hPc (ci := 2) (q0 := 0) rfl rfl, fun U hU hW => ⟨rfl, by rw [hU], by rw [hU]; exact hPc, va_K.moved hW.alike hKc, hDc.weaken (fun _ _ _ _ => trivial)⟩⟩ rfl rfl hl.1 rfl (lv_room (Nat.le_of_ble_eq_true rfl)) dX1_open_72 ⟨Nat.le_of_ble_eq_true rfl, Nat.le_of_ble_eq_true rfl⟩) hS (fun q _ h => hFc q h) hFc (fun u t H1 locs ht hvm hw hB hz1 hk1 hS => ?_)
  obtain ⟨hP1, hK1, hD1⟩ := hB
  rw [ht] at hP1
  have hK1 := va_K.moved hvm.symm hK1
  obtain ⟨hP, hD⟩ := va_join (wr := [(h0, .inr (1, [.ref h1, .ref xt, .int 0, .int 0, .ref xr, .int 0, .int 0, .ref le, .ref lc, .ref ln, .ref al, .ref lo, .ref xg, .int 0, .null])), (lc, .inl (klc, 8, .inl (fun _ => 0))), (ln, .inl (kln, 8, .inr (.inr (.inr (.inr (fun i => [l0, l1, l2, l3, l4, l5, l6, l7][i]?)))))), (l4, .inr (2, [.null, .null])), (l5, .inr (2, [.null, .null])), (l6, .inr (2, [.null, .null])), (l7, .inr (2, [.null, .null])), (al, .inr (2, [.null, .null])), (lo, .inr (0, [.int 0, .ref (ql 0), .ref (ql 1)])), (l0, .inr (2, [.null, .null])), (l1, .inr (2, [.null, .null])), (l2, .inr (2, [.null, .null]))]) (w1 := [(l3, .inr (2, [.null, .null]))]) hP hD [3] [0, 1, 2, 4, 5, 6, 7, 8, 9, 10, 11, 12] rfl rfl (by decide) (by decide) hk1 hFc hP1 hD1
  have hK := (hK.sub (tys' := [(klc, .int), (kln, .object RX2)]) [0, 1] rfl).app (hK1.sub (tys' := []) [] rfl)
  generalize H1 = H at hP hS ⊢
  have hP : va_P (dC, dI) vwCl [(h0, .inr (1, [.ref h1, .ref xt, .int 0, .int 0, .ref xr, .int 0, .int 0, .ref le, .ref lc, .ref ln, .ref al, .ref lo, .ref xg, .int 0, .null])), (lc, .inl (klc, 8, .inl (fun _ => 0))), (ln, .inl (kln, 8, .inr (.inr (.inr (.inr (fun i => [l0, l1, l2, l3, l4, l5, l6, l7][i]?)))))), (l4, .inr (2, [.null, .null])), (l5, .inr (2, [.null, .null])), (l6, .inr (2, [.null, .null])), (l7, .inr (2, [.null, .null])), (al, .inr (2, [.null, .null])), (lo, .inr (0, [.int 0, .ref (ql 0), .ref (ql 1)])), (l0, .inr (2, [.null, .null])), (l1, .inr (2, [.null, .null])), (l2, .inr (2, [.null, .null])), (l3, .inr (2, [.null, .null]))] H := hP
  have hD : va_D A [(h0, .inr (1, [.ref h1, .ref xt, .int 0, .int 0, .ref xr, .int 0, .int 0, .ref le, .ref lc, .ref ln, .ref al, .ref lo, .ref xg, .int 0, .null])), (lc, .inl (klc, 8, .inl (fun _ => 0))), (ln, .inl (kln, 8, .inr (.inr (.inr (.inr (fun i => [l0, l1, l2, l3, l4, l5, l6, l7][i]?)))))), (l4, .inr (2, [.null, .null])), (l5, .inr (2, [.null, .null])), (l6, .inr (2, [.null, .null])), (l7, .inr (2, [.null, .null])), (al, .inr (2, [.null, .null])), (lo, .inr (0, [.int 0, .ref (ql 0), .ref (ql 1)])), (l0, .inr (2, [.null, .null])), (l1, .inr (2, [.null, .null])), (l2, .inr (2, [.null, .null])), (l3, .inr (2, [.null, .null]))] := hD
  have hK : va_K (dC, dI) vwCl [(klc, .int), (kln, .object RX2)] s := hK
  refine lv_iinc (v := 4) (lv' := [(2, .int 4), (0, .ref h0), (1, .ref h1)]) hx hb dX1_open_75 hl (k := 0) rfl (by decide) (by decide) rfl (fun ls hl => ?_)
  refine lv_goto (tgt := 53) hx hb dX1_open_78 (by decide) ?_
  refine lv_iload_n hx hb dX1_open_53 rfl (lv_at hl 0 rfl) ?_
  refine lv_bipush (v := 8) hx hb dX1_open_54 (by decide) ?_
  refine lv_icmp_ge (tgt := 81) hx hb dX1_open_56 (by decide) (fun h => absurd h (by decide)) (fun _ => ?_)
  refine lv_aload_n hx hb dX1_open_59 rfl (lv_at hl 1 rfl) ?_
  refine va_get (D := (dC, dI)) (ci := 1) (v := .ref lc) (C := RX1) (T := TX1) (N := 15) hx hb hts in_X1 hown hK hP 0 rfl rfl 8 (by decide) (hts _ wd_250) (fun _ h9 => h9) rfl dX1_open_60 ?_
  refine lv_iload_n hx hb dX1_open_63 rfl (lv_at hl 0 rfl) ?_
  refine lv_iconst (v := 0) hx hb dX1_open_64 (by decide) ?_
  refine va_iast hx hb hK hP hD hS 1 0 rfl rfl (px_in 4 8 (by decide +kernel)) dX1_open_65 (fun H locs hP hD hS => ?_)
  have hP : va_P (dC, dI) vwCl [(h0, .inr (1, [.ref h1, .ref xt, .int 0, .int 0, .ref xr, .int 0, .int 0, .ref le, .ref lc, .ref ln, .ref al, .ref lo, .ref xg, .int 0, .null])), (lc, .inl (klc, 8, .inl (upd (fun _ => 0) (4 : Int32).toNatClampNeg 0))), (ln, .inl (kln, 8, .inr (.inr (.inr (.inr (fun i => [l0, l1, l2, l3, l4, l5, l6, l7][i]?)))))), (l4, .inr (2, [.null, .null])), (l5, .inr (2, [.null, .null])), (l6, .inr (2, [.null, .null])), (l7, .inr (2, [.null, .null])), (al, .inr (2, [.null, .null])), (lo, .inr (0, [.int 0, .ref (ql 0), .ref (ql 1)])), (l0, .inr (2, [.null, .null])), (l1, .inr (2, [.null, .null])), (l2, .inr (2, [.null, .null])), (l3, .inr (2, [.null, .null]))] H := hP
  have hD : va_D A [(h0, .inr (1, [.ref h1, .ref xt, .int 0, .int 0, .ref xr, .int 0, .int 0, .ref le, .ref lc, .ref ln, .ref al, .ref lo, .ref xg, .int 0, .null])), (lc, .inl (klc, 8, .inl (upd (fun _ => 0) (4 : Int32).toNatClampNeg 0))), (ln, .inl (kln, 8, .inr (.inr (.inr (.inr (fun i => [l0, l1, l2, l3, l4, l5, l6, l7][i]?)))))), (l4, .inr (2, [.null, .null])), (l5, .inr (2, [.null, .null])), (l6, .inr (2, [.null, .null])), (l7, .inr (2, [.null, .null])), (al, .inr (2, [.null, .null])), (lo, .inr (0, [.int 0, .ref (ql 0), .ref (ql 1)])), (l0, .inr (2, [.null, .null])), (l1, .inr (2, [.null, .null])), (l2, .inr (2, [.null, .null])), (l3, .inr (2, [.null, .null]))] := hD
  rw [up_z] at hP hD
  have hP : va_P (dC, dI) vwCl [(h0, .inr (1, [.ref h1, .ref xt, .int 0, .int 0, .ref xr, .int 0, .int 0, .ref le, .ref lc, .ref ln, .ref al, .ref lo, .ref xg, .int 0, .null])), (lc, .inl (klc, 8, .inl (fun _ => 0))), (ln, .inl (kln, 8, .inr (.inr (.inr (.inr (fun i => [l0, l1, l2, l3, l4, l5, l6, l7][i]?)))))), (l4, .inr (2, [.null, .null])), (l5, .inr (2, [.null, .null])), (l6, .inr (2, [.null, .null])), (l7, .inr (2, [.null, .null])), (al, .inr (2, [.null, .null])), (lo, .inr (0, [.int 0, .ref (ql 0), .ref (ql 1)])), (l0, .inr (2, [.null, .null])), (l1, .inr (2, [.null, .null])), (l2, .inr (2, [.null, .null])), (l3, .inr (2, [.null, .null]))] H := hP
  have hD : va_D A [(h0, .inr (1, [.ref h1, .ref xt, .int 0, .int 0, .ref xr, .int 0, .int 0, .ref le, .ref lc, .ref ln, .ref al, .ref lo, .ref xg, .int 0, .null])), (lc, .inl (klc, 8, .inl (fun _ => 0))), (ln, .inl (kln, 8, .inr (.inr (.inr (.inr (fun i => [l0, l1, l2, l3, l4, l5, l6, l7][i]?)))))), (l4, .inr (2, [.null, .null])), (l5, .inr (2, [.null, .null])), (l6, .inr (2, [.null, .null])), (l7, .inr (2, [.null, .null])), (al, .inr (2, [.null, .null])), (lo, .inr (0, [.int 0, .ref (ql 0), .ref (ql 1)])), (l0, .inr (2, [.null, .null])), (l1, .inr (2, [.null, .null])), (l2, .inr (2, [.null, .null])), (l3, .inr (2, [.null, .null]))] := hD
  refine lv_aload_n hx hb dX1_open_66 rfl (lv_at hl 1 rfl) ?_
  refine va_get (D := (dC, dI)) (ci := 1) (v := .ref ln) (C := RX1) (T := TX1) (N := 15) hx hb hts in_X1 hown hK hP 0 rfl rfl 9 (by decide) (hts _ wd_253) (fun _ h9 => h9) rfl dX1_open_67 ?_
  refine lv_iload_n hx hb dX1_open_70 rfl (lv_at hl 0 rfl) ?_
  refine va_aldq hx hb hK hP 2 1 rfl rfl (px_in 4 8 (by decide +kernel)) dX1_open_71 ?_
  refine W.eq (g2 := F0 m 72 ls [.ref l4]) rfl ?_
  have hPc := hP.sub (ws' := [(l4, .inr (2, [.null, .null]))]) [3] rfl
  have hDc := hD.sub (ws' := [(l4, .inr (2, [.null, .null]))]) [3] (by decide) rfl
  have hKc := hK.sub (tys' := []) [] rfl
  have hFc := va_free (wc := [(l4, .inr (2, [.null, .null]))]) hD hS hA [3] rfl
  refine va_callv (va_runV (As := []) (rest := []) ⟨hx, hb, hml, hown, hts⟩ (ct_X2_clear l dC dI l4 H.size) (cwV 0 hts (gd_V wd_470 wd_471 wd_472 wd_10 wd_473) rfl rfl rfl (by decide +kernel) ⟨Nat.le_of_ble_eq_true rfl, Nat.le_of_ble_eq_true rfl⟩) ⟨fun a U g mk q => by obtain ⟨q0, q1, qP, qK, qD⟩ := q; exact ⟨q0, q1, qP, va_K.moved (u := U) (U := U.calling g mk a) (Vm.Alike.refl U.vm) qK, qD⟩, va_recv hKc hPc (ci := 2) (q0 := 0) rfl rfl, fun U hU hW => ⟨rfl, by rw [hU], by rw [hU]; exact hPc, va_K.moved hW.alike hKc, hDc.weaken (fun _ _ _ _ => trivial)⟩⟩ rfl rfl hl.1 rfl (lv_room (Nat.le_of_ble_eq_true rfl)) dX1_open_72 ⟨Nat.le_of_ble_eq_true rfl, Nat.le_of_ble_eq_true rfl⟩) hS (fun q _ h => hFc q h) hFc (fun u t H1 locs ht hvm hw hB hz1 hk1 hS => ?_)
  obtain ⟨hP1, hK1, hD1⟩ := hB
  rw [ht] at hP1
  have hK1 := va_K.moved hvm.symm hK1
  obtain ⟨hP, hD⟩ := va_join (wr := [(h0, .inr (1, [.ref h1, .ref xt, .int 0, .int 0, .ref xr, .int 0, .int 0, .ref le, .ref lc, .ref ln, .ref al, .ref lo, .ref xg, .int 0, .null])), (lc, .inl (klc, 8, .inl (fun _ => 0))), (ln, .inl (kln, 8, .inr (.inr (.inr (.inr (fun i => [l0, l1, l2, l3, l4, l5, l6, l7][i]?)))))), (l5, .inr (2, [.null, .null])), (l6, .inr (2, [.null, .null])), (l7, .inr (2, [.null, .null])), (al, .inr (2, [.null, .null])), (lo, .inr (0, [.int 0, .ref (ql 0), .ref (ql 1)])), (l0, .inr (2, [.null, .null])), (l1, .inr (2, [.null, .null])), (l2, .inr (2, [.null, .null])), (l3, .inr (2, [.null, .null]))]) (w1 := [(l4, .inr (2, [.null, .null]))]) hP hD [3] [0, 1, 2, 4, 5, 6, 7, 8, 9, 10, 11, 12] rfl rfl (by decide) (by decide) hk1 hFc hP1 hD1
  have hK := (hK.sub (tys' := [(klc, .int), (kln, .object RX2)]) [0, 1] rfl).app (hK1.sub (tys' := []) [] rfl)
  generalize H1 = H at hP hS ⊢
  have hP : va_P (dC, dI) vwCl [(h0, .inr (1, [.ref h1, .ref xt, .int 0, .int 0, .ref xr, .int 0, .int 0, .ref le, .ref lc, .ref ln, .ref al, .ref lo, .ref xg, .int 0, .null])), (lc, .inl (klc, 8, .inl (fun _ => 0))), (ln, .inl (kln, 8, .inr (.inr (.inr (.inr (fun i => [l0, l1, l2, l3, l4, l5, l6, l7][i]?)))))), (l5, .inr (2, [.null, .null])), (l6, .inr (2, [.null, .null])), (l7, .inr (2, [.null, .null])), (al, .inr (2, [.null, .null])), (lo, .inr (0, [.int 0, .ref (ql 0), .ref (ql 1)])), (l0, .inr (2, [.null, .null])), (l1, .inr (2, [.null, .null])), (l2, .inr (2, [.null, .null])), (l3, .inr (2, [.null, .null])), (l4, .inr (2, [.null, .null]))] H := hP
  have hD : va_D A [(h0, .inr (1, [.ref h1, .ref xt, .int 0, .int 0, .ref xr, .int 0, .int 0, .ref le, .ref lc, .ref ln, .ref al, .ref lo, .ref xg, .int 0, .null])), (lc, .inl (klc, 8, .inl (fun _ => 0))), (ln, .inl (kln, 8, .inr (.inr (.inr (.inr (fun i => [l0, l1, l2, l3, l4, l5, l6, l7][i]?)))))), (l5, .inr (2, [.null, .null])), (l6, .inr (2, [.null, .null])), (l7, .inr (2, [.null, .null])), (al, .inr (2, [.null, .null])), (lo, .inr (0, [.int 0, .ref (ql 0), .ref (ql 1)])), (l0, .inr (2, [.null, .null])), (l1, .inr (2, [.null, .null])), (l2, .inr (2, [.null, .null])), (l3, .inr (2, [.null, .null])), (l4, .inr (2, [.null, .null]))] := hD
  have hK : va_K (dC, dI) vwCl [(klc, .int), (kln, .object RX2)] s := hK
  refine lv_iinc (v := 5) (lv' := [(2, .int 5), (0, .ref h0), (1, .ref h1)]) hx hb dX1_open_75 hl (k := 0) rfl (by decide) (by decide) rfl (fun ls hl => ?_)
  refine lv_goto (tgt := 53) hx hb dX1_open_78 (by decide) ?_
  refine lv_iload_n hx hb dX1_open_53 rfl (lv_at hl 0 rfl) ?_
  refine lv_bipush (v := 8) hx hb dX1_open_54 (by decide) ?_
  refine lv_icmp_ge (tgt := 81) hx hb dX1_open_56 (by decide) (fun h => absurd h (by decide)) (fun _ => ?_)
  refine lv_aload_n hx hb dX1_open_59 rfl (lv_at hl 1 rfl) ?_
  refine va_get (D := (dC, dI)) (ci := 1) (v := .ref lc) (C := RX1) (T := TX1) (N := 15) hx hb hts in_X1 hown hK hP 0 rfl rfl 8 (by decide) (hts _ wd_250) (fun _ h9 => h9) rfl dX1_open_60 ?_
  refine lv_iload_n hx hb dX1_open_63 rfl (lv_at hl 0 rfl) ?_
  refine lv_iconst (v := 0) hx hb dX1_open_64 (by decide) ?_
  refine va_iast hx hb hK hP hD hS 1 0 rfl rfl (px_in 5 8 (by decide +kernel)) dX1_open_65 (fun H locs hP hD hS => ?_)
  have hP : va_P (dC, dI) vwCl [(h0, .inr (1, [.ref h1, .ref xt, .int 0, .int 0, .ref xr, .int 0, .int 0, .ref le, .ref lc, .ref ln, .ref al, .ref lo, .ref xg, .int 0, .null])), (lc, .inl (klc, 8, .inl (upd (fun _ => 0) (5 : Int32).toNatClampNeg 0))), (ln, .inl (kln, 8, .inr (.inr (.inr (.inr (fun i => [l0, l1, l2, l3, l4, l5, l6, l7][i]?)))))), (l5, .inr (2, [.null, .null])), (l6, .inr (2, [.null, .null])), (l7, .inr (2, [.null, .null])), (al, .inr (2, [.null, .null])), (lo, .inr (0, [.int 0, .ref (ql 0), .ref (ql 1)])), (l0, .inr (2, [.null, .null])), (l1, .inr (2, [.null, .null])), (l2, .inr (2, [.null, .null])), (l3, .inr (2, [.null, .null])), (l4, .inr (2, [.null, .null]))] H := hP
  have hD : va_D A [(h0, .inr (1, [.ref h1, .ref xt, .int 0, .int 0, .ref xr, .int 0, .int 0, .ref le, .ref lc, .ref ln, .ref al, .ref lo, .ref xg, .int 0, .null])), (lc, .inl (klc, 8, .inl (upd (fun _ => 0) (5 : Int32).toNatClampNeg 0))), (ln, .inl (kln, 8, .inr (.inr (.inr (.inr (fun i => [l0, l1, l2, l3, l4, l5, l6, l7][i]?)))))), (l5, .inr (2, [.null, .null])), (l6, .inr (2, [.null, .null])), (l7, .inr (2, [.null, .null])), (al, .inr (2, [.null, .null])), (lo, .inr (0, [.int 0, .ref (ql 0), .ref (ql 1)])), (l0, .inr (2, [.null, .null])), (l1, .inr (2, [.null, .null])), (l2, .inr (2, [.null, .null])), (l3, .inr (2, [.null, .null])), (l4, .inr (2, [.null, .null]))] := hD
  rw [up_z] at hP hD
  have hP : va_P (dC, dI) vwCl [(h0, .inr (1, [.ref h1, .ref xt, .int 0, .int 0, .ref xr, .int 0, .int 0, .ref le, .ref lc, .ref ln, .ref al, .ref lo, .ref xg, .int 0, .null])), (lc, .inl (klc, 8, .inl (fun _ => 0))), (ln, .inl (kln, 8, .inr (.inr (.inr (.inr (fun i => [l0, l1, l2, l3, l4, l5, l6, l7][i]?)))))), (l5, .inr (2, [.null, .null])), (l6, .inr (2, [.null, .null])), (l7, .inr (2, [.null, .null])), (al, .inr (2, [.null, .null])), (lo, .inr (0, [.int 0, .ref (ql 0), .ref (ql 1)])), (l0, .inr (2, [.null, .null])), (l1, .inr (2, [.null, .null])), (l2, .inr (2, [.null, .null])), (l3, .inr (2, [.null, .null])), (l4, .inr (2, [.null, .null]))] H := hP
  have hD : va_D A [(h0, .inr (1, [.ref h1, .ref xt, .int 0, .int 0, .ref xr, .int 0, .int 0, .ref le, .ref lc, .ref ln, .ref al, .ref lo, .ref xg, .int 0, .null])), (lc, .inl (klc, 8, .inl (fun _ => 0))), (ln, .inl (kln, 8, .inr (.inr (.inr (.inr (fun i => [l0, l1, l2, l3, l4, l5, l6, l7][i]?)))))), (l5, .inr (2, [.null, .null])), (l6, .inr (2, [.null, .null])), (l7, .inr (2, [.null, .null])), (al, .inr (2, [.null, .null])), (lo, .inr (0, [.int 0, .ref (ql 0), .ref (ql 1)])), (l0, .inr (2, [.null, .null])), (l1, .inr (2, [.null, .null])), (l2, .inr (2, [.null, .null])), (l3, .inr (2, [.null, .null])), (l4, .inr (2, [.null, .null]))] := hD
  refine lv_aload_n hx hb dX1_open_66 rfl (lv_at hl 1 rfl) ?_
  refine va_get (D := (dC, dI)) (ci := 1) (v := .ref ln) (C := RX1) (T := TX1) (N := 15) hx hb hts in_X1 hown hK hP 0 rfl rfl 9 (by decide) (hts _ wd_253) (fun _ h9 => h9) rfl dX1_open_67 ?_
  refine lv_iload_n hx hb dX1_open_70 rfl (lv_at hl 0 rfl) ?_
  refine va_aldq hx hb hK hP 2 1 rfl rfl (px_in 5 8 (by decide +kernel)) dX1_open_71 ?_
  refine W.eq (g2 := F0 m 72 ls [.ref l5]) rfl ?_
  have hPc := hP.sub (ws' := [(l5, .inr (2, [.null, .null]))]) [3] rfl
  have hDc := hD.sub (ws' := [(l5, .inr (2, [.null, .null]))]) [3] (by decide) rfl
  have hKc := hK.sub (tys' := []) [] rfl
  have hFc := va_free (wc := [(l5, .inr (2, [.null, .null]))]) hD hS hA [3] rfl
  refine va_callv (va_runV (As := []) (rest := []) ⟨hx, hb, hml, hown, hts⟩ (ct_X2_clear l dC dI l5 H.size) (cwV 0 hts (gd_V wd_470 wd_471 wd_472 wd_10 wd_473) rfl rfl rfl (by decide +kernel) ⟨Nat.le_of_ble_eq_true rfl, Nat.le_of_ble_eq_true rfl⟩) ⟨fun a U g mk q => by obtain ⟨q0, q1, qP, qK, qD⟩ := q; exact ⟨q0, q1, qP, va_K.moved (u := U) (U := U.calling g mk a) (Vm.Alike.refl U.vm) qK, qD⟩, va_recv hKc hPc (ci := 2) (q0 := 0) rfl rfl, fun U hU hW => ⟨rfl, by rw [hU], by rw [hU]; exact hPc, va_K.moved hW.alike hKc, hDc.weaken (fun _ _ _ _ => trivial)⟩⟩ rfl rfl hl.1 rfl (lv_room (Nat.le_of_ble_eq_true rfl)) dX1_open_72 ⟨Nat.le_of_ble_eq_true rfl, Nat.le_of_ble_eq_true rfl⟩) hS (fun q _ h => hFc q h) hFc (fun u t H1 locs ht hvm hw hB hz1 hk1 hS => ?_)
  obtain ⟨hP1, hK1, hD1⟩ := hB
  rw [ht] at hP1
  have hK1 := va_K.moved hvm.symm hK1
  obtain ⟨hP, hD⟩ := va_join (wr := [(h0, .inr (1, [.ref h1, .ref xt, .int 0, .int 0, .ref xr, .int 0, .int 0, .ref le, .ref lc, .ref ln, .ref al, .ref lo, .ref xg, .int 0, .null])), (lc, .inl (klc, 8, .inl (fun _ => 0))), (ln, .inl (kln, 8, .inr (.inr (.inr (.inr (fun i => [l0, l1, l2, l3, l4, l5, l6, l7][i]?)))))), (l6, .inr (2, [.null, .null])), (l7, .inr (2, [.null, .null])), (al, .inr (2, [.null, .null])), (lo, .inr (0, [.int 0, .ref (ql 0), .ref (ql 1)])), (l0, .inr (2, [.null, .null])), (l1, .inr (2, [.null, .null])), (l2, .inr (2, [.null, .null])), (l3, .inr (2, [.null, .null])), (l4, .inr (2, [.null, .null]))]) (w1 := [(l5, .inr (2, [.null, .null]))]) hP hD [3] [0, 1, 2, 4, 5, 6, 7, 8, 9, 10, 11, 12] rfl rfl (by decide) (by decide) hk1 hFc hP1 hD1
  have hK := (hK.sub (tys' := [(klc, .int), (kln, .object RX2)]) [0, 1] rfl).app (hK1.sub (tys' := []) [] rfl)
  generalize H1 = H at hP hS ⊢
  have hP : va_P (dC, dI) vwCl [(h0, .inr (1, [.ref h1, .ref xt, .int 0, .int 0, .ref xr, .int 0, .int 0, .ref le, .ref lc, .ref ln, .ref al, .ref lo, .ref xg, .int 0, .null])), (lc, .inl (klc, 8, .inl (fun _ => 0))), (ln, .inl (kln, 8, .inr (.inr (.inr (.inr (fun i => [l0, l1, l2, l3, l4, l5, l6, l7][i]?)))))), (l6, .inr (2, [.null, .null])), (l7, .inr (2, [.null, .null])), (al, .inr (2, [.null, .null])), (lo, .inr (0, [.int 0, .ref (ql 0), .ref (ql 1)])), (l0, .inr (2, [.null, .null])), (l1, .inr (2, [.null, .null])), (l2, .inr (2, [.null, .null])), (l3, .inr (2, [.null, .null])), (l4, .inr (2, [.null, .null])), (l5, .inr (2, [.null, .null]))] H := hP
  have hD : va_D A [(h0, .inr (1, [.ref h1, .ref xt, .int 0, .int 0, .ref xr, .int 0, .int 0, .ref le, .ref lc, .ref ln, .ref al, .ref lo, .ref xg, .int 0, .null])), (lc, .inl (klc, 8, .inl (fun _ => 0))), (ln, .inl (kln, 8, .inr (.inr (.inr (.inr (fun i => [l0, l1, l2, l3, l4, l5, l6, l7][i]?)))))), (l6, .inr (2, [.null, .null])), (l7, .inr (2, [.null, .null])), (al, .inr (2, [.null, .null])), (lo, .inr (0, [.int 0, .ref (ql 0), .ref (ql 1)])), (l0, .inr (2, [.null, .null])), (l1, .inr (2, [.null, .null])), (l2, .inr (2, [.null, .null])), (l3, .inr (2, [.null, .null])), (l4, .inr (2, [.null, .null])), (l5, .inr (2, [.null, .null]))] := hD
  have hK : va_K (dC, dI) vwCl [(klc, .int), (kln, .object RX2)] s := hK
  refine lv_iinc (v := 6) (lv' := [(2, .int 6), (0, .ref h0), (1, .ref h1)]) hx hb dX1_open_75 hl (k := 0) rfl (by decide) (by decide) rfl (fun ls hl => ?_)
  refine lv_goto (tgt := 53) hx hb dX1_open_78 (by decide) ?_
  refine lv_iload_n hx hb dX1_open_53 rfl (lv_at hl 0 rfl) ?_
  refine lv_bipush (v := 8) hx hb dX1_open_54 (by decide) ?_
  refine lv_icmp_ge (tgt := 81) hx hb dX1_open_56 (by decide) (fun h => absurd h (by decide)) (fun _ => ?_)
  refine lv_aload_n hx hb dX1_open_59 rfl (lv_at hl 1 rfl) ?_
  refine va_get (D := (dC, dI)) (ci := 1) (v := .ref lc) (C := RX1) (T := TX1) (N := 15) hx hb hts in_X1 hown hK hP 0 rfl rfl 8 (by decide) (hts _ wd_250) (fun _ h9 => h9) rfl dX1_open_60 ?_
  refine lv_iload_n hx hb dX1_open_63 rfl (lv_at hl 0 rfl) ?_
  refine lv_iconst (v := 0) hx hb dX1_open_64 (by decide) ?_
  refine va_iast hx hb hK hP hD hS 1 0 rfl rfl (px_in 6 8 (by decide +kernel)) dX1_open_65 (fun H locs hP hD hS => ?_)
  have hP : va_P (dC, dI) vwCl [(h0, .inr (1, [.ref h1, .ref xt, .int 0, .int 0, .ref xr, .int 0, .int 0, .ref le, .ref lc, .ref ln, .ref al, .ref lo, .ref xg, .int 0, .null])), (lc, .inl (klc, 8, .inl (upd (fun _ => 0) (6 : Int32).toNatClampNeg 0))), (ln, .inl (kln, 8, .inr (.inr (.inr (.inr (fun i => [l0, l1, l2, l3, l4, l5, l6, l7][i]?)))))), (l6, .inr (2, [.null, .null])), (l7, .inr (2, [.null, .null])), (al, .inr (2, [.null, .null])), (lo, .inr (0, [.int 0, .ref (ql 0), .ref (ql 1)])), (l0, .inr (2, [.null, .null])), (l1, .inr (2, [.null, .null])), (l2, .inr (2, [.null, .null])), (l3, .inr (2, [.null, .null])), (l4, .inr (2, [.null, .null])), (l5, .inr (2, [.null, .null]))] H := hP
  have hD : va_D A [(h0, .inr (1, [.ref h1, .ref xt, .int 0, .int 0, .ref xr, .int 0, .int 0, .ref le, .ref lc, .ref ln, .ref al, .ref lo, .ref xg, .int 0, .null])), (lc, .inl (klc, 8, .inl (upd (fun _ => 0) (6 : Int32).toNatClampNeg 0))), (ln, .inl (kln, 8, .inr (.inr (.inr (.inr (fun i => [l0, l1, l2, l3, l4, l5, l6, l7][i]?)))))), (l6, .inr (2, [.null, .null])), (l7, .inr (2, [.null, .null])), (al, .inr (2, [.null, .null])), (lo, .inr (0, [.int 0, .ref (ql 0), .ref (ql 1)])), (l0, .inr (2, [.null, .null])), (l1, .inr (2, [.null, .null])), (l2, .inr (2, [.null, .null])), (l3, .inr (2, [.null, .null])), (l4, .inr (2, [.null, .null])), (l5, .inr (2, [.null, .null]))] := hD
  rw [up_z] at hP hD
  have hP : va_P (dC, dI) vwCl [(h0, .inr (1, [.ref h1, .ref xt, .int 0, .int 0, .ref xr, .int 0, .int 0, .ref le, .ref lc, .ref ln, .ref al, .ref lo, .ref xg, .int 0, .null])), (lc, .inl (klc, 8, .inl (fun _ => 0))), (ln, .inl (kln, 8, .inr (.inr (.inr (.inr (fun i => [l0, l1, l2, l3, l4, l5, l6, l7][i]?)))))), (l6, .inr (2, [.null, .null])), (l7, .inr (2, [.null, .null])), (al, .inr (2, [.null, .null])), (lo, .inr (0, [.int 0, .ref (ql 0), .ref (ql 1)])), (l0, .inr (2, [.null, .null])), (l1, .inr (2, [.null, .null])), (l2, .inr (2, [.null, .null])), (l3, .inr (2, [.null, .null])), (l4, .inr (2, [.null, .null])), (l5, .inr (2, [.null, .null]))] H := hP
  have hD : va_D A [(h0, .inr (1, [.ref h1, .ref xt, .int 0, .int 0, .ref xr, .int 0, .int 0, .ref le, .ref lc, .ref ln, .ref al, .ref lo, .ref xg, .int 0, .null])), (lc, .inl (klc, 8, .inl (fun _ => 0))), (ln, .inl (kln, 8, .inr (.inr (.inr (.inr (fun i => [l0, l1, l2, l3, l4, l5, l6, l7][i]?)))))), (l6, .inr (2, [.null, .null])), (l7, .inr (2, [.null, .null])), (al, .inr (2, [.null, .null])), (lo, .inr (0, [.int 0, .ref (ql 0), .ref (ql 1)])), (l0, .inr (2, [.null, .null])), (l1, .inr (2, [.null, .null])), (l2, .inr (2, [.null, .null])), (l3, .inr (2, [.null, .null])), (l4, .inr (2, [.null, .null])), (l5, .inr (2, [.null, .null]))] := hD
  refine lv_aload_n hx hb dX1_open_66 rfl (lv_at hl 1 rfl) ?_
  refine va_get (D := (dC, dI)) (ci := 1) (v := .ref ln) (C := RX1) (T := TX1) (N := 15) hx hb hts in_X1 hown hK hP 0 rfl rfl 9 (by decide) (hts _ wd_253) (fun _ h9 => h9) rfl dX1_open_67 ?_
  refine lv_iload_n hx hb dX1_open_70 rfl (lv_at hl 0 rfl) ?_
  refine va_aldq hx hb hK hP 2 1 rfl rfl (px_in 6 8 (by decide +kernel)) dX1_open_71 ?_
  refine W.eq (g2 := F0 m 72 ls [.ref l6]) rfl ?_
  have hPc := hP.sub (ws' := [(l6, .inr (2, [.null, .null]))]) [3] rfl
  have hDc := hD.sub (ws' := [(l6, .inr (2, [.null, .null]))]) [3] (by decide) rfl
  have hKc := hK.sub (tys' := []) [] rfl
  have hFc := va_free (wc := [(l6, .inr (2, [.null, .null]))]) hD hS hA [3] rfl
  refine va_callv (va_runV (As := []) (rest := []) ⟨hx, hb, hml, hown, hts⟩ (ct_X2_clear l dC dI l6 H.size) (cwV 0 hts (gd_V wd_470 wd_471 wd_472 wd_10 wd_473) rfl rfl rfl (by decide +kernel) ⟨Nat.le_of_ble_eq_true rfl, Nat.le_of_ble_eq_true rfl⟩) ⟨fun a U g mk q => by obtain ⟨q0, q1, qP, qK, qD⟩ := q; exact ⟨q0, q1, qP, va_K.moved (u := U) (U := U.calling g mk a) (Vm.Alike.refl U.vm) qK, qD⟩, va_recv hKc hPc (ci := 2) (q0 := 0) rfl rfl, fun U hU hW => ⟨rfl, by rw [hU], by rw [hU]; exact hPc, va_K.moved hW.alike hKc, hDc.weaken (fun _ _ _ _ => trivial)⟩⟩ rfl rfl hl.1 rfl (lv_room (Nat.le_of_ble_eq_true rfl)) dX1_open_72 ⟨Nat.le_of_ble_eq_true rfl, Nat.le_of_ble_eq_true rfl⟩) hS (fun q _ h => hFc q h) hFc (fun u t H1 locs ht hvm hw hB hz1 hk1 hS => ?_)
  obtain ⟨hP1, hK1, hD1⟩ := hB
  rw [ht] at hP1
  have hK1 := va_K.moved hvm.symm hK1
  obtain ⟨hP, hD⟩ := va_join (wr := [(h0, .inr (1, [.ref h1, .ref xt, .int 0, .int 0, .ref xr, .int 0, .int 0, .ref le, .ref lc, .ref ln, .ref al, .ref lo, .ref xg, .int 0, .null])), (lc, .inl (klc, 8, .inl (fun _ => 0))), (ln, .inl (kln, 8, .inr (.inr (.inr (.inr (fun i => [l0, l1, l2, l3, l4, l5, l6, l7][i]?)))))), (l7, .inr (2, [.null, .null])), (al, .inr (2, [.null, .null])), (lo, .inr (0, [.int 0, .ref (ql 0), .ref (ql 1)])), (l0, .inr (2, [.null, .null])), (l1, .inr (2, [.null, .null])), (l2, .inr (2, [.null, .null])), (l3, .inr (2, [.null, .null])), (l4, .inr (2, [.null, .null])), (l5, .inr (2, [.null, .null]))]) (w1 := [(l6, .inr (2, [.null, .null]))]) hP hD [3] [0, 1, 2, 4, 5, 6, 7, 8, 9, 10, 11, 12] rfl rfl (by decide) (by decide) hk1 hFc hP1 hD1
  have hK := (hK.sub (tys' := [(klc, .int), (kln, .object RX2)]) [0, 1] rfl).app (hK1.sub (tys' := []) [] rfl)
  generalize H1 = H at hP hS ⊢
  have hP : va_P (dC, dI) vwCl [(h0, .inr (1, [.ref h1, .ref xt, .int 0, .int 0, .ref xr, .int 0, .int 0, .ref le, .ref lc, .ref ln, .ref al, .ref lo, .ref xg, .int 0, .null])), (lc, .inl (klc, 8, .inl (fun _ => 0))), (ln, .inl (kln, 8, .inr (.inr (.inr (.inr (fun i => [l0, l1, l2, l3, l4, l5, l6, l7][i]?)))))), (l7, .inr (2, [.null, .null])), (al, .inr (2, [.null, .null])), (lo, .inr (0, [.int 0, .ref (ql 0), .ref (ql 1)])), (l0, .inr (2, [.null, .null])), (l1, .inr (2, [.null, .null])), (l2, .inr (2, [.null, .null])), (l3, .inr (2, [.null, .null])), (l4, .inr (2, [.null, .null])), (l5, .inr (2, [.null, .null])), (l6, .inr (2, [.null, .null]))] H := hP
  have hD : va_D A [(h0, .inr (1, [.ref h1, .ref xt, .int 0, .int 0, .ref xr, .int 0, .int 0, .ref le, .ref lc, .ref ln, .ref al, .ref lo, .ref xg, .int 0, .null])), (lc, .inl (klc, 8, .inl (fun _ => 0))), (ln, .inl (kln, 8, .inr (.inr (.inr (.inr (fun i => [l0, l1, l2, l3, l4, l5, l6, l7][i]?)))))), (l7, .inr (2, [.null, .null])), (al, .inr (2, [.null, .null])), (lo, .inr (0, [.int 0, .ref (ql 0), .ref (ql 1)])), (l0, .inr (2, [.null, .null])), (l1, .inr (2, [.null, .null])), (l2, .inr (2, [.null, .null])), (l3, .inr (2, [.null, .null])), (l4, .inr (2, [.null, .null])), (l5, .inr (2, [.null, .null])), (l6, .inr (2, [.null, .null]))] := hD
  have hK : va_K (dC, dI) vwCl [(klc, .int), (kln, .object RX2)] s := hK
  refine lv_iinc (v := 7) (lv' := [(2, .int 7), (0, .ref h0), (1, .ref h1)]) hx hb dX1_open_75 hl (k := 0) rfl (by decide) (by decide) rfl (fun ls hl => ?_)
  refine lv_goto (tgt := 53) hx hb dX1_open_78 (by decide) ?_
  refine lv_iload_n hx hb dX1_open_53 rfl (lv_at hl 0 rfl) ?_
  refine lv_bipush (v := 8) hx hb dX1_open_54 (by decide) ?_
  refine lv_icmp_ge (tgt := 81) hx hb dX1_open_56 (by decide) (fun h => absurd h (by decide)) (fun _ => ?_)
  refine lv_aload_n hx hb dX1_open_59 rfl (lv_at hl 1 rfl) ?_
  refine va_get (D := (dC, dI)) (ci := 1) (v := .ref lc) (C := RX1) (T := TX1) (N := 15) hx hb hts in_X1 hown hK hP 0 rfl rfl 8 (by decide) (hts _ wd_250) (fun _ h9 => h9) rfl dX1_open_60 ?_
  refine lv_iload_n hx hb dX1_open_63 rfl (lv_at hl 0 rfl) ?_
  refine lv_iconst (v := 0) hx hb dX1_open_64 (by decide) ?_
  refine va_iast hx hb hK hP hD hS 1 0 rfl rfl (px_in 7 8 (by decide +kernel)) dX1_open_65 (fun H locs hP hD hS => ?_)
  have hP : va_P (dC, dI) vwCl [(h0, .inr (1, [.ref h1, .ref xt, .int 0, .int 0, .ref xr, .int 0, .int 0, .ref le, .ref lc, .ref ln, .ref al, .ref lo, .ref xg, .int 0, .null])), (lc, .inl (klc, 8, .inl (upd (fun _ => 0) (7 : Int32).toNatClampNeg 0))), (ln, .inl (kln, 8, .inr (.inr (.inr (.inr (fun i => [l0, l1, l2, l3, l4, l5, l6, l7][i]?)))))), (l7, .inr (2, [.null, .null])), (al, .inr (2, [.null, .null])), (lo, .inr (0, [.int 0, .ref (ql 0), .ref (ql 1)])), (l0, .inr (2, [.null, .null])), (l1, .inr (2, [.null, .null])), (l2, .inr (2, [.null, .null])), (l3, .inr (2, [.null, .null])), (l4, .inr (2, [.null, .null])), (l5, .inr (2, [.null, .null])), (l6, .inr (2, [.null, .null]))] H := hP
  have hD : va_D A [(h0, .inr (1, [.ref h1, .ref xt, .int 0, .int 0, .ref xr, .int 0, .int 0, .ref le, .ref lc, .ref ln, .ref al, .ref lo, .ref xg, .int 0, .null])), (lc, .inl (klc, 8, .inl (upd (fun _ => 0) (7 : Int32).toNatClampNeg 0))), (ln, .inl (kln, 8, .inr (.inr (.inr (.inr (fun i => [l0, l1, l2, l3, l4, l5, l6, l7][i]?)))))), (l7, .inr (2, [.null, .null])), (al, .inr (2, [.null, .null])), (lo, .inr (0, [.int 0, .ref (ql 0), .ref (ql 1)])), (l0, .inr (2, [.null, .null])), (l1, .inr (2, [.null, .null])), (l2, .inr (2, [.null, .null])), (l3, .inr (2, [.null, .null])), (l4, .inr (2, [.null, .null])), (l5, .inr (2, [.null, .null])), (l6, .inr (2, [.null, .null]))] := hD
  rw [up_z] at hP hD
  have hP : va_P (dC, dI) vwCl [(h0, .inr (1, [.ref h1, .ref xt, .int 0, .int 0, .ref xr, .int 0, .int 0, .ref le, .ref lc, .ref ln, .ref al, .ref lo, .ref xg, .int 0, .null])), (lc, .inl (klc, 8, .inl (fun _ => 0))), (ln, .inl (kln, 8, .inr (.inr (.inr (.inr (fun i => [l0, l1, l2, l3, l4, l5, l6, l7][i]?)))))), (l7, .inr (2, [.null, .null])), (al, .inr (2, [.null, .null])), (lo, .inr (0, [.int 0, .ref (ql 0), .ref (ql 1)])), (l0, .inr (2, [.null, .null])), (l1, .inr (2, [.null, .null])), (l2, .inr (2, [.null, .null])), (l3, .inr (2, [.null, .null])), (l4, .inr (2, [.null, .null])), (l5, .inr (2, [.null, .null])), (l6, .inr (2, [.null, .null]))] H := hP
  have hD : va_D A [(h0, .inr (1, [.ref h1, .ref xt, .int 0, .int 0, .ref xr, .int 0, .int 0, .ref le, .ref lc, .ref ln, .ref al, .ref lo, .ref xg, .int 0, .null])), (lc, .inl (klc, 8, .inl (fun _ => 0))), (ln, .inl (kln, 8, .inr (.inr (.inr (.inr (fun i => [l0, l1, l2, l3, l4, l5, l6, l7][i]?)))))), (l7, .inr (2, [.null, .null])), (al, .inr (2, [.null, .null])), (lo, .inr (0, [.int 0, .ref (ql 0), .ref (ql 1)])), (l0, .inr (2, [.null, .null])), (l1, .inr (2, [.null, .null])), (l2, .inr (2, [.null, .null])), (l3, .inr (2, [.null, .null])), (l4, .inr (2, [.null, .null])), (l5, .inr (2, [.null, .null])), (l6, .inr (2, [.null, .null]))] := hD
  refine lv_aload_n hx hb dX1_open_66 rfl (lv_at hl 1 rfl) ?_
  refine va_get (D := (dC, dI)) (ci := 1) (v := .ref ln) (C := RX1) (T := TX1) (N := 15) hx hb hts in_X1 hown hK hP 0 rfl rfl 9 (by decide) (hts _ wd_253) (fun _ h9 => h9) rfl dX1_open_67 ?_
  refine lv_iload_n hx hb dX1_open_70 rfl (lv_at hl 0 rfl) ?_
  refine va_aldq hx hb hK hP 2 1 rfl rfl (px_in 7 8 (by decide +kernel)) dX1_open_71 ?_
  refine W.eq (g2 := F0 m 72 ls [.ref l7]) rfl ?_
  have hPc := hP.sub (ws' := [(l7, .inr (2, [.null, .null]))]) [3] rfl
  have hDc := hD.sub (ws' := [(l7, .inr (2, [.null, .null]))]) [3] (by decide) rfl
  have hKc := hK.sub (tys' := []) [] rfl
  have hFc := va_free (wc := [(l7, .inr (2, [.null, .null]))]) hD hS hA [3] rfl
  refine va_callv (va_runV (As := []) (rest := []) ⟨hx, hb, hml, hown, hts⟩ (ct_X2_clear l dC dI l7 H.size) (cwV 0 hts (gd_V wd_470 wd_471 wd_472 wd_10 wd_473) rfl rfl rfl (by decide +kernel) ⟨Nat.le_of_ble_eq_true rfl, Nat.le_of_ble_eq_true rfl⟩) ⟨fun a U g mk q => by obtain ⟨q0, q1, qP, qK, qD⟩ := q; exact ⟨q0, q1, qP, va_K.moved (u := U) (U := U.calling g mk a) (Vm.Alike.refl U.vm) qK, qD⟩, va_recv hKc hPc (ci := 2) (q0 := 0) rfl rfl, fun U hU hW => ⟨rfl, by rw [hU], by rw [hU]; exact hPc, va_K.moved hW.alike hKc, hDc.weaken (fun _ _ _ _ => trivial)⟩⟩ rfl rfl hl.1 rfl (lv_room (Nat.le_of_ble_eq_true rfl)) dX1_open_72 ⟨Nat.le_of_ble_eq_true rfl, Nat.le_of_ble_eq_true rfl⟩) hS (fun q _ h => hFc q h) hFc (fun u t H1 locs ht hvm hw hB hz1 hk1 hS => ?_)
  obtain ⟨hP1, hK1, hD1⟩ := hB
  rw [ht] at hP1
  have hK1 := va_K.moved hvm.symm hK1
  obtain ⟨hP, hD⟩ := va_join (wr := [(h0, .inr (1, [.ref h1, .ref xt, .int 0, .int 0, .ref xr, .int 0, .int 0, .ref le, .ref lc, .ref ln, .ref al, .ref lo, .ref xg, .int 0, .null])), (lc, .inl (klc, 8, .inl (fun _ => 0))), (ln, .inl (kln, 8, .inr (.inr (.inr (.inr (fun i => [l0, l1, l2, l3, l4, l5, l6, l7][i]?)))))), (al, .inr (2, [.null, .null])), (lo, .inr (0, [.int 0, .ref (ql 0), .ref (ql 1)])), (l0, .inr (2, [.null, .null])), (l1, .inr (2, [.null, .null])), (l2, .inr (2, [.null, .null])), (l3, .inr (2, [.null, .null])), (l4, .inr (2, [.null, .null])), (l5, .inr (2, [.null, .null])), (l6, .inr (2, [.null, .null]))]) (w1 := [(l7, .inr (2, [.null, .null]))]) hP hD [3] [0, 1, 2, 4, 5, 6, 7, 8, 9, 10, 11, 12] rfl rfl (by decide) (by decide) hk1 hFc hP1 hD1
  have hK := (hK.sub (tys' := [(klc, .int), (kln, .object RX2)]) [0, 1] rfl).app (hK1.sub (tys' := []) [] rfl)
  generalize H1 = H at hP hS ⊢
  have hP : va_P (dC, dI) vwCl [(h0, .inr (1, [.ref h1, .ref xt, .int 0, .int 0, .ref xr, .int 0, .int 0, .ref le, .ref lc, .ref ln, .ref al, .ref lo, .ref xg, .int 0, .null])), (lc, .inl (klc, 8, .inl (fun _ => 0))), (ln, .inl (kln, 8, .inr (.inr (.inr (.inr (fun i => [l0, l1, l2, l3, l4, l5, l6, l7][i]?)))))), (al, .inr (2, [.null, .null])), (lo, .inr (0, [.int 0, .ref (ql 0), .ref (ql 1)])), (l0, .inr (2, [.null, .null])), (l1, .inr (2, [.null, .null])), (l2, .inr (2, [.null, .null])), (l3, .inr (2, [.null, .null])), (l4, .inr (2, [.null, .null])), (l5, .inr (2, [.null, .null])), (l6, .inr (2, [.null, .null])), (l7, .inr (2, [.null, .null]))] H := hP
  have hD : va_D A [(h0, .inr (1, [.ref h1, .ref xt, .int 0, .int 0, .ref xr, .int 0, .int 0, .ref le, .ref lc, .ref ln, .ref al, .ref lo, .ref xg, .int 0, .null])), (lc, .inl (klc, 8, .inl (fun _ => 0))), (ln, .inl (kln, 8, .inr (.inr (.inr (.inr (fun i => [l0, l1, l2, l3, l4, l5, l6, l7][i]?)))))), (al, .inr (2, [.null, .null])), (lo, .inr (0, [.int 0, .ref (ql 0), .ref (ql 1)])), (l0, .inr (2, [.null, .null])), (l1, .inr (2, [.null, .null])), (l2, .inr (2, [.null, .null])), (l3, .inr (2, [.null, .null])), (l4, .inr (2, [.null, .null])), (l5, .inr (2, [.null, .null])), (l6, .inr (2, [.null, .null])), (l7, .inr (2, [.null, .null]))] := hD
  have hK : va_K (dC, dI) vwCl [(klc, .int), (kln, .object RX2)] s := hK
  refine lv_iinc (v := 8) (lv' := [(2, .int 8), (0, .ref h0), (1, .ref h1)]) hx hb dX1_open_75 hl (k := 0) rfl (by decide) (by decide) rfl (fun ls hl => ?_)
  refine lv_goto (tgt := 53) hx hb dX1_open_78 (by decide) ?_
  refine lv_iload_n hx hb dX1_open_53 rfl (lv_at hl 0 rfl) ?_
  refine lv_bipush (v := 8) hx hb dX1_open_54 (by decide) ?_
  refine lv_icmp_ge (tgt := 81) hx hb dX1_open_56 (by decide) (fun _ => ?_) (fun h => absurd (by decide) h)
  refine lv_aload_n hx hb dX1_open_81 rfl (lv_at hl 1 rfl) ?_
  refine va_get (D := (dC, dI)) (ci := 1) (v := .ref al) (C := RX1) (T := TX1) (N := 15) hx hb hts in_X1 hown hK hP 0 rfl rfl 10 (by decide) (hts _ wd_256) (fun _ h9 => h9) rfl dX1_open_82 ?_
  have hPc := hP.sub (ws' := [(al, .inr (2, [.null, .null]))]) [3] rfl
  have hDc := hD.sub (ws' := [(al, .inr (2, [.null, .null]))]) [3] (by decide) rfl
  have hKc := hK.sub (tys' := []) [] rfl
  have hFc := va_free (wc := [(al, .inr (2, [.null, .null]))]) hD hS hA [3] rfl
  refine va_callv (va_runV (As := []) (rest := []) ⟨hx, hb, hml, hown, hts⟩ (ct_X2_clear l dC dI al H.size) (cwV 0 hts (gd_V wd_470 wd_471 wd_472 wd_10 wd_473) rfl rfl rfl (by decide +kernel) ⟨Nat.le_of_ble_eq_true rfl, Nat.le_of_ble_eq_true rfl⟩) ⟨fun a U g mk q => by obtain ⟨q0, q1, qP, qK, qD⟩ := q; exact ⟨q0, q1, qP, va_K.moved (u := U) (U := U.calling g mk a) (Vm.Alike.refl U.vm) qK, qD⟩, va_recv hKc hPc (ci := 2) (q0 := 0) rfl rfl, fun U hU hW => ⟨rfl, by rw [hU], by rw [hU]; exact hPc, va_K.moved hW.alike hKc, hDc.weaken (fun _ _ _ _ => trivial)⟩⟩ rfl rfl hl.1 rfl (lv_room (Nat.le_of_ble_eq_true rfl)) dX1_open_85 ⟨Nat.le_of_ble_eq_true rfl, Nat.le_of_ble_eq_true rfl⟩) hS (fun q _ h => hFc q h) hFc (fun u t H1 locs ht hvm hw hB hz1 hk1 hS => ?_)
  obtain ⟨hP1, hK1, hD1⟩ := hB
  rw [ht] at hP1
  have hK1 := va_K.moved hvm.symm hK1
  obtain ⟨hP, hD⟩ := va_join (wr := [(h0, .inr (1, [.ref h1, .ref xt, .int 0, .int 0, .ref xr, .int 0, .int 0, .ref le, .ref lc, .ref ln, .ref al, .ref lo, .ref xg, .int 0, .null])), (lc, .inl (klc, 8, .inl (fun _ => 0))), (ln, .inl (kln, 8, .inr (.inr (.inr (.inr (fun i => [l0, l1, l2, l3, l4, l5, l6, l7][i]?)))))), (lo, .inr (0, [.int 0, .ref (ql 0), .ref (ql 1)])), (l0, .inr (2, [.null, .null])), (l1, .inr (2, [.null, .null])), (l2, .inr (2, [.null, .null])), (l3, .inr (2, [.null, .null])), (l4, .inr (2, [.null, .null])), (l5, .inr (2, [.null, .null])), (l6, .inr (2, [.null, .null])), (l7, .inr (2, [.null, .null]))]) (w1 := [(al, .inr (2, [.null, .null]))]) hP hD [3] [0, 1, 2, 4, 5, 6, 7, 8, 9, 10, 11, 12] rfl rfl (by decide) (by decide) hk1 hFc hP1 hD1
  have hK := (hK.sub (tys' := [(klc, .int), (kln, .object RX2)]) [0, 1] rfl).app (hK1.sub (tys' := []) [] rfl)
  generalize H1 = H at hP hS ⊢
  have hP : va_P (dC, dI) vwCl [(h0, .inr (1, [.ref h1, .ref xt, .int 0, .int 0, .ref xr, .int 0, .int 0, .ref le, .ref lc, .ref ln, .ref al, .ref lo, .ref xg, .int 0, .null])), (lc, .inl (klc, 8, .inl (fun _ => 0))), (ln, .inl (kln, 8, .inr (.inr (.inr (.inr (fun i => [l0, l1, l2, l3, l4, l5, l6, l7][i]?)))))), (lo, .inr (0, [.int 0, .ref (ql 0), .ref (ql 1)])), (l0, .inr (2, [.null, .null])), (l1, .inr (2, [.null, .null])), (l2, .inr (2, [.null, .null])), (l3, .inr (2, [.null, .null])), (l4, .inr (2, [.null, .null])), (l5, .inr (2, [.null, .null])), (l6, .inr (2, [.null, .null])), (l7, .inr (2, [.null, .null])), (al, .inr (2, [.null, .null]))] H := hP
  have hD : va_D A [(h0, .inr (1, [.ref h1, .ref xt, .int 0, .int 0, .ref xr, .int 0, .int 0, .ref le, .ref lc, .ref ln, .ref al, .ref lo, .ref xg, .int 0, .null])), (lc, .inl (klc, 8, .inl (fun _ => 0))), (ln, .inl (kln, 8, .inr (.inr (.inr (.inr (fun i => [l0, l1, l2, l3, l4, l5, l6, l7][i]?)))))), (lo, .inr (0, [.int 0, .ref (ql 0), .ref (ql 1)])), (l0, .inr (2, [.null, .null])), (l1, .inr (2, [.null, .null])), (l2, .inr (2, [.null, .null])), (l3, .inr (2, [.null, .null])), (l4, .inr (2, [.null, .null])), (l5, .inr (2, [.null, .null])), (l6, .inr (2, [.null, .null])), (l7, .inr (2, [.null, .null])), (al, .inr (2, [.null, .null]))] := hD
  have hK : va_K (dC, dI) vwCl [(klc, .int), (kln, .object RX2)] s := hK
  refine lv_aload_n hx hb dX1_open_88 rfl (lv_at hl 1 rfl) ?_
  refine va_get (D := (dC, dI)) (ci := 1) (v := .ref lo) (C := RX1) (T := TX1) (N := 15) hx hb hts in_X1 hown hK hP 0 rfl rfl 11 (by decide) (hts _ wd_257) (fun _ h9 => h9) rfl dX1_open_89 ?_
  have hPc := hP.sub (ws' := [(lo, .inr (0, [.int 0, .ref (ql 0), .ref (ql 1)]))]) [3] rfl
  have hDc := hD.sub (ws' := [(lo, .inr (0, [.int 0, .ref (ql 0), .ref (ql 1)]))]) [3] (by decide) rfl
  have hKc := hK.sub (tys' := []) [] rfl
  have hFc := va_free (wc := [(lo, .inr (0, [.int 0, .ref (ql 0), .ref (ql 1)]))]) hD hS hA [3] rfl
  refine va_callv (va_runV (As := []) (rest := []) ⟨hx, hb, hml, hown, hts⟩ (ct_X0_clear l dC dI lo ql H.size) (cwV 0 hts (gd_V wd_474 wd_475 wd_476 wd_11 wd_477) rfl rfl rfl (by decide +kernel) ⟨Nat.le_of_ble_eq_true rfl, Nat.le_of_ble_eq_true rfl⟩) ⟨fun a U g mk q => by obtain ⟨q0, q1, qP, qK, qD⟩ := q; exact ⟨q0, q1, qP, va_K.moved (u := U) (U := U.calling g mk a) (Vm.Alike.refl U.vm) qK, qD⟩, va_recv hKc hPc (ci := 0) (q0 := 0) rfl rfl, fun U hU hW => ⟨rfl, by rw [hU], by rw [hU]; exact hPc, va_K.moved hW.alike hKc, hDc.weaken (fun _ _ _ _ => trivial)⟩⟩ rfl rfl hl.1 rfl (lv_room (Nat.le_of_ble_eq_true rfl)) dX1_open_92 ⟨Nat.le_of_ble_eq_true rfl, Nat.le_of_ble_eq_true rfl⟩) hS (fun q _ h => hFc q h) hFc (fun u t H1 locs ht hvm hw hB hz1 hk1 hS => ?_)
  obtain ⟨hP1, hK1, hD1⟩ := hB
  rw [ht] at hP1
  have hK1 := va_K.moved hvm.symm hK1
  obtain ⟨hP, hD⟩ := va_join (wr := [(h0, .inr (1, [.ref h1, .ref xt, .int 0, .int 0, .ref xr, .int 0, .int 0, .ref le, .ref lc, .ref ln, .ref al, .ref lo, .ref xg, .int 0, .null])), (lc, .inl (klc, 8, .inl (fun _ => 0))), (ln, .inl (kln, 8, .inr (.inr (.inr (.inr (fun i => [l0, l1, l2, l3, l4, l5, l6, l7][i]?)))))), (l0, .inr (2, [.null, .null])), (l1, .inr (2, [.null, .null])), (l2, .inr (2, [.null, .null])), (l3, .inr (2, [.null, .null])), (l4, .inr (2, [.null, .null])), (l5, .inr (2, [.null, .null])), (l6, .inr (2, [.null, .null])), (l7, .inr (2, [.null, .null])), (al, .inr (2, [.null, .null]))]) (w1 := [(lo, .inr (0, [.int 0, .ref (ql 0), .ref (ql 1)]))]) hP hD [3] [0, 1, 2, 4, 5, 6, 7, 8, 9, 10, 11, 12] rfl rfl (by decide) (by decide) hk1 hFc hP1 hD1
  have hK := (hK.sub (tys' := [(klc, .int), (kln, .object RX2)]) [0, 1] rfl).app (hK1.sub (tys' := []) [] rfl)
  generalize H1 = H at hP hS ⊢
  have hP : va_P (dC, dI) vwCl [(h0, .inr (1, [.ref h1, .ref xt, .int 0, .int 0, .ref xr, .int 0, .int 0, .ref le, .ref lc, .ref ln, .ref al, .ref lo, .ref xg, .int 0, .null])), (lc, .inl (klc, 8, .inl (fun _ => 0))), (ln, .inl (kln, 8, .inr (.inr (.inr (.inr (fun i => [l0, l1, l2, l3, l4, l5, l6, l7][i]?)))))), (l0, .inr (2, [.null, .null])), (l1, .inr (2, [.null, .null])), (l2, .inr (2, [.null, .null])), (l3, .inr (2, [.null, .null])), (l4, .inr (2, [.null, .null])), (l5, .inr (2, [.null, .null])), (l6, .inr (2, [.null, .null])), (l7, .inr (2, [.null, .null])), (al, .inr (2, [.null, .null])), (lo, .inr (0, [.int 0, .ref (ql 0), .ref (ql 1)]))] H := hP
  have hD : va_D A [(h0, .inr (1, [.ref h1, .ref xt, .int 0, .int 0, .ref xr, .int 0, .int 0, .ref le, .ref lc, .ref ln, .ref al, .ref lo, .ref xg, .int 0, .null])), (lc, .inl (klc, 8, .inl (fun _ => 0))), (ln, .inl (kln, 8, .inr (.inr (.inr (.inr (fun i => [l0, l1, l2, l3, l4, l5, l6, l7][i]?)))))), (l0, .inr (2, [.null, .null])), (l1, .inr (2, [.null, .null])), (l2, .inr (2, [.null, .null])), (l3, .inr (2, [.null, .null])), (l4, .inr (2, [.null, .null])), (l5, .inr (2, [.null, .null])), (l6, .inr (2, [.null, .null])), (l7, .inr (2, [.null, .null])), (al, .inr (2, [.null, .null])), (lo, .inr (0, [.int 0, .ref (ql 0), .ref (ql 1)]))] := hD
  have hK : va_K (dC, dI) vwCl [(klc, .int), (kln, .object RX2)] s := hK
  have hP9 := hP.sub (ws' := [(h0, .inr (1, [.ref h1, .ref xt, .int 0, .int 0, .ref xr, .int 0, .int 0, .ref le, .ref lc, .ref ln, .ref al, .ref lo, .ref xg, .int 0, .null])), (lc, .inl (klc, 8, .inl (fun _ => 0))), (ln, .inl (kln, 8, .inr (.inr (.inr (.inr (fun i => [l0, l1, l2, l3, l4, l5, l6, l7][i]?)))))), (l0, .inr (2, [.null, .null])), (l1, .inr (2, [.null, .null])), (l2, .inr (2, [.null, .null])), (l3, .inr (2, [.null, .null])), (l4, .inr (2, [.null, .null])), (l5, .inr (2, [.null, .null])), (l6, .inr (2, [.null, .null])), (l7, .inr (2, [.null, .null])), (al, .inr (2, [.null, .null])), (lo, .inr (0, [.int 0, .ref (ql 0), .ref (ql 1)]))]) [0, 1, 2, 3, 4, 5, 6, 7, 8, 9, 10, 11, 12] rfl
  have hD9 := hD.sub (ws' := [(h0, .inr (1, [.ref h1, .ref xt, .int 0, .int 0, .ref xr, .int 0, .int 0, .ref le, .ref lc, .ref ln, .ref al, .ref lo, .ref xg, .int 0, .null])), (lc, .inl (klc, 8, .inl (fun _ => 0))), (ln, .inl (kln, 8, .inr (.inr (.inr (.inr (fun i => [l0, l1, l2, l3, l4, l5, l6, l7][i]?)))))), (l0, .inr (2, [.null, .null])), (l1, .inr (2, [.null, .null])), (l2, .inr (2, [.null, .null])), (l3, .inr (2, [.null, .null])), (l4, .inr (2, [.null, .null])), (l5, .inr (2, [.null, .null])), (l6, .inr (2, [.null, .null])), (l7, .inr (2, [.null, .null])), (al, .inr (2, [.null, .null])), (lo, .inr (0, [.int 0, .ref (ql 0), .ref (ql 1)]))]) [0, 1, 2, 3, 4, 5, 6, 7, 8, 9, 10, 11, 12] (by decide) rfl
  have hK9 := hK.sub (tys' := []) [] rfl
  refine W.widen (k := 0) (n := 0) (Nat.le_of_ble_eq_true rfl) (Nat.le_of_ble_eq_true rfl) ?_
  exact W.vret hx hb hr (fun t ht hW => ⟨⟨(), rfl, trivial, by rw [ht]; exact hP9, va_K.moved hW.alike hK9, hD9⟩, hS.F ht⟩) hS.2.2 dX1_open_95
end
section
theorem wd_2 : (Jvm.Cond.initialized "Sleepers$Tokens") ∈ tb := tb_at 2 (by decide +kernel) (by decide +kernel)
theorem wd_9 : (Jvm.Cond.initialized "Sleepers$Hall") ∈ tb := tb_at 9 (by decide +kernel) (by decide +kernel)
theorem wd_13 : (Jvm.Cond.initialized "Sleepers$Program") ∈ tb := tb_at 13 (by decide +kernel) (by decide +kernel)
theorem wd_94 : (Jvm.Cond.fieldLink "Sleepers$Tokens" (9 : Nat) "Sleepers$Tokens" "kind" "[I") ∈ tb := tb_at 94 (by decide +kernel) (by decide +kernel)
theorem wd_96 : (Jvm.Cond.fieldLink "Sleepers$Tokens" (15 : Nat) "Sleepers$Tokens" "place" "[I") ∈ tb := tb_at 96 (by decide +kernel) (by decide +kernel)
theorem wd_98 : (Jvm.Cond.fieldLink "Sleepers$Tokens" (18 : Nat) "Sleepers$Tokens" "value" "[J") ∈ tb := tb_at 98 (by decide +kernel) (by decide +kernel)
theorem wd_100 : (Jvm.Cond.fieldLink "Sleepers$Tokens" (49 : Nat) "Sleepers$Tokens" "count" "I") ∈ tb := tb_at 100 (by decide +kernel) (by decide +kernel)
theorem wd_103 : (Jvm.Cond.fieldLink "Sleepers$Tokens" (45 : Nat) "Sleepers$Tokens" "signs" "I") ∈ tb := tb_at 103 (by decide +kernel) (by decide +kernel)
theorem wd_527 : (Jvm.Cond.methodLink "Sleepers$Tokens" (71 : Nat) ({ cls := "Sleepers$Tokens", name := "keep", desc := "(IIJ)V" } : Jvm.MethodName)) ∈ tb := tb_at 527 (by decide +kernel) (by decide +kernel)
theorem wd_529 : (Jvm.Cond.instanceMethod ({ cls := "Sleepers$Tokens", name := "keep", desc := "(IIJ)V" } : Jvm.MethodName)) ∈ tb := tb_at 529 (by decide +kernel) (by decide +kernel)
theorem wd_530 : (Jvm.Cond.code ({ cls := "Sleepers$Tokens", name := "keep", desc := "(IIJ)V" } : Jvm.MethodName) prog_12_method_8_code (5 : Nat) (Option.none : Option Jvm.ClassFile.FieldType)) ∈ tb := tb_at 530 (by decide +kernel) (by decide +kernel)
theorem wd_648 : (Jvm.Cond.methodLink "Sleepers$Program" (63 : Nat) ({ cls := "Sleepers$Program", name := "has", desc := "(I)Z" } : Jvm.MethodName)) ∈ tb := tb_at 648 (by decide +kernel) (by decide +kernel)
theorem wd_649 : (Jvm.Cond.instanceMethod ({ cls := "Sleepers$Program", name := "has", desc := "(I)Z" } : Jvm.MethodName)) ∈ tb := tb_at 649 (by decide +kernel) (by decide +kernel)
theorem wd_650 : (Jvm.Cond.selects "Sleepers$Program" ({ cls := "Sleepers$Program", name := "has", desc := "(I)Z" } : Jvm.MethodName) ({ cls := "Sleepers$Program", name := "has", desc := "(I)Z" } : Jvm.MethodName)) ∈ tb := tb_at 650 (by decide +kernel) (by decide +kernel)
theorem wd_651 : (Jvm.Cond.code ({ cls := "Sleepers$Program", name := "has", desc := "(I)Z" } : Jvm.MethodName) prog_7_method_3_code (2 : Nat) (Option.some Jvm.ClassFile.FieldType.boolean)) ∈ tb := tb_at 651 (by decide +kernel) (by decide +kernel)
theorem wd_965 : (Jvm.Cond.methodLink "Sleepers$Runner" (26 : Nat) ({ cls := "Sleepers$Hall", name := "leaveRow", desc := "(I)LSleepers$Task;" } : Jvm.MethodName)) ∈ tb := tb_at 965 (by decide +kernel) (by decide +kernel)
theorem wd_966 : (Jvm.Cond.instanceMethod ({ cls := "Sleepers$Hall", name := "leaveRow", desc := "(I)LSleepers$Task;" } : Jvm.MethodName)) ∈ tb := tb_at 966 (by decide +kernel) (by decide +kernel)
theorem wd_967 : (Jvm.Cond.selects "Sleepers$Hall" ({ cls := "Sleepers$Hall", name := "leaveRow", desc := "(I)LSleepers$Task;" } : Jvm.MethodName) ({ cls := "Sleepers$Hall", name := "leaveRow", desc := "(I)LSleepers$Task;" } : Jvm.MethodName)) ∈ tb := tb_at 967 (by decide +kernel) (by decide +kernel)
theorem wd_968 : (Jvm.Cond.code ({ cls := "Sleepers$Hall", name := "leaveRow", desc := "(I)LSleepers$Task;" } : Jvm.MethodName) prog_3_method_7_code (4 : Nat) (Option.some (Jvm.ClassFile.FieldType.object "Sleepers$Task"))) ∈ tb := tb_at 968 (by decide +kernel) (by decide +kernel)
theorem wd_1240 : (Jvm.Cond.methodLink "Sleepers$Hall" (194 : Nat) ({ cls := "Sleepers$Hall", name := "has", desc := "(I)Z" } : Jvm.MethodName)) ∈ tb := tb_at 1240 (by decide +kernel) (by decide +kernel)
theorem wd_1241 : (Jvm.Cond.instanceMethod ({ cls := "Sleepers$Hall", name := "has", desc := "(I)Z" } : Jvm.MethodName)) ∈ tb := tb_at 1241 (by decide +kernel) (by decide +kernel)
theorem wd_1242 : (Jvm.Cond.selects "Sleepers$Hall" ({ cls := "Sleepers$Hall", name := "has", desc := "(I)Z" } : Jvm.MethodName) ({ cls := "Sleepers$Hall", name := "has", desc := "(I)Z" } : Jvm.MethodName)) ∈ tb := tb_at 1242 (by decide +kernel) (by decide +kernel)
theorem wd_1243 : (Jvm.Cond.code ({ cls := "Sleepers$Hall", name := "has", desc := "(I)Z" } : Jvm.MethodName) prog_3_method_3_code (2 : Nat) (Option.some Jvm.ClassFile.FieldType.boolean)) ∈ tb := tb_at 1243 (by decide +kernel) (by decide +kernel)
theorem sl_X10_keep : Cond.selects RX10 yX10_keep yX10_keep ∈ tb := sl_of (y := ⟨"Sleepers$Tokens", "keep", "(IIJ)V"⟩) (n := 7) (by decide +kernel) (by decide +kernel)
theorem dX0_tell_0 : decode cX0_tell 0 = .ok (.iload_n 1, 1) := by decide +kernel
theorem dX0_tell_1 : decode cX0_tell 1 = .ok (.ifCond .lt 27, 3) := by decide +kernel
theorem dX0_tell_4 : decode cX0_tell 4 = .ok (.iload_n 1, 1) := by decide +kernel
theorem dX0_tell_5 : decode cX0_tell 5 = .ok (.aload_n 0, 1) := by decide +kernel
theorem dX0_tell_6 : decode cX0_tell 6 = .ok (.getfield 18, 3) := by decide +kernel
theorem dX0_tell_9 : decode cX0_tell 9 = .ok (.if_icmp .ge 19, 3) := by decide +kernel
theorem dX0_tell_12 : decode cX0_tell 12 = .ok (.iload_n 1, 1) := by decide +kernel
theorem dX0_tell_13 : decode cX0_tell 13 = .ok (.sipush 300, 3) := by decide +kernel
theorem dX0_tell_16 : decode cX0_tell 16 = .ok (.if_icmp .ge 12, 3) := by decide +kernel
theorem dX0_tell_19 : decode cX0_tell 19 = .ok (.iload_n 2, 1) := by decide +kernel
theorem dX0_tell_20 : decode cX0_tell 20 = .ok (.ifCond .lt 8, 3) := by decide +kernel
theorem dX0_tell_23 : decode cX0_tell 23 = .ok (.iload_n 2, 1) := by decide +kernel
theorem dX0_tell_24 : decode cX0_tell 24 = .ok (.iconst 1, 1) := by decide +kernel
theorem dX0_tell_25 : decode cX0_tell 25 = .ok (.if_icmp .le 5, 3) := by decide +kernel
theorem dX0_tell_28 : decode cX0_tell 28 = .ok (.iconst (-1), 1) := by decide +kernel
theorem dX0_tell_29 : decode cX0_tell 29 = .ok (.ireturn, 1) := by decide +kernel
theorem dX0_tell_30 : decode cX0_tell 30 = .ok (.iload_n 2, 1) := by decide +kernel
theorem dX0_tell_31 : decode cX0_tell 31 = .ok (.ifCond .ne 12, 3) := by decide +kernel
theorem dX0_tell_34 : decode cX0_tell 34 = .ok (.aload_n 0, 1) := by decide +kernel
theorem dX0_tell_35 : decode cX0_tell 35 = .ok (.getfield 9, 3) := by decide +kernel
theorem dX0_tell_38 : decode cX0_tell 38 = .ok (.iload_n 1, 1) := by decide +kernel
theorem dX0_tell_39 : decode cX0_tell 39 = .ok (.iaload, 1) := by decide +kernel
theorem dX0_tell_40 : decode cX0_tell 40 = .ok (.goto 9, 3) := by decide +kernel
theorem dX0_tell_43 : decode cX0_tell 43 = .ok (.aload_n 0, 1) := by decide +kernel
theorem dX0_tell_44 : decode cX0_tell 44 = .ok (.getfield 15, 3) := by decide +kernel
theorem dX0_tell_47 : decode cX0_tell 47 = .ok (.iload_n 1, 1) := by decide +kernel
theorem dX0_tell_48 : decode cX0_tell 48 = .ok (.iaload, 1) := by decide +kernel
theorem dX0_tell_49 : decode cX0_tell 49 = .ok (.ireturn, 1) := by decide +kernel
theorem dX10_keep_0 : decode cX10_keep 0 = .ok (.aload_n 0, 1) := by decide +kernel
theorem dX10_keep_1 : decode cX10_keep 1 = .ok (.getfield 49, 3) := by decide +kernel
theorem dX10_keep_4 : decode cX10_keep 4 = .ok (.sipush 4001, 3) := by decide +kernel
theorem dX10_keep_7 : decode cX10_keep 7 = .ok (.if_icmp .ge 43, 3) := by decide +kernel
theorem dX10_keep_10 : decode cX10_keep 10 = .ok (.aload_n 0, 1) := by decide +kernel
theorem dX10_keep_11 : decode cX10_keep 11 = .ok (.getfield 9, 3) := by decide +kernel
theorem dX10_keep_14 : decode cX10_keep 14 = .ok (.aload_n 0, 1) := by decide +kernel
theorem dX10_keep_15 : decode cX10_keep 15 = .ok (.getfield 49, 3) := by decide +kernel
theorem dX10_keep_18 : decode cX10_keep 18 = .ok (.iload_n 1, 1) := by decide +kernel
theorem dX10_keep_19 : decode cX10_keep 19 = .ok (.iastore, 1) := by decide +kernel
theorem dX10_keep_20 : decode cX10_keep 20 = .ok (.aload_n 0, 1) := by decide +kernel
theorem dX10_keep_21 : decode cX10_keep 21 = .ok (.getfield 15, 3) := by decide +kernel
theorem dX10_keep_24 : decode cX10_keep 24 = .ok (.aload_n 0, 1) := by decide +kernel
theorem dX10_keep_25 : decode cX10_keep 25 = .ok (.getfield 49, 3) := by decide +kernel
theorem dX10_keep_28 : decode cX10_keep 28 = .ok (.iload_n 2, 1) := by decide +kernel
theorem dX10_keep_29 : decode cX10_keep 29 = .ok (.iastore, 1) := by decide +kernel
theorem dX10_keep_30 : decode cX10_keep 30 = .ok (.aload_n 0, 1) := by decide +kernel
theorem dX10_keep_31 : decode cX10_keep 31 = .ok (.getfield 18, 3) := by decide +kernel
theorem dX10_keep_34 : decode cX10_keep 34 = .ok (.aload_n 0, 1) := by decide +kernel
theorem dX10_keep_35 : decode cX10_keep 35 = .ok (.getfield 49, 3) := by decide +kernel
theorem dX10_keep_38 : decode cX10_keep 38 = .ok (.lload_n 3, 1) := by decide +kernel
theorem dX10_keep_39 : decode cX10_keep 39 = .ok (.lastore, 1) := by decide +kernel
theorem dX10_keep_40 : decode cX10_keep 40 = .ok (.aload_n 0, 1) := by decide +kernel
theorem dX10_keep_41 : decode cX10_keep 41 = .ok (.dup, 1) := by decide +kernel
theorem dX10_keep_42 : decode cX10_keep 42 = .ok (.getfield 49, 3) := by decide +kernel
theorem dX10_keep_45 : decode cX10_keep 45 = .ok (.iconst 1, 1) := by decide +kernel
theorem dX10_keep_46 : decode cX10_keep 46 = .ok (.iadd, 1) := by decide +kernel
theorem dX10_keep_47 : decode cX10_keep 47 = .ok (.putfield 49, 3) := by decide +kernel
theorem dX10_keep_50 : decode cX10_keep 50 = .ok (.return_, 1) := by decide +kernel
theorem dX10_onlyWord_0 : decode cX10_onlyWord 0 = .ok (.aload_n 0, 1) := by decide +kernel
theorem dX10_onlyWord_1 : decode cX10_onlyWord 1 = .ok (.getfield 49, 3) := by decide +kernel
theorem dX10_onlyWord_4 : decode cX10_onlyWord 4 = .ok (.iconst 2, 1) := by decide +kernel
theorem dX10_onlyWord_5 : decode cX10_onlyWord 5 = .ok (.if_icmp .ne 22, 3) := by decide +kernel
theorem dX10_onlyWord_8 : decode cX10_onlyWord 8 = .ok (.aload_n 0, 1) := by decide +kernel
theorem dX10_onlyWord_9 : decode cX10_onlyWord 9 = .ok (.getfield 9, 3) := by decide +kernel
theorem dX10_onlyWord_12 : decode cX10_onlyWord 12 = .ok (.iconst 0, 1) := by decide +kernel
theorem dX10_onlyWord_13 : decode cX10_onlyWord 13 = .ok (.iaload, 1) := by decide +kernel
theorem dX10_onlyWord_14 : decode cX10_onlyWord 14 = .ok (.iconst 3, 1) := by decide +kernel
theorem dX10_onlyWord_15 : decode cX10_onlyWord 15 = .ok (.if_icmp .ne 12, 3) := by decide +kernel
theorem dX10_onlyWord_18 : decode cX10_onlyWord 18 = .ok (.aload_n 0, 1) := by decide +kernel
theorem dX10_onlyWord_19 : decode cX10_onlyWord 19 = .ok (.getfield 18, 3) := by decide +kernel
theorem dX10_onlyWord_22 : decode cX10_onlyWord 22 = .ok (.iconst 0, 1) := by decide +kernel
theorem dX10_onlyWord_23 : decode cX10_onlyWord 23 = .ok (.laload, 1) := by decide +kernel
theorem dX10_onlyWord_24 : decode cX10_onlyWord 24 = .ok (.goto 4, 3) := by decide +kernel
theorem dX10_onlyWord_27 : decode cX10_onlyWord 27 = .ok (.lconst 0, 1) := by decide +kernel
theorem dX10_onlyWord_28 : decode cX10_onlyWord 28 = .ok (.lreturn, 1) := by decide +kernel
theorem dX10_read_0 : decode cX10_read 0 = .ok (.aload_n 0, 1) := by decide +kernel
theorem dX10_read_1 : decode cX10_read 1 = .ok (.iconst 0, 1) := by decide +kernel
theorem dX10_read_2 : decode cX10_read 2 = .ok (.putfield 49, 3) := by decide +kernel
theorem dX10_read_5 : decode cX10_read 5 = .ok (.iconst 0, 1) := by decide +kernel
theorem dX10_read_6 : decode cX10_read 6 = .ok (.istore_n 1, 1) := by decide +kernel
theorem dX10_read_7 : decode cX10_read 7 = .ok (.iconst 0, 1) := by decide +kernel
theorem dX10_read_8 : decode cX10_read 8 = .ok (.istore_n 2, 1) := by decide +kernel
theorem dX10_read_9 : decode cX10_read 9 = .ok (.iload_n 2, 1) := by decide +kernel
theorem dX10_read_10 : decode cX10_read 10 = .ok (.sipush 4000, 3) := by decide +kernel
theorem dX10_read_13 : decode cX10_read 13 = .ok (.if_icmp .ge 91, 3) := by decide +kernel
theorem dX10_read_16 : decode cX10_read 16 = .ok (.iload_n 1, 1) := by decide +kernel
theorem dX10_read_17 : decode cX10_read 17 = .ok (.aload_n 0, 1) := by decide +kernel
theorem dX10_read_18 : decode cX10_read 18 = .ok (.getfield 45, 3) := by decide +kernel
theorem dX10_read_21 : decode cX10_read 21 = .ok (.if_icmp .ge 83, 3) := by decide +kernel
theorem dX10_read_24 : decode cX10_read 24 = .ok (.aload_n 0, 1) := by decide +kernel
theorem dX10_read_25 : decode cX10_read 25 = .ok (.getfield 22, 3) := by decide +kernel
theorem dX10_read_28 : decode cX10_read 28 = .ok (.iload_n 1, 1) := by decide +kernel
theorem dX10_read_29 : decode cX10_read 29 = .ok (.caload, 1) := by decide +kernel
theorem dX10_read_30 : decode cX10_read 30 = .ok (.istore_n 3, 1) := by decide +kernel
theorem dX10_read_31 : decode cX10_read 31 = .ok (.iload_n 3, 1) := by decide +kernel
theorem dX10_read_32 : decode cX10_read 32 = .ok (.invokestatic 52, 3) := by decide +kernel
theorem dX10_read_35 : decode cX10_read 35 = .ok (.ifCond .eq 12, 3) := by decide +kernel
theorem dX10_read_38 : decode cX10_read 38 = .ok (.aload_n 0, 1) := by decide +kernel
theorem dX10_read_39 : decode cX10_read 39 = .ok (.iload_n 1, 1) := by decide +kernel
theorem dX10_read_40 : decode cX10_read 40 = .ok (.invokevirtual 56, 3) := by decide +kernel
theorem dX10_read_43 : decode cX10_read 43 = .ok (.istore_n 1, 1) := by decide +kernel
theorem dX10_read_44 : decode cX10_read 44 = .ok (.goto 54, 3) := by decide +kernel
theorem dX10_read_47 : decode cX10_read 47 = .ok (.iload_n 3, 1) := by decide +kernel
theorem dX10_read_48 : decode cX10_read 48 = .ok (.invokestatic 60, 3) := by decide +kernel
theorem dX10_read_51 : decode cX10_read 51 = .ok (.ifCond .eq 12, 3) := by decide +kernel
theorem dX10_read_54 : decode cX10_read 54 = .ok (.aload_n 0, 1) := by decide +kernel
theorem dX10_read_55 : decode cX10_read 55 = .ok (.iload_n 1, 1) := by decide +kernel
theorem dX10_read_56 : decode cX10_read 56 = .ok (.invokevirtual 63, 3) := by decide +kernel
theorem dX10_read_59 : decode cX10_read 59 = .ok (.istore_n 1, 1) := by decide +kernel
theorem dX10_read_60 : decode cX10_read 60 = .ok (.goto 38, 3) := by decide +kernel
theorem dX10_read_63 : decode cX10_read 63 = .ok (.iload_n 3, 1) := by decide +kernel
theorem dX10_read_64 : decode cX10_read 64 = .ok (.bipush 32, 2) := by decide +kernel
theorem dX10_read_66 : decode cX10_read 66 = .ok (.if_icmp .eq 29, 3) := by decide +kernel
theorem dX10_read_69 : decode cX10_read 69 = .ok (.iload_n 3, 1) := by decide +kernel
theorem dX10_read_70 : decode cX10_read 70 = .ok (.bipush 10, 2) := by decide +kernel
theorem dX10_read_72 : decode cX10_read 72 = .ok (.if_icmp .eq 23, 3) := by decide +kernel
theorem dX10_read_75 : decode cX10_read 75 = .ok (.aload_n 0, 1) := by decide +kernel
theorem dX10_read_76 : decode cX10_read 76 = .ok (.ldc 66, 2) := by decide +kernel
theorem dX10_read_78 : decode cX10_read 78 = .ok (.iload_n 3, 1) := by decide +kernel
theorem dX10_read_79 : decode cX10_read 79 = .ok (.invokevirtual 68, 3) := by decide +kernel
theorem dX10_read_82 : decode cX10_read 82 = .ok (.ifCond .ge 7, 3) := by decide +kernel
theorem dX10_read_85 : decode cX10_read 85 = .ok (.iconst 1, 1) := by decide +kernel
theorem dX10_read_86 : decode cX10_read 86 = .ok (.goto 4, 3) := by decide +kernel
theorem dX10_read_89 : decode cX10_read 89 = .ok (.iload_n 3, 1) := by decide +kernel
theorem dX10_read_90 : decode cX10_read 90 = .ok (.iload_n 1, 1) := by decide +kernel
theorem dX10_read_91 : decode cX10_read 91 = .ok (.lconst 0, 1) := by decide +kernel
theorem dX10_read_92 : decode cX10_read 92 = .ok (.invokevirtual 71, 3) := by decide +kernel
theorem dX10_read_95 : decode cX10_read 95 = .ok (.iinc 1 1, 3) := by decide +kernel
theorem dX10_read_98 : decode cX10_read 98 = .ok (.iinc 2 1, 3) := by decide +kernel
theorem dX10_read_101 : decode cX10_read 101 = .ok (.goto (-92), 3) := by decide +kernel
theorem dX10_read_104 : decode cX10_read 104 = .ok (.aload_n 0, 1) := by decide +kernel
theorem dX10_read_105 : decode cX10_read 105 = .ok (.iconst 0, 1) := by decide +kernel
theorem dX10_read_106 : decode cX10_read 106 = .ok (.aload_n 0, 1) := by decide +kernel
theorem dX10_read_107 : decode cX10_read 107 = .ok (.getfield 45, 3) := by decide +kernel
theorem dX10_read_110 : decode cX10_read 110 = .ok (.lconst 0, 1) := by decide +kernel
theorem dX10_read_111 : decode cX10_read 111 = .ok (.invokevirtual 71, 3) := by decide +kernel
theorem dX10_read_114 : decode cX10_read 114 = .ok (.aload_n 0, 1) := by decide +kernel
theorem dX10_read_115 : decode cX10_read 115 = .ok (.iconst 0, 1) := by decide +kernel
theorem dX10_read_116 : decode cX10_read 116 = .ok (.putfield 45, 3) := by decide +kernel
theorem dX10_read_119 : decode cX10_read 119 = .ok (.return_, 1) := by decide +kernel
theorem dX1_callOff_0 : decode cX1_callOff 0 = .ok (.aload_n 0, 1) := by decide +kernel
theorem dX1_callOff_1 : decode cX1_callOff 1 = .ok (.iload_n 1, 1) := by decide +kernel
theorem dX1_callOff_2 : decode cX1_callOff 2 = .ok (.invokevirtual 194, 3) := by decide +kernel
theorem dX1_callOff_5 : decode cX1_callOff 5 = .ok (.ifCond .eq 28, 3) := by decide +kernel
theorem dX1_callOff_8 : decode cX1_callOff 8 = .ok (.aload_n 0, 1) := by decide +kernel
theorem dX1_callOff_9 : decode cX1_callOff 9 = .ok (.getfield 11, 3) := by decide +kernel
theorem dX1_callOff_12 : decode cX1_callOff 12 = .ok (.iload_n 1, 1) := by decide +kernel
theorem dX1_callOff_13 : decode cX1_callOff 13 = .ok (.aaload, 1) := by decide +kernel
theorem dX1_callOff_14 : decode cX1_callOff 14 = .ok (.getfield 128, 3) := by decide +kernel
theorem dX1_callOff_17 : decode cX1_callOff 17 = .ok (.iconst 3, 1) := by decide +kernel
theorem dX1_callOff_18 : decode cX1_callOff 18 = .ok (.if_icmp .eq 15, 3) := by decide +kernel
theorem dX1_callOff_21 : decode cX1_callOff 21 = .ok (.aload_n 0, 1) := by decide +kernel
theorem dX1_callOff_22 : decode cX1_callOff 22 = .ok (.getfield 11, 3) := by decide +kernel
theorem dX1_callOff_25 : decode cX1_callOff 25 = .ok (.iload_n 1, 1) := by decide +kernel
theorem dX1_callOff_26 : decode cX1_callOff 26 = .ok (.aaload, 1) := by decide +kernel
theorem dX1_callOff_27 : decode cX1_callOff 27 = .ok (.getfield 99, 3) := by decide +kernel
theorem dX1_callOff_30 : decode cX1_callOff 30 = .ok (.ifCond .eq 5, 3) := by decide +kernel
theorem dX1_callOff_33 : decode cX1_callOff 33 = .ok (.iconst 0, 1) := by decide +kernel
theorem dX1_callOff_34 : decode cX1_callOff 34 = .ok (.ireturn, 1) := by decide +kernel
theorem dX1_callOff_35 : decode cX1_callOff 35 = .ok (.aload_n 0, 1) := by decide +kernel
theorem dX1_callOff_36 : decode cX1_callOff 36 = .ok (.getfield 11, 3) := by decide +kernel
theorem dX1_callOff_39 : decode cX1_callOff 39 = .ok (.iload_n 1, 1) := by decide +kernel
theorem dX1_callOff_40 : decode cX1_callOff 40 = .ok (.aaload, 1) := by decide +kernel
theorem dX1_callOff_41 : decode cX1_callOff 41 = .ok (.astore_n 2, 1) := by decide +kernel
theorem dX1_callOff_42 : decode cX1_callOff 42 = .ok (.aload_n 0, 1) := by decide +kernel
theorem dX1_callOff_43 : decode cX1_callOff 43 = .ok (.iload_n 1, 1) := by decide +kernel
theorem dX1_callOff_44 : decode cX1_callOff 44 = .ok (.invokevirtual 198, 3) := by decide +kernel
theorem dX1_callOff_47 : decode cX1_callOff 47 = .ok (.aload_n 0, 1) := by decide +kernel
theorem dX1_callOff_48 : decode cX1_callOff 48 = .ok (.invokevirtual 190, 3) := by decide +kernel
theorem dX1_callOff_51 : decode cX1_callOff 51 = .ok (.aload_n 2, 1) := by decide +kernel
theorem dX1_callOff_52 : decode cX1_callOff 52 = .ok (.getfield 128, 3) := by decide +kernel
theorem dX1_callOff_55 : decode cX1_callOff 55 = .ok (.iconst 3, 1) := by decide +kernel
theorem dX1_callOff_56 : decode cX1_callOff 56 = .ok (.if_icmp .ne 12, 3) := by decide +kernel
theorem dX1_callOff_59 : decode cX1_callOff 59 = .ok (.aload_n 0, 1) := by decide +kernel
theorem dX1_callOff_60 : decode cX1_callOff 60 = .ok (.aload_n 2, 1) := by decide +kernel
theorem dX1_callOff_61 : decode cX1_callOff 61 = .ok (.invokevirtual 201, 3) := by decide +kernel
theorem dX1_callOff_64 : decode cX1_callOff 64 = .ok (.aload_n 0, 1) := by decide +kernel
theorem dX1_callOff_65 : decode cX1_callOff 65 = .ok (.invokevirtual 190, 3) := by decide +kernel
theorem dX1_callOff_68 : decode cX1_callOff 68 = .ok (.iconst 1, 1) := by decide +kernel
theorem dX1_callOff_69 : decode cX1_callOff 69 = .ok (.ireturn, 1) := by decide +kernel
theorem dX1_has_0 : decode cX1_has 0 = .ok (.iload_n 1, 1) := by decide +kernel
theorem dX1_has_1 : decode cX1_has 1 = .ok (.ifCond .lt 15, 3) := by decide +kernel
theorem dX1_has_4 : decode cX1_has 4 = .ok (.iload_n 1, 1) := by decide +kernel
theorem dX1_has_5 : decode cX1_has 5 = .ok (.aload_n 0, 1) := by decide +kernel
theorem dX1_has_6 : decode cX1_has 6 = .ok (.getfield 52, 3) := by decide +kernel
theorem dX1_has_9 : decode cX1_has 9 = .ok (.if_icmp .ge 7, 3) := by decide +kernel
theorem dX1_has_12 : decode cX1_has 12 = .ok (.iconst 1, 1) := by decide +kernel
theorem dX1_has_13 : decode cX1_has 13 = .ok (.goto 4, 3) := by decide +kernel
theorem dX1_has_16 : decode cX1_has 16 = .ok (.iconst 0, 1) := by decide +kernel
theorem dX1_has_17 : decode cX1_has 17 = .ok (.ireturn, 1) := by decide +kernel
theorem dX1_leaveRow_0 : decode cX1_leaveRow 0 = .ok (.iload_n 1, 1) := by decide +kernel
theorem dX1_leaveRow_1 : decode cX1_leaveRow 1 = .ok (.ifCond .lt 11, 3) := by decide +kernel
theorem dX1_leaveRow_4 : decode cX1_leaveRow 4 = .ok (.iload_n 1, 1) := by decide +kernel
theorem dX1_leaveRow_5 : decode cX1_leaveRow 5 = .ok (.aload_n 0, 1) := by decide +kernel
theorem dX1_leaveRow_6 : decode cX1_leaveRow 6 = .ok (.getfield 63, 3) := by decide +kernel
theorem dX1_leaveRow_9 : decode cX1_leaveRow 9 = .ok (.if_icmp .lt 5, 3) := by decide +kernel
theorem dX1_leaveRow_12 : decode cX1_leaveRow 12 = .ok (.aconst_null, 1) := by decide +kernel
theorem dX1_leaveRow_13 : decode cX1_leaveRow 13 = .ok (.areturn, 1) := by decide +kernel
theorem dX1_leaveRow_14 : decode cX1_leaveRow 14 = .ok (.aload_n 0, 1) := by decide +kernel
theorem dX1_leaveRow_15 : decode cX1_leaveRow 15 = .ok (.getfield 11, 3) := by decide +kernel
theorem dX1_leaveRow_18 : decode cX1_leaveRow 18 = .ok (.aload_n 0, 1) := by decide +kernel
theorem dX1_leaveRow_19 : decode cX1_leaveRow 19 = .ok (.getfield 17, 3) := by decide +kernel
theorem dX1_leaveRow_22 : decode cX1_leaveRow 22 = .ok (.iload_n 1, 1) := by decide +kernel
theorem dX1_leaveRow_23 : decode cX1_leaveRow 23 = .ok (.iaload, 1) := by decide +kernel
theorem dX1_leaveRow_24 : decode cX1_leaveRow 24 = .ok (.aaload, 1) := by decide +kernel
theorem dX1_leaveRow_25 : decode cX1_leaveRow 25 = .ok (.astore_n 2, 1) := by decide +kernel
theorem dX1_leaveRow_26 : decode cX1_leaveRow 26 = .ok (.aload_n 0, 1) := by decide +kernel
theorem dX1_leaveRow_27 : decode cX1_leaveRow 27 = .ok (.dup, 1) := by decide +kernel
theorem dX1_leaveRow_28 : decode cX1_leaveRow 28 = .ok (.getfield 63, 3) := by decide +kernel
theorem dX1_leaveRow_31 : decode cX1_leaveRow 31 = .ok (.iconst 1, 1) := by decide +kernel
theorem dX1_leaveRow_32 : decode cX1_leaveRow 32 = .ok (.isub, 1) := by decide +kernel
theorem dX1_leaveRow_33 : decode cX1_leaveRow 33 = .ok (.putfield 63, 3) := by decide +kernel
theorem dX1_leaveRow_36 : decode cX1_leaveRow 36 = .ok (.iload_n 1, 1) := by decide +kernel
theorem dX1_leaveRow_37 : decode cX1_leaveRow 37 = .ok (.istore_n 3, 1) := by decide +kernel
theorem dX1_leaveRow_38 : decode cX1_leaveRow 38 = .ok (.iload_n 3, 1) := by decide +kernel
theorem dX1_leaveRow_39 : decode cX1_leaveRow 39 = .ok (.aload_n 0, 1) := by decide +kernel
theorem dX1_leaveRow_40 : decode cX1_leaveRow 40 = .ok (.getfield 63, 3) := by decide +kernel
theorem dX1_leaveRow_43 : decode cX1_leaveRow 43 = .ok (.if_icmp .ge 23, 3) := by decide +kernel
theorem dX1_leaveRow_46 : decode cX1_leaveRow 46 = .ok (.aload_n 0, 1) := by decide +kernel
theorem dX1_leaveRow_47 : decode cX1_leaveRow 47 = .ok (.getfield 17, 3) := by decide +kernel
theorem dX1_leaveRow_50 : decode cX1_leaveRow 50 = .ok (.iload_n 3, 1) := by decide +kernel
theorem dX1_leaveRow_51 : decode cX1_leaveRow 51 = .ok (.aload_n 0, 1) := by decide +kernel
theorem dX1_leaveRow_52 : decode cX1_leaveRow 52 = .ok (.getfield 17, 3) := by decide +kernel
theorem dX1_leaveRow_55 : decode cX1_leaveRow 55 = .ok (.iload_n 3, 1) := by decide +kernel
theorem dX1_leaveRow_56 : decode cX1_leaveRow 56 = .ok (.iconst 1, 1) := by decide +kernel
theorem dX1_leaveRow_57 : decode cX1_leaveRow 57 = .ok (.iadd, 1) := by decide +kernel
theorem dX1_leaveRow_58 : decode cX1_leaveRow 58 = .ok (.iaload, 1) := by decide +kernel
theorem dX1_leaveRow_59 : decode cX1_leaveRow 59 = .ok (.iastore, 1) := by decide +kernel
theorem dX1_leaveRow_60 : decode cX1_leaveRow 60 = .ok (.iinc 3 1, 3) := by decide +kernel
theorem dX1_leaveRow_63 : decode cX1_leaveRow 63 = .ok (.goto (-25), 3) := by decide +kernel
theorem dX1_leaveRow_66 : decode cX1_leaveRow 66 = .ok (.aload_n 2, 1) := by decide +kernel
theorem dX1_leaveRow_67 : decode cX1_leaveRow 67 = .ok (.areturn, 1) := by decide +kernel
theorem dX1_lettersLying_0 : decode cX1_lettersLying 0 = .ok (.iconst 0, 1) := by decide +kernel
theorem dX1_lettersLying_1 : decode cX1_lettersLying 1 = .ok (.istore_n 1, 1) := by decide +kernel
theorem dX1_lettersLying_2 : decode cX1_lettersLying 2 = .ok (.iconst 0, 1) := by decide +kernel
theorem dX1_lettersLying_3 : decode cX1_lettersLying 3 = .ok (.istore_n 2, 1) := by decide +kernel
theorem dX1_lettersLying_4 : decode cX1_lettersLying 4 = .ok (.iload_n 2, 1) := by decide +kernel
theorem dX1_lettersLying_5 : decode cX1_lettersLying 5 = .ok (.bipush 8, 2) := by decide +kernel
theorem dX1_lettersLying_7 : decode cX1_lettersLying 7 = .ok (.if_icmp .ge 18, 3) := by decide +kernel
theorem dX1_lettersLying_10 : decode cX1_lettersLying 10 = .ok (.iload_n 1, 1) := by decide +kernel
theorem dX1_lettersLying_11 : decode cX1_lettersLying 11 = .ok (.aload_n 0, 1) := by decide +kernel
theorem dX1_lettersLying_12 : decode cX1_lettersLying 12 = .ok (.getfield 24, 3) := by decide +kernel
theorem dX1_lettersLying_15 : decode cX1_lettersLying 15 = .ok (.iload_n 2, 1) := by decide +kernel
theorem dX1_lettersLying_16 : decode cX1_lettersLying 16 = .ok (.iaload, 1) := by decide +kernel
theorem dX1_lettersLying_17 : decode cX1_lettersLying 17 = .ok (.iadd, 1) := by decide +kernel
theorem dX1_lettersLying_18 : decode cX1_lettersLying 18 = .ok (.istore_n 1, 1) := by decide +kernel
theorem dX1_lettersLying_19 : decode cX1_lettersLying 19 = .ok (.iinc 2 1, 3) := by decide +kernel
theorem dX1_lettersLying_22 : decode cX1_lettersLying 22 = .ok (.goto (-18), 3) := by decide +kernel
theorem dX1_lettersLying_25 : decode cX1_lettersLying 25 = .ok (.iload_n 1, 1) := by decide +kernel
theorem dX1_lettersLying_26 : decode cX1_lettersLying 26 = .ok (.ireturn, 1) := by decide +kernel
theorem dX2_taskAt_0 : decode cX2_taskAt 0 = .ok (.iload_n 1, 1) := by decide +kernel
theorem dX2_taskAt_1 : decode cX2_taskAt 1 = .ok (.ifCond .ge 7, 3) := by decide +kernel
theorem dX2_taskAt_4 : decode cX2_taskAt 4 = .ok (.aconst_null, 1) := by decide +kernel
theorem dX2_taskAt_5 : decode cX2_taskAt 5 = .ok (.goto 7, 3) := by decide +kernel
theorem dX2_taskAt_8 : decode cX2_taskAt 8 = .ok (.aload_n 0, 1) := by decide +kernel
theorem dX2_taskAt_9 : decode cX2_taskAt 9 = .ok (.getfield 24, 3) := by decide +kernel
theorem dX2_taskAt_12 : decode cX2_taskAt 12 = .ok (.astore_n 2, 1) := by decide +kernel
theorem dX2_taskAt_13 : decode cX2_taskAt 13 = .ok (.iconst 0, 1) := by decide +kernel
theorem dX2_taskAt_14 : decode cX2_taskAt 14 = .ok (.istore_n 3, 1) := by decide +kernel
theorem dX2_taskAt_15 : decode cX2_taskAt 15 = .ok (.iload_n 3, 1) := by decide +kernel
theorem dX2_taskAt_16 : decode cX2_taskAt 16 = .ok (.iload_n 1, 1) := by decide +kernel
theorem dX2_taskAt_17 : decode cX2_taskAt 17 = .ok (.if_icmp .ge 18, 3) := by decide +kernel
theorem dX2_taskAt_20 : decode cX2_taskAt 20 = .ok (.aload_n 2, 1) := by decide +kernel
theorem dX2_taskAt_21 : decode cX2_taskAt 21 = .ok (.ifnull 14, 3) := by decide +kernel
theorem dX2_taskAt_24 : decode cX2_taskAt 24 = .ok (.aload_n 2, 1) := by decide +kernel
theorem dX2_taskAt_25 : decode cX2_taskAt 25 = .ok (.getfield 27, 3) := by decide +kernel
theorem dX2_taskAt_28 : decode cX2_taskAt 28 = .ok (.astore_n 2, 1) := by decide +kernel
theorem dX2_taskAt_29 : decode cX2_taskAt 29 = .ok (.iinc 3 1, 3) := by decide +kernel
theorem dX2_taskAt_32 : decode cX2_taskAt 32 = .ok (.goto (-17), 3) := by decide +kernel
theorem dX2_taskAt_35 : decode cX2_taskAt 35 = .ok (.aload_n 2, 1) := by decide +kernel
theorem dX2_taskAt_36 : decode cX2_taskAt 36 = .ok (.ifnonnull 7, 3) := by decide +kernel
theorem dX2_taskAt_39 : decode cX2_taskAt 39 = .ok (.iconst (-1), 1) := by decide +kernel
theorem dX2_taskAt_40 : decode cX2_taskAt 40 = .ok (.goto 10, 3) := by decide +kernel
theorem dX2_taskAt_43 : decode cX2_taskAt 43 = .ok (.aload_n 2, 1) := by decide +kernel
theorem dX2_taskAt_44 : decode cX2_taskAt 44 = .ok (.getfield 34, 3) := by decide +kernel
theorem dX2_taskAt_47 : decode cX2_taskAt 47 = .ok (.getfield 38, 3) := by decide +kernel
theorem dX2_taskAt_50 : decode cX2_taskAt 50 = .ok (.ireturn, 1) := by decide +kernel
theorem dX5_has_0 : decode cX5_has 0 = .ok (.iload_n 1, 1) := by decide +kernel
theorem dX5_has_1 : decode cX5_has 1 = .ok (.ifCond .lt 15, 3) := by decide +kernel
theorem dX5_has_4 : decode cX5_has 4 = .ok (.iload_n 1, 1) := by decide +kernel
theorem dX5_has_5 : decode cX5_has 5 = .ok (.aload_n 0, 1) := by decide +kernel
theorem dX5_has_6 : decode cX5_has 6 = .ok (.getfield 57, 3) := by decide +kernel
theorem dX5_has_9 : decode cX5_has 9 = .ok (.if_icmp .ge 7, 3) := by decide +kernel
theorem dX5_has_12 : decode cX5_has 12 = .ok (.iconst 1, 1) := by decide +kernel
theorem dX5_has_13 : decode cX5_has 13 = .ok (.goto 4, 3) := by decide +kernel
theorem dX5_has_16 : decode cX5_has 16 = .ok (.iconst 0, 1) := by decide +kernel
theorem dX5_has_17 : decode cX5_has 17 = .ok (.ireturn, 1) := by decide +kernel
theorem dX5_hasState_0 : decode cX5_hasState 0 = .ok (.aload_n 0, 1) := by decide +kernel
theorem dX5_hasState_1 : decode cX5_hasState 1 = .ok (.iload_n 1, 1) := by decide +kernel
theorem dX5_hasState_2 : decode cX5_hasState 2 = .ok (.invokevirtual 63, 3) := by decide +kernel
theorem dX5_hasState_5 : decode cX5_hasState 5 = .ok (.ifCond .eq 21, 3) := by decide +kernel
theorem dX5_hasState_8 : decode cX5_hasState 8 = .ok (.iload_n 2, 1) := by decide +kernel
theorem dX5_hasState_9 : decode cX5_hasState 9 = .ok (.ifCond .lt 17, 3) := by decide +kernel
theorem dX5_hasState_12 : decode cX5_hasState 12 = .ok (.iload_n 2, 1) := by decide +kernel
theorem dX5_hasState_13 : decode cX5_hasState 13 = .ok (.aload_n 0, 1) := by decide +kernel
theorem dX5_hasState_14 : decode cX5_hasState 14 = .ok (.getfield 40, 3) := by decide +kernel
theorem dX5_hasState_17 : decode cX5_hasState 17 = .ok (.iload_n 1, 1) := by decide +kernel
theorem dX5_hasState_18 : decode cX5_hasState 18 = .ok (.iaload, 1) := by decide +kernel
theorem dX5_hasState_19 : decode cX5_hasState 19 = .ok (.if_icmp .gt 7, 3) := by decide +kernel
theorem dX5_hasState_22 : decode cX5_hasState 22 = .ok (.iconst 1, 1) := by decide +kernel
theorem dX5_hasState_23 : decode cX5_hasState 23 = .ok (.goto 4, 3) := by decide +kernel
theorem dX5_hasState_26 : decode cX5_hasState 26 = .ok (.iconst 0, 1) := by decide +kernel
theorem dX5_hasState_27 : decode cX5_hasState 27 = .ok (.ireturn, 1) := by decide +kernel
theorem dX6_takeTurn_0 : decode cX6_takeTurn 0 = .ok (.aload_n 0, 1) := by decide +kernel
theorem dX6_takeTurn_1 : decode cX6_takeTurn 1 = .ok (.getfield 22, 3) := by decide +kernel
theorem dX6_takeTurn_4 : decode cX6_takeTurn 4 = .ok (.iload_n 1, 1) := by decide +kernel
theorem dX6_takeTurn_5 : decode cX6_takeTurn 5 = .ok (.invokevirtual 26, 3) := by decide +kernel
theorem dX6_takeTurn_8 : decode cX6_takeTurn 8 = .ok (.astore_n 2, 1) := by decide +kernel
theorem dX6_takeTurn_9 : decode cX6_takeTurn 9 = .ok (.aload_n 2, 1) := by decide +kernel
theorem dX6_takeTurn_10 : decode cX6_takeTurn 10 = .ok (.ifnonnull 5, 3) := by decide +kernel
theorem dX6_takeTurn_13 : decode cX6_takeTurn 13 = .ok (.iconst (-1), 1) := by decide +kernel
theorem dX6_takeTurn_14 : decode cX6_takeTurn 14 = .ok (.ireturn, 1) := by decide +kernel
theorem dX6_takeTurn_15 : decode cX6_takeTurn 15 = .ok (.aload_n 0, 1) := by decide +kernel
theorem dX6_takeTurn_16 : decode cX6_takeTurn 16 = .ok (.iconst 0, 1) := by decide +kernel
theorem dX6_takeTurn_17 : decode cX6_takeTurn 17 = .ok (.putfield 32, 3) := by decide +kernel
theorem dX6_takeTurn_20 : decode cX6_takeTurn 20 = .ok (.aload_n 0, 1) := by decide +kernel
theorem dX6_takeTurn_21 : decode cX6_takeTurn 21 = .ok (.iconst 0, 1) := by decide +kernel
theorem dX6_takeTurn_22 : decode cX6_takeTurn 22 = .ok (.putfield 36, 3) := by decide +kernel
theorem dX6_takeTurn_25 : decode cX6_takeTurn 25 = .ok (.aload_n 0, 1) := by decide +kernel
theorem dX6_takeTurn_26 : decode cX6_takeTurn 26 = .ok (.iconst 0, 1) := by decide +kernel
theorem dX6_takeTurn_27 : decode cX6_takeTurn 27 = .ok (.putfield 39, 3) := by decide +kernel
theorem dX6_takeTurn_30 : decode cX6_takeTurn 30 = .ok (.aload_n 0, 1) := by decide +kernel
theorem dX6_takeTurn_31 : decode cX6_takeTurn 31 = .ok (.aload_n 2, 1) := by decide +kernel
theorem dX6_takeTurn_32 : decode cX6_takeTurn 32 = .ok (.invokevirtual 42, 3) := by decide +kernel
theorem dX6_takeTurn_35 : decode cX6_takeTurn 35 = .ok (.iconst 0, 1) := by decide +kernel
theorem dX6_takeTurn_36 : decode cX6_takeTurn 36 = .ok (.istore_n 3, 1) := by decide +kernel
theorem dX6_takeTurn_37 : decode cX6_takeTurn 37 = .ok (.iload_n 3, 1) := by decide +kernel
theorem dX6_takeTurn_38 : decode cX6_takeTurn 38 = .ok (.ldc 46, 2) := by decide +kernel
theorem dX6_takeTurn_40 : decode cX6_takeTurn 40 = .ok (.if_icmp .ge 21, 3) := by decide +kernel
theorem dX6_takeTurn_43 : decode cX6_takeTurn 43 = .ok (.aload_n 0, 1) := by decide +kernel
theorem dX6_takeTurn_44 : decode cX6_takeTurn 44 = .ok (.getfield 39, 3) := by decide +kernel
theorem dX6_takeTurn_47 : decode cX6_takeTurn 47 = .ok (.ifCond .ne 14, 3) := by decide +kernel
theorem dX6_takeTurn_50 : decode cX6_takeTurn 50 = .ok (.aload_n 0, 1) := by decide +kernel
theorem dX6_takeTurn_51 : decode cX6_takeTurn 51 = .ok (.aload_n 2, 1) := by decide +kernel
theorem dX6_takeTurn_52 : decode cX6_takeTurn 52 = .ok (.invokevirtual 47, 3) := by decide +kernel
theorem dX6_takeTurn_55 : decode cX6_takeTurn 55 = .ok (.iinc 3 1, 3) := by decide +kernel
theorem dX6_takeTurn_58 : decode cX6_takeTurn 58 = .ok (.goto (-21), 3) := by decide +kernel
theorem dX6_takeTurn_61 : decode cX6_takeTurn 61 = .ok (.aload_n 0, 1) := by decide +kernel
theorem dX6_takeTurn_62 : decode cX6_takeTurn 62 = .ok (.getfield 39, 3) := by decide +kernel
theorem dX6_takeTurn_65 : decode cX6_takeTurn 65 = .ok (.iconst 1, 1) := by decide +kernel
theorem dX6_takeTurn_66 : decode cX6_takeTurn 66 = .ok (.if_icmp .ne 14, 3) := by decide +kernel
theorem dX6_takeTurn_69 : decode cX6_takeTurn 69 = .ok (.aload_n 0, 1) := by decide +kernel
theorem dX6_takeTurn_70 : decode cX6_takeTurn 70 = .ok (.getfield 22, 3) := by decide +kernel
theorem dX6_takeTurn_73 : decode cX6_takeTurn 73 = .ok (.aload_n 2, 1) := by decide +kernel
theorem dX6_takeTurn_74 : decode cX6_takeTurn 74 = .ok (.invokevirtual 50, 3) := by decide +kernel
theorem dX6_takeTurn_77 : decode cX6_takeTurn 77 = .ok (.goto 34, 3) := by decide +kernel
theorem dX6_takeTurn_80 : decode cX6_takeTurn 80 = .ok (.aload_n 0, 1) := by decide +kernel
theorem dX6_takeTurn_81 : decode cX6_takeTurn 81 = .ok (.getfield 39, 3) := by decide +kernel
theorem dX6_takeTurn_84 : decode cX6_takeTurn 84 = .ok (.iconst 2, 1) := by decide +kernel
theorem dX6_takeTurn_85 : decode cX6_takeTurn 85 = .ok (.if_icmp .ne 18, 3) := by decide +kernel
theorem dX6_takeTurn_88 : decode cX6_takeTurn 88 = .ok (.aload_n 0, 1) := by decide +kernel
theorem dX6_takeTurn_89 : decode cX6_takeTurn 89 = .ok (.getfield 22, 3) := by decide +kernel
theorem dX6_takeTurn_92 : decode cX6_takeTurn 92 = .ok (.aload_n 2, 1) := by decide +kernel
theorem dX6_takeTurn_93 : decode cX6_takeTurn 93 = .ok (.aload_n 0, 1) := by decide +kernel
theorem dX6_takeTurn_94 : decode cX6_takeTurn 94 = .ok (.getfield 53, 3) := by decide +kernel
theorem dX6_takeTurn_97 : decode cX6_takeTurn 97 = .ok (.invokevirtual 56, 3) := by decide +kernel
theorem dX6_takeTurn_100 : decode cX6_takeTurn 100 = .ok (.goto 11, 3) := by decide +kernel
theorem dX6_takeTurn_103 : decode cX6_takeTurn 103 = .ok (.aload_n 0, 1) := by decide +kernel
theorem dX6_takeTurn_104 : decode cX6_takeTurn 104 = .ok (.getfield 22, 3) := by decide +kernel
theorem dX6_takeTurn_107 : decode cX6_takeTurn 107 = .ok (.aload_n 2, 1) := by decide +kernel
theorem dX6_takeTurn_108 : decode cX6_takeTurn 108 = .ok (.invokevirtual 60, 3) := by decide +kernel
theorem dX6_takeTurn_111 : decode cX6_takeTurn 111 = .ok (.aload_n 2, 1) := by decide +kernel
theorem dX6_takeTurn_112 : decode cX6_takeTurn 112 = .ok (.getfield 63, 3) := by decide +kernel
theorem dX6_takeTurn_115 : decode cX6_takeTurn 115 = .ok (.ireturn, 1) := by decide +kernel
set_option maxHeartbeats 4000000 in
set_option maxRecDepth 100000 in
theorem ct_X10_keep (l : Launch) (dC : Nat → ClassId) (dI : Nat → Nat → Nat) (h0 : Nat) (kd : Nat) (pl : Nat) (va : Nat) (tp : Nat) (rs : Nat) (kkd : ClassId) (kpl : ClassId) (kva : ClassId) (sz : Nat) : Met l yX10_keep (.code yX10_keep cX10_keep 5 none :: tb) ({ frames := 0, cells := 0, slots := 0, locals := 0 }) (va_Pc [.ref h0, .int 0, .int 0, .long 0] (fun U => U.heap.size = sz ∧ va_P (dC, dI) vwCl [(h0, .inr (10, [.ref kd, .ref pl, .ref va, .int 0, .int 0, .ref tp, .ref rs])), (kd, .inl (kkd, 4002, .inl (upd (fun _ => 0) (4001 : Int32).toNatClampNeg 4))), (pl, .inl (kpl, 4002, .inl (fun _ => 0))), (va, .inl (kva, 4002, .inr (.inl (fun _ => 0))))] U.heap ∧ va_K (dC, dI) vwCl [(kkd, .int), (kpl, .int), (kva, .long)] U ∧ va_D (fun _ => True) [(h0, .inr (10, [.ref kd, .ref pl, .ref va, .int 0, .int 0, .ref tp, .ref rs])), (kd, .inl (kkd, 4002, .inl (upd (fun _ => 0) (4001 : Int32).toNatClampNeg 4))), (pl, .inl (kpl, 4002, .inl (fun _ => 0))), (va, .inl (kva, 4002, .inr (.inl (fun _ => 0))))])) (va_Qv (fun (_ : Unit) => True) (fun (_ : Unit) t => va_P (dC, dI) vwCl [(h0, .inr (10, [.ref kd, .ref pl, .ref va, .int 1, .int 0, .ref tp, .ref rs])), (kd, .inl (kkd, 4002, .inl (upd (upd (fun _ => 0) (4001 : Int32).toNatClampNeg 4) (0 : Int32).toNatClampNeg 0))), (pl, .inl (kpl, 4002, .inl (fun _ => 0))), (va, .inl (kva, 4002, .inr (.inl (fun _ => 0))))] t.heap ∧ va_K (dC, dI) vwCl [] t ∧ va_D (va_A [(h0, .inr (10, [.ref kd, .ref pl, .ref va, .int 0, .int 0, .ref tp, .ref rs])), (kd, .inl (kkd, 4002, .inl (upd (fun _ => 0) (4001 : Int32).toNatClampNeg 4))), (pl, .inl (kpl, 4002, .inl (fun _ => 0))), (va, .inl (kva, 4002, .inr (.inl (fun _ => 0))))] sz) [(h0, .inr (10, [.ref kd, .ref pl, .ref va, .int 1, .int 0, .ref tp, .ref rs])), (kd, .inl (kkd, 4002, .inl (upd (upd (fun _ => 0) (4001 : Int32).toNatClampNeg 4) (0 : Int32).toNatClampNeg 0))), (pl, .inl (kpl, 4002, .inl (fun _ => 0))), (va, .inl (kva, 4002, .inr (.inl (fun _ => 0))))]) (va_A [(h0, .inr (10, [.ref kd, .ref pl, .ref va, .int 0, .int 0, .ref tp, .ref rs])), (kd, .inl (kkd, 4002, .inl (upd (fun _ => 0) (4001 : Int32).toNatClampNeg 4))), (pl, .inl (kpl, 4002, .inl (fun _ => 0))), (va, .inl (kva, 4002, .inr (.inl (fun _ => 0))))] sz)) 0 0 (va_A [(h0, .inr (10, [.ref kd, .ref pl, .ref va, .int 0, .int 0, .ref tp, .ref rs])), (kd, .inl (kkd, 4002, .inl (upd (fun _ => 0) (4001 : Int32).toNatClampNeg 4))), (pl, .inl (kpl, 4002, .inl (fun _ => 0))), (va, .inl (kva, 4002, .inr (.inl (fun _ => 0))))] sz) := by
  refine Met.ofW (cc := cX10_keep) (maxL := 5) (ret := none) (by decide) rfl ?_
  intro p e s m args below meth c s₁ B hml hv
  obtain ⟨rfl, hsz, hP, hK, hD0⟩ := hv
  have hx := B.exec
  have hb := B.bytes
  have hr := B.returns
  have hts : ∀ w ∈ tb, w.before _ s = true := fun w h => atoms_spec (ws := (.code yX10_keep cX10_keep 5 none :: tb)) B.pre w (List.mem_cons_of_mem _ h)
  have hown : s.vm.findClass RX10 = some m.cls := findClass_of_methodNamed B.named
  have hlocks := B.notSynchronized
  subst hsz
  have hD := hD0.self (sz := s.heap.size)
  generalize hAe : va_A [(h0, .inr (10, [.ref kd, .ref pl, .ref va, .int 0, .int 0, .ref tp, .ref rs])), (kd, .inl (kkd, 4002, .inl (upd (fun _ => 0) (4001 : Int32).toNatClampNeg 4))), (pl, .inl (kpl, 4002, .inl (fun _ => 0))), (va, .inl (kva, 4002, .inr (.inl (fun _ => 0))))] s.heap.size = A at hD ⊢
  have hA : ∀ q : Nat, s.heap.size ≤ q → A q := fun q h => by rw [← hAe]; exact Or.inr h
  have hS : va_S A s.heap s.heap [] := va_S.rf
  have hP : va_P (dC, dI) vwCl [(h0, .inr (10, [.ref kd, .ref pl, .ref va, .int 0, .int 0, .ref tp, .ref rs])), (kd, .inl (kkd, 4002, .inl (upd (fun _ => 0) (4001 : Int32).toNatClampNeg 4))), (pl, .inl (kpl, 4002, .inl (fun _ => 0))), (va, .inl (kva, 4002, .inr (.inl (fun _ => 0))))] s.heap := hP
  have hl := lv_entry ([.ref h0, .int 0, .int 0, .long 0]) (n := 5) (Nat.le_of_ble_eq_true rfl)
  rw [lg_entry_eq]
  generalize (lg_sl ([.ref h0, .int 0, .int 0, .long 0]) ++ List.replicate (5 - (lg_sl ([.ref h0, .int 0, .int 0, .long 0])).length) Slot.unset).toArray = ls at hl ⊢
  have hl : lv_has ls 5 [(0, .ref h0), (1, .int 0), (2, .int 0), (3, .long 0)] := hl
  refine lv_aload_n hx hb dX10_keep_0 rfl (lv_at hl 0 rfl) ?_
  refine va_get (D := (dC, dI)) (ci := 10) (v := .int 0) (C := RX10) (T := TX10) (N := 7) hx hb hts in_X10 hown hK hP 0 rfl rfl 3 (by decide) (hts _ wd_100) (fun _ h9 => h9) rfl dX10_keep_1 ?_
  refine lv_sipush (v := 4001) hx hb dX10_keep_4 (by decide) ?_
  refine lv_icmp_ge (tgt := 50) hx hb dX10_keep_7 (by decide) (fun h => absurd h (by decide)) (fun _ => ?_)
  refine lv_aload_n hx hb dX10_keep_10 rfl (lv_at hl 0 rfl) ?_
  refine va_get (D := (dC, dI)) (ci := 10) (v := .ref kd) (C := RX10) (T := TX10) (N := 7) hx hb hts in_X10 hown hK hP 0 rfl rfl 0 (by decide) (hts _ wd_94) (fun _ h9 => h9) rfl dX10_keep_11 ?_
  refine lv_aload_n hx hb dX10_keep_14 rfl (lv_at hl 0 rfl) ?_
  refine va_get (D := (dC, dI)) (ci := 10) (v := .int 0) (C := RX10) (T := TX10) (N := 7) hx hb hts in_X10 hown hK hP 0 rfl rfl 3 (by decide) (hts _ wd_100) (fun _ h9 => h9) rfl dX10_keep_15 ?_
  refine lv_iload_n hx hb dX10_keep_18 rfl (lv_at hl 1 rfl) ?_
  refine va_iast hx hb hK hP hD hS 1 0 rfl rfl (px_in 0 4002 (by decide +kernel)) dX10_keep_19 (fun H locs hP hD hS => ?_)
  have hP : va_P (dC, dI) vwCl [(h0, .inr (10, [.ref kd, .ref pl, .ref va, .int 0, .int 0, .ref tp, .ref rs])), (kd, .inl (kkd, 4002, .inl (upd (upd (fun _ => 0) (4001 : Int32).toNatClampNeg 4) (0 : Int32).toNatClampNeg 0))), (pl, .inl (kpl, 4002, .inl (fun _ => 0))), (va, .inl (kva, 4002, .inr (.inl (fun _ => 0))))] H := hP
  have hD : va_D A [(h0, .inr (10, [.ref kd, .ref pl, .ref va, .int 0, .int 0, .ref tp, .ref rs])), (kd, .inl (kkd, 4002, .inl (upd (upd (fun _ => 0) (4001 : Int32).toNatClampNeg 4) (0 : Int32).toNatClampNeg 0))), (pl, .inl (kpl, 4002, .inl (fun _ => 0))), (va, .inl (kva, 4002, .inr (.inl (fun _ => 0))))] := hD
  refine lv_aload_n hx hb dX10_keep_20 rfl (lv_at hl 0 rfl) ?_
  refine va_get (D := (dC, dI)) (ci := 10) (v := .ref pl) (C := RX10) (T := TX10) (N := 7) hx hb hts in_X10 hown hK hP 0 rfl rfl 1 (by decide) (hts _ wd_96) (fun _ h9 => h9) rfl dX10_keep_21 ?_
  refine lv_aload_n hx hb dX10_keep_24 rfl (lv_at hl 0 rfl) ?_
  refine va_get (D := (dC, dI)) (ci := 10) (v := .int 0) (C := RX10) (T := TX10) (N := 7) hx hb hts in_X10 hown hK hP 0 rfl rfl 3 (by decide) (hts _ wd_100) (fun _ h9 => h9) rfl dX10_keep_25 ?_
  refine lv_iload_n hx hb dX10_keep_28 rfl (lv_at hl 2 rfl) ?_
  refine va_iast hx hb hK hP hD hS 2 1 rfl rfl (px_in 0 4002 (by decide +kernel)) dX10_keep_29 (fun H locs hP hD hS => ?_)
  have hP : va_P (dC, dI) vwCl [(h0, .inr (10, [.ref kd, .ref pl, .ref va, .int 0, .int 0, .ref tp, .ref rs])), (kd, .inl (kkd, 4002, .inl (upd (upd (fun _ => 0) (4001 : Int32).toNatClampNeg 4) (0 : Int32).toNatClampNeg 0))), (pl, .inl (kpl, 4002, .inl (upd (fun _ => 0) (0 : Int32).toNatClampNeg 0))), (va, .inl (kva, 4002, .inr (.inl (fun _ => 0))))] H := hP
  have hD : va_D A [(h0, .inr (10, [.ref kd, .ref pl, .ref va, .int 0, .int 0, .ref tp, .ref rs])), (kd, .inl (kkd, 4002, .inl (upd (upd (fun _ => 0) (4001 : Int32).toNatClampNeg 4) (0 : Int32).toNatClampNeg 0))), (pl, .inl (kpl, 4002, .inl (upd (fun _ => 0) (0 : Int32).toNatClampNeg 0))), (va, .inl (kva, 4002, .inr (.inl (fun _ => 0))))] := hD
  rw [up_z] at hP hD
  have hP : va_P (dC, dI) vwCl [(h0, .inr (10, [.ref kd, .ref pl, .ref va, .int 0, .int 0, .ref tp, .ref rs])), (kd, .inl (kkd, 4002, .inl (upd (upd (fun _ => 0) (4001 : Int32).toNatClampNeg 4) (0 : Int32).toNatClampNeg 0))), (pl, .inl (kpl, 4002, .inl (fun _ => 0))), (va, .inl (kva, 4002, .inr (.inl (fun _ => 0))))] H := hP
  have hD : va_D A [(h0, .inr (10, [.ref kd, .ref pl, .ref va, .int 0, .int 0, .ref tp, .ref rs])), (kd, .inl (kkd, 4002, .inl (upd (upd (fun _ => 0) (4001 : Int32).toNatClampNeg 4) (0 : Int32).toNatClampNeg 0))), (pl, .inl (kpl, 4002, .inl (fun _ => 0))), (va, .inl (kva, 4002, .inr (.inl (fun _ => 0))))] := hD
  refine lv_aload_n hx hb dX10_keep_30 rfl (lv_at hl 0 rfl) ?_
  refine va_get (D := (dC, dI)) (ci := 10) (v := .ref va) (C := RX10) (T := TX10) (N := 7) hx hb hts in_X10 hown hK hP 0 rfl rfl 2 (by decide) (hts _ wd_98) (fun _ h9 => h9) rfl dX10_keep_31 ?_
  refine lv_aload_n hx hb dX10_keep_34 rfl (lv_at hl 0 rfl) ?_
  refine va_get (D := (dC, dI)) (ci := 10) (v := .int 0) (C := RX10) (T := TX10) (N := 7) hx hb hts in_X10 hown hK hP 0 rfl rfl 3 (by decide) (hts _ wd_100) (fun _ h9 => h9) rfl dX10_keep_35 ?_
  refine lv_lload_n hx hb dX10_keep_38 rfl (lv_at hl 3 rfl) ?_
  refine va_last hx hb hK hP hD hS 3 2 rfl rfl (px_in 0 4002 (by decide +kernel)) dX10_keep_39 (fun H locs hP hD hS => ?_)
  have hP : va_P (dC, dI) vwCl [(h0, .inr (10, [.ref kd, .ref pl, .ref va, .int 0, .int 0, .ref tp, .ref rs])), (kd, .inl (kkd, 4002, .inl (upd (upd (fun _ => 0) (4001 : Int32).toNatClampNeg 4) (0 : Int32).toNatClampNeg 0))), (pl, .inl (kpl, 4002, .inl (fun _ => 0))), (va, .inl (kva, 4002, .inr (.inl (vp_updL (fun _ => 0) (0 : Int32).toNatClampNeg 0))))] H := hP
  have hD : va_D A [(h0, .inr (10, [.ref kd, .ref pl, .ref va, .int 0, .int 0, .ref tp, .ref rs])), (kd, .inl (kkd, 4002, .inl (upd (upd (fun _ => 0) (4001 : Int32).toNatClampNeg 4) (0 : Int32).toNatClampNeg 0))), (pl, .inl (kpl, 4002, .inl (fun _ => 0))), (va, .inl (kva, 4002, .inr (.inl (vp_updL (fun _ => 0) (0 : Int32).toNatClampNeg 0))))] := hD
  rw [up_zL] at hP hD
  have hP : va_P (dC, dI) vwCl [(h0, .inr (10, [.ref kd, .ref pl, .ref va, .int 0, .int 0, .ref tp, .ref rs])), (kd, .inl (kkd, 4002, .inl (upd (upd (fun _ => 0) (4001 : Int32).toNatClampNeg 4) (0 : Int32).toNatClampNeg 0))), (pl, .inl (kpl, 4002, .inl (fun _ => 0))), (va, .inl (kva, 4002, .inr (.inl (fun _ => 0))))] H := hP
  have hD : va_D A [(h0, .inr (10, [.ref kd, .ref pl, .ref va, .int 0, .int 0, .ref tp, .ref rs])), (kd, .inl (kkd, 4002, .inl (upd (upd (fun _ => 0) (4001 : Int32).toNatClampNeg 4) (0 : Int32).toNatClampNeg 0))), (pl, .inl (kpl, 4002, .inl (fun _ => 0))), (va, .inl (kva, 4002, .inr (.inl (fun _ => 0))))] := hD
  refine lv_aload_n hx hb dX10_keep_40 rfl (lv_at hl 0 rfl) ?_
  refine lv_dup hx hb dX10_keep_41 rfl ?_
  refine va_get (D := (dC, dI)) (ci := 10) (v := .int 0) (C := RX10) (T := TX10) (N := 7) hx hb hts in_X10 hown hK hP 0 rfl rfl 3 (by decide) (hts _ wd_100) (fun _ h9 => h9) rfl dX10_keep_42 ?_
  refine lv_iconst (v := 1) hx hb dX10_keep_45 (by decide) ?_
  refine lv_iadd hx hb dX10_keep_46 ?_
  refine lv_topi (fun z1 ez1 => ?_)
  obtain rfl : z1 = 1 := ez1.trans (by decide)
  refine va_put (D := (dC, dI)) (ci := 10) (v := .int 1) (ty := (tyX10 3)) (C := RX10) (T := TX10) (N := 7) hx hb hts in_X10 tyX10 tyX10_ok nmX10 hown hK hP hD hS 0 rfl rfl 3 (by decide) (hts _ wd_100) (fun _ h9 => h9) rfl (tyX10_ok 3 (by decide)) rfl rfl (Nat.le_of_ble_eq_true rfl) dX10_keep_47 (fun H locs hP hD hS => ?_)
  have hP : va_P (dC, dI) vwCl [(h0, .inr (10, [.ref kd, .ref pl, .ref va, .int 1, .int 0, .ref tp, .ref rs])), (kd, .inl (kkd, 4002, .inl (upd (upd (fun _ => 0) (4001 : Int32).toNatClampNeg 4) (0 : Int32).toNatClampNeg 0))), (pl, .inl (kpl, 4002, .inl (fun _ => 0))), (va, .inl (kva, 4002, .inr (.inl (fun _ => 0))))] H := hP
  have hD : va_D A [(h0, .inr (10, [.ref kd, .ref pl, .ref va, .int 1, .int 0, .ref tp, .ref rs])), (kd, .inl (kkd, 4002, .inl (upd (upd (fun _ => 0) (4001 : Int32).toNatClampNeg 4) (0 : Int32).toNatClampNeg 0))), (pl, .inl (kpl, 4002, .inl (fun _ => 0))), (va, .inl (kva, 4002, .inr (.inl (fun _ => 0))))] := hD
  have hP9 := hP.sub (ws' := [(h0, .inr (10, [.ref kd, .ref pl, .ref va, .int 1, .int 0, .ref tp, .ref rs])), (kd, .inl (kkd, 4002, .inl (upd (upd (fun _ => 0) (4001 : Int32).toNatClampNeg 4) (0 : Int32).toNatClampNeg 0))), (pl, .inl (kpl, 4002, .inl (fun _ => 0))), (va, .inl (kva, 4002, .inr (.inl (fun _ => 0))))]) [0, 1, 2, 3] rfl
  have hD9 := hD.sub (ws' := [(h0, .inr (10, [.ref kd, .ref pl, .ref va, .int 1, .int 0, .ref tp, .ref rs])), (kd, .inl (kkd, 4002, .inl (upd (upd (fun _ => 0) (4001 : Int32).toNatClampNeg 4) (0 : Int32).toNatClampNeg 0))), (pl, .inl (kpl, 4002, .inl (fun _ => 0))), (va, .inl (kva, 4002, .inr (.inl (fun _ => 0))))]) [0, 1, 2, 3] (by decide) rfl
  have hK9 := hK.sub (tys' := []) [] rfl
  refine W.widen (k := 0) (n := 0) (Nat.le_of_ble_eq_true rfl) (Nat.le_of_ble_eq_true rfl) ?_
  exact W.vret hx hb hr (fun t ht hW => ⟨⟨(), rfl, trivial, by rw [ht]; exact hP9, va_K.moved hW.alike hK9, hD9⟩, hS.F ht⟩) hS.2.2 dX10_keep_50
set_option maxHeartbeats 4000000 in
set_option maxRecDepth 100000 in
theorem ct_X10_read (l : Launch) (dC : Nat → ClassId) (dI : Nat → Nat → Nat) (h0 : Nat) (kd : Nat) (pl : Nat) (va : Nat) (tp : Nat) (rs : Nat) (kkd : ClassId) (kpl : ClassId) (kva : ClassId) (sz : Nat) : Met l yX10_read (.code yX10_read cX10_read 4 none :: tb) ({ frames := 1, cells := 0, slots := 0, locals := 24 }) (va_Pc [.ref h0] (fun U => U.heap.size = sz ∧ va_P (dC, dI) vwCl [(h0, .inr (10, [.ref kd, .ref pl, .ref va, .int 0, .int 0, .ref tp, .ref rs])), (kd, .inl (kkd, 4002, .inl (upd (fun _ => 0) (4001 : Int32).toNatClampNeg 4))), (pl, .inl (kpl, 4002, .inl (fun _ => 0))), (va, .inl (kva, 4002, .inr (.inl (fun _ => 0))))] U.heap ∧ va_K (dC, dI) vwCl [(kkd, .int), (kpl, .int), (kva, .long)] U ∧ va_D (fun _ => True) [(h0, .inr (10, [.ref kd, .ref pl, .ref va, .int 0, .int 0, .ref tp, .ref rs])), (kd, .inl (kkd, 4002, .inl (upd (fun _ => 0) (4001 : Int32).toNatClampNeg 4))), (pl, .inl (kpl, 4002, .inl (fun _ => 0))), (va, .inl (kva, 4002, .inr (.inl (fun _ => 0))))])) (va_Qv (fun (_ : Unit) => True) (fun (_ : Unit) t => va_P (dC, dI) vwCl [(h0, .inr (10, [.ref kd, .ref pl, .ref va, .int 1, .int 0, .ref tp, .ref rs])), (kd, .inl (kkd, 4002, .inl (upd (upd (fun _ => 0) (4001 : Int32).toNatClampNeg 4) (0 : Int32).toNatClampNeg 0))), (pl, .inl (kpl, 4002, .inl (fun _ => 0))), (va, .inl (kva, 4002, .inr (.inl (fun _ => 0))))] t.heap ∧ va_K (dC, dI) vwCl [] t ∧ va_D (va_A [(h0, .inr (10, [.ref kd, .ref pl, .ref va, .int 0, .int 0, .ref tp, .ref rs])), (kd, .inl (kkd, 4002, .inl (upd (fun _ => 0) (4001 : Int32).toNatClampNeg 4))), (pl, .inl (kpl, 4002, .inl (fun _ => 0))), (va, .inl (kva, 4002, .inr (.inl (fun _ => 0))))] sz) [(h0, .inr (10, [.ref kd, .ref pl, .ref va, .int 1, .int 0, .ref tp, .ref rs])), (kd, .inl (kkd, 4002, .inl (upd (upd (fun _ => 0) (4001 : Int32).toNatClampNeg 4) (0 : Int32).toNatClampNeg 0))), (pl, .inl (kpl, 4002, .inl (fun _ => 0))), (va, .inl (kva, 4002, .inr (.inl (fun _ => 0))))]) (va_A [(h0, .inr (10, [.ref kd, .ref pl, .ref va, .int 0, .int 0, .ref tp, .ref rs])), (kd, .inl (kkd, 4002, .inl (upd (fun _ => 0) (4001 : Int32).toNatClampNeg 4))), (pl, .inl (kpl, 4002, .inl (fun _ => 0))), (va, .inl (kva, 4002, .inr (.inl (fun _ => 0))))] sz)) 0 0 (va_A [(h0, .inr (10, [.ref kd, .ref pl, .ref va, .int 0, .int 0, .ref tp, .ref rs])), (kd, .inl (kkd, 4002, .inl (upd (fun _ => 0) (4001 : Int32).toNatClampNeg 4))), (pl, .inl (kpl, 4002, .inl (fun _ => 0))), (va, .inl (kva, 4002, .inr (.inl (fun _ => 0))))] sz) := by
  refine Met.ofW (cc := cX10_read) (maxL := 4) (ret := none) (by decide) rfl ?_
  intro p e s m args below meth c s₁ B hml hv
  obtain ⟨rfl, hsz, hP, hK, hD0⟩ := hv
  have hx := B.exec
  have hb := B.bytes
  have hr := B.returns
  have hts : ∀ w ∈ tb, w.before _ s = true := fun w h => atoms_spec (ws := (.code yX10_read cX10_read 4 none :: tb)) B.pre w (List.mem_cons_of_mem _ h)
  have hown : s.vm.findClass RX10 = some m.cls := findClass_of_methodNamed B.named
  have hlocks := B.notSynchronized
  subst hsz
  have hD := hD0.self (sz := s.heap.size)
  generalize hAe : va_A [(h0, .inr (10, [.ref kd, .ref pl, .ref va, .int 0, .int 0, .ref tp, .ref rs])), (kd, .inl (kkd, 4002, .inl (upd (fun _ => 0) (4001 : Int32).toNatClampNeg 4))), (pl, .inl (kpl, 4002, .inl (fun _ => 0))), (va, .inl (kva, 4002, .inr (.inl (fun _ => 0))))] s.heap.size = A at hD ⊢
  have hA : ∀ q : Nat, s.heap.size ≤ q → A q := fun q h => by rw [← hAe]; exact Or.inr h
  have hS : va_S A s.heap s.heap [] := va_S.rf
  have hP : va_P (dC, dI) vwCl [(h0, .inr (10, [.ref kd, .ref pl, .ref va, .int 0, .int 0, .ref tp, .ref rs])), (kd, .inl (kkd, 4002, .inl (upd (fun _ => 0) (4001 : Int32).toNatClampNeg 4))), (pl, .inl (kpl, 4002, .inl (fun _ => 0))), (va, .inl (kva, 4002, .inr (.inl (fun _ => 0))))] s.heap := hP
  have hl := lv_entry ([.ref h0]) (n := 4) (Nat.le_of_ble_eq_true rfl)
  rw [lg_entry_eq]
  generalize (lg_sl ([.ref h0]) ++ List.replicate (4 - (lg_sl ([.ref h0])).length) Slot.unset).toArray = ls at hl ⊢
  have hl : lv_has ls 4 [(0, .ref h0)] := hl
  refine lv_aload_n hx hb dX10_read_0 rfl (lv_at hl 0 rfl) ?_
  refine lv_iconst (v := 0) hx hb dX10_read_1 (by decide) ?_
  refine va_put (D := (dC, dI)) (ci := 10) (v := .int 0) (ty := (tyX10 3)) (C := RX10) (T := TX10) (N := 7) hx hb hts in_X10 tyX10 tyX10_ok nmX10 hown hK hP hD hS 0 rfl rfl 3 (by decide) (hts _ wd_100) (fun _ h9 => h9) rfl (tyX10_ok 3 (by decide)) rfl rfl (Nat.le_of_ble_eq_true rfl) dX10_read_2 (fun H locs hP hD hS => ?_)
  have hP : va_P (dC, dI) vwCl [(h0, .inr (10, [.ref kd, .ref pl, .ref va, .int 0, .int 0, .ref tp, .ref rs])), (kd, .inl (kkd, 4002, .inl (upd (fun _ => 0) (4001 : Int32).toNatClampNeg 4))), (pl, .inl (kpl, 4002, .inl (fun _ => 0))), (va, .inl (kva, 4002, .inr (.inl (fun _ => 0))))] H := hP
  have hD : va_D A [(h0, .inr (10, [.ref kd, .ref pl, .ref va, .int 0, .int 0, .ref tp, .ref rs])), (kd, .inl (kkd, 4002, .inl (upd (fun _ => 0) (4001 : Int32).toNatClampNeg 4))), (pl, .inl (kpl, 4002, .inl (fun _ => 0))), (va, .inl (kva, 4002, .inr (.inl (fun _ => 0))))] := hD
  refine lv_iconst (v := 0) hx hb dX10_read_5 (by decide) ?_
  refine lv_istore_n (lv' := [(1, .int 0), (0, .ref h0)]) hx hb dX10_read_6 rfl hl (by decide) rfl (fun ls hl => ?_)
  refine lv_iconst (v := 0) hx hb dX10_read_7 (by decide) ?_
  refine lv_istore_n (lv' := [(2, .int 0), (1, .int 0), (0, .ref h0)]) hx hb dX10_read_8 rfl hl (by decide) rfl (fun ls hl => ?_)
  refine lv_iload_n hx hb dX10_read_9 rfl (lv_at hl 0 rfl) ?_
  refine lv_sipush (v := 4000) hx hb dX10_read_10 (by decide) ?_
  refine lv_icmp_ge (tgt := 104) hx hb dX10_read_13 (by decide) (fun h => absurd h (by decide)) (fun _ => ?_)
  refine lv_iload_n hx hb dX10_read_16 rfl (lv_at hl 1 rfl) ?_
  refine lv_aload_n hx hb dX10_read_17 rfl (lv_at hl 2 rfl) ?_
  refine va_get (D := (dC, dI)) (ci := 10) (v := .int 0) (C := RX10) (T := TX10) (N := 7) hx hb hts in_X10 hown hK hP 0 rfl rfl 4 (by decide) (hts _ wd_103) (fun _ h9 => h9) rfl dX10_read_18 ?_
  refine lv_icmp_ge (tgt := 104) hx hb dX10_read_21 (by decide) (fun _ => ?_) (fun h => absurd (by decide) h)
  refine lv_aload_n hx hb dX10_read_104 rfl (lv_at hl 2 rfl) ?_
  refine lv_iconst (v := 0) hx hb dX10_read_105 (by decide) ?_
  refine lv_aload_n hx hb dX10_read_106 rfl (lv_at hl 2 rfl) ?_
  refine va_get (D := (dC, dI)) (ci := 10) (v := .int 0) (C := RX10) (T := TX10) (N := 7) hx hb hts in_X10 hown hK hP 0 rfl rfl 4 (by decide) (hts _ wd_103) (fun _ h9 => h9) rfl dX10_read_107 ?_
  refine lv_lconst (v := 0) hx hb dX10_read_110 (by decide) ?_
  have hPc := hP.sub (ws' := [(h0, .inr (10, [.ref kd, .ref pl, .ref va, .int 0, .int 0, .ref tp, .ref rs])), (kd, .inl (kkd, 4002, .inl (upd (fun _ => 0) (4001 : Int32).toNatClampNeg 4))), (pl, .inl (kpl, 4002, .inl (fun _ => 0))), (va, .inl (kva, 4002, .inr (.inl (fun _ => 0))))]) [0, 1, 2, 3] rfl
  have hDc := hD.sub (ws' := [(h0, .inr (10, [.ref kd, .ref pl, .ref va, .int 0, .int 0, .ref tp, .ref rs])), (kd, .inl (kkd, 4002, .inl (upd (fun _ => 0) (4001 : Int32).toNatClampNeg 4))), (pl, .inl (kpl, 4002, .inl (fun _ => 0))), (va, .inl (kva, 4002, .inr (.inl (fun _ => 0))))]) [0, 1, 2, 3] (by decide) rfl
  have hKc := hK.sub (tys' := [(kkd, .int), (kpl, .int), (kva, .long)]) [0, 1, 2] rfl
  have hFc := va_free (wc := [(h0, .inr (10, [.ref kd, .ref pl, .ref va, .int 0, .int 0, .ref tp, .ref rs])), (kd, .inl (kkd, 4002, .inl (upd (fun _ => 0) (4001 : Int32).toNatClampNeg 4))), (pl, .inl (kpl, 4002, .inl (fun _ => 0))), (va, .inl (kva, 4002, .inr (.inl (fun _ => 0))))]) hD hS hA [0, 1, 2, 3] rfl
  refine va_callv (va_runV (As := [.int 0, .int 0, .long 0]) (rest := []) ⟨hx, hb, hml, hown, hts⟩ (ct_X10_keep l dC dI h0 kd pl va tp rs kkd kpl kva H.size) (cwV 3 hts (gd_V wd_527 wd_529 sl_X10_keep wd_2 wd_530) rfl rfl rfl (by decide +kernel) ⟨Nat.le_of_ble_eq_true rfl, Nat.le_of_ble_eq_true rfl⟩) ⟨fun a U g mk q => by obtain ⟨q0, q1, qP, qK, qD⟩ := q; exact ⟨q0, q1, qP, va_K.moved (u := U) (U := U.calling g mk a) (Vm.Alike.refl U.vm) qK, qD⟩, va_recv hKc hPc (ci := 10) (q0 := 0) rfl rfl, fun U hU hW => ⟨rfl, by rw [hU], by rw [hU]; exact hPc, va_K.moved hW.alike hKc, hDc.weaken (fun _ _ _ _ => trivial)⟩⟩ rfl rfl hl.1 rfl (lv_room (Nat.le_of_ble_eq_true rfl)) dX10_read_111 ⟨Nat.le_of_ble_eq_true rfl, Nat.le_of_ble_eq_true rfl⟩) hS (fun q _ h => hFc q h) hFc (fun u t H1 locs ht hvm hw hB hz1 hk1 hS => ?_)
  obtain ⟨hP1, hK1, hD1⟩ := hB
  rw [ht] at hP1
  have hK1 := va_K.moved hvm.symm hK1
  obtain ⟨hP, hD⟩ := va_join (wr := []) (w1 := [(h0, .inr (10, [.ref kd, .ref pl, .ref va, .int 1, .int 0, .ref tp, .ref rs])), (kd, .inl (kkd, 4002, .inl (upd (upd (fun _ => 0) (4001 : Int32).toNatClampNeg 4) (0 : Int32).toNatClampNeg 0))), (pl, .inl (kpl, 4002, .inl (fun _ => 0))), (va, .inl (kva, 4002, .inr (.inl (fun _ => 0))))]) hP hD [0, 1, 2, 3] [] rfl rfl (by decide) (by decide) hk1 hFc hP1 hD1
  have hK := (hK.sub (tys' := [(kkd, .int), (kpl, .int), (kva, .long)]) [0, 1, 2] rfl).app (hK1.sub (tys' := []) [] rfl)
  generalize H1 = H at hP hS ⊢
  have hP : va_P (dC, dI) vwCl [(h0, .inr (10, [.ref kd, .ref pl, .ref va, .int 1, .int 0, .ref tp, .ref rs])), (kd, .inl (kkd, 4002, .inl (upd (upd (fun _ => 0) (4001 : Int32).toNatClampNeg 4) (0 : Int32).toNatClampNeg 0))), (pl, .inl (kpl, 4002, .inl (fun _ => 0))), (va, .inl (kva, 4002, .inr (.inl (fun _ => 0))))] H := hP
  have hD : va_D A [(h0, .inr (10, [.ref kd, .ref pl, .ref va, .int 1, .int 0, .ref tp, .ref rs])), (kd, .inl (kkd, 4002, .inl (upd (upd (fun _ => 0) (4001 : Int32).toNatClampNeg 4) (0 : Int32).toNatClampNeg 0))), (pl, .inl (kpl, 4002, .inl (fun _ => 0))), (va, .inl (kva, 4002, .inr (.inl (fun _ => 0))))] := hD
  have hK : va_K (dC, dI) vwCl [(kkd, .int), (kpl, .int), (kva, .long)] s := hK
  refine lv_aload_n hx hb dX10_read_114 rfl (lv_at hl 2 rfl) ?_
  refine lv_iconst (v := 0) hx hb dX10_read_115 (by decide) ?_
  refine va_put (D := (dC, dI)) (ci := 10) (v := .int 0) (ty := (tyX10 4)) (C := RX10) (T := TX10) (N := 7) hx hb hts in_X10 tyX10 tyX10_ok nmX10 hown hK hP hD hS 0 rfl rfl 4 (by decide) (hts _ wd_103) (fun _ h9 => h9) rfl (tyX10_ok 4 (by decide)) rfl rfl (Nat.le_of_ble_eq_true rfl) dX10_read_116 (fun H locs hP hD hS => ?_)
  have hP : va_P (dC, dI) vwCl [(h0, .inr (10, [.ref kd, .ref pl, .ref va, .int 1, .int 0, .ref tp, .ref rs])), (kd, .inl (kkd, 4002, .inl (upd (upd (fun _ => 0) (4001 : Int32).toNatClampNeg 4) (0 : Int32).toNatClampNeg 0))), (pl, .inl (kpl, 4002, .inl (fun _ => 0))), (va, .inl (kva, 4002, .inr (.inl (fun _ => 0))))] H := hP
  have hD : va_D A [(h0, .inr (10, [.ref kd, .ref pl, .ref va, .int 1, .int 0, .ref tp, .ref rs])), (kd, .inl (kkd, 4002, .inl (upd (upd (fun _ => 0) (4001 : Int32).toNatClampNeg 4) (0 : Int32).toNatClampNeg 0))), (pl, .inl (kpl, 4002, .inl (fun _ => 0))), (va, .inl (kva, 4002, .inr (.inl (fun _ => 0))))] := hD
  have hP9 := hP.sub (ws' := [(h0, .inr (10, [.ref kd, .ref pl, .ref va, .int 1, .int 0, .ref tp, .ref rs])), (kd, .inl (kkd, 4002, .inl (upd (upd (fun _ => 0) (4001 : Int32).toNatClampNeg 4) (0 : Int32).toNatClampNeg 0))), (pl, .inl (kpl, 4002, .inl (fun _ => 0))), (va, .inl (kva, 4002, .inr (.inl (fun _ => 0))))]) [0, 1, 2, 3] rfl
  have hD9 := hD.sub (ws' := [(h0, .inr (10, [.ref kd, .ref pl, .ref va, .int 1, .int 0, .ref tp, .ref rs])), (kd, .inl (kkd, 4002, .inl (upd (upd (fun _ => 0) (4001 : Int32).toNatClampNeg 4) (0 : Int32).toNatClampNeg 0))), (pl, .inl (kpl, 4002, .inl (fun _ => 0))), (va, .inl (kva, 4002, .inr (.inl (fun _ => 0))))]) [0, 1, 2, 3] (by decide) rfl
  have hK9 := hK.sub (tys' := []) [] rfl
  refine W.widen (k := 0) (n := 0) (Nat.le_of_ble_eq_true rfl) (Nat.le_of_ble_eq_true rfl) ?_
  exact W.vret hx hb hr (fun t ht hW => ⟨⟨(), rfl, trivial, by rw [ht]; exact hP9, va_K.moved hW.alike hK9, hD9⟩, hS.F ht⟩) hS.2.2 dX10_read_119
set_option maxHeartbeats 4000000 in
set_option maxRecDepth 100000 in
theorem ct_X10_onlyWord (l : Launch) (dC : Nat → ClassId) (dI : Nat → Nat → Nat) (h0 : Nat) (kd : Nat) (pl : Nat) (va : Nat) (tp : Nat) (rs : Nat) (kkd : ClassId) (kpl : ClassId) (kva : ClassId) (sz : Nat) : Met l yX10_onlyWord (.code yX10_onlyWord cX10_onlyWord 1 (some .long) :: tb) ({ frames := 0, cells := 0, slots := 0, locals := 0 }) (va_Pc [.ref h0] (fun U => U.heap.size = sz ∧ va_P (dC, dI) vwCl [(h0, .inr (10, [.ref kd, .ref pl, .ref va, .int 1, .int 0, .ref tp, .ref rs]))] U.heap ∧ va_K (dC, dI) vwCl [] U ∧ va_D (fun _ => True) [(h0, .inr (10, [.ref kd, .ref pl, .ref va, .int 1, .int 0, .ref tp, .ref rs]))])) (va_Ql (fun (r : Int64) (_ : Unit) => r = 0) (fun (_ : Unit) t => va_P (dC, dI) vwCl [] t.heap ∧ va_K (dC, dI) vwCl [] t ∧ va_D (va_A [(h0, .inr (10, [.ref kd, .ref pl, .ref va, .int 1, .int 0, .ref tp, .ref rs]))] sz) []) (va_A [(h0, .inr (10, [.ref kd, .ref pl, .ref va, .int 1, .int 0, .ref tp, .ref rs]))] sz)) 0 0 (va_A [(h0, .inr (10, [.ref kd, .ref pl, .ref va, .int 1, .int 0, .ref tp, .ref rs]))] sz) := by
  refine Met.ofW (cc := cX10_onlyWord) (maxL := 1) (ret := (some .long)) (by decide) rfl ?_
  intro p e s m args below meth c s₁ B hml hv
  obtain ⟨rfl, hsz, hP, hK, hD0⟩ := hv
  have hx := B.exec
  have hb := B.bytes
  have hr := B.returns
  have hts : ∀ w ∈ tb, w.before _ s = true := fun w h => atoms_spec (ws := (.code yX10_onlyWord cX10_onlyWord 1 (some .long) :: tb)) B.pre w (List.mem_cons_of_mem _ h)
  have hown : s.vm.findClass RX10 = some m.cls := findClass_of_methodNamed B.named
  have hlocks := B.notSynchronized
  subst hsz
  have hD := hD0.self (sz := s.heap.size)
  generalize hAe : va_A [(h0, .inr (10, [.ref kd, .ref pl, .ref va, .int 1, .int 0, .ref tp, .ref rs]))] s.heap.size = A at hD ⊢
  have hA : ∀ q : Nat, s.heap.size ≤ q → A q := fun q h => by rw [← hAe]; exact Or.inr h
  have hS : va_S A s.heap s.heap [] := va_S.rf
  have hP : va_P (dC, dI) vwCl [(h0, .inr (10, [.ref kd, .ref pl, .ref va, .int 1, .int 0, .ref tp, .ref rs]))] s.heap := hP
  have hl := lv_entry ([.ref h0]) (n := 1) (Nat.le_of_ble_eq_true rfl)
  rw [lg_entry_eq]
  generalize (lg_sl ([.ref h0]) ++ List.replicate (1 - (lg_sl ([.ref h0])).length) Slot.unset).toArray = ls at hl ⊢
  have hl : lv_has ls 1 [(0, .ref h0)] := hl
  refine lv_aload_n hx hb dX10_onlyWord_0 rfl (lv_at hl 0 rfl) ?_
  refine va_get (D := (dC, dI)) (ci := 10) (v := .int 1) (C := RX10) (T := TX10) (N := 7) hx hb hts in_X10 hown hK hP 0 rfl rfl 3 (by decide) (hts _ wd_100) (fun _ h9 => h9) rfl dX10_onlyWord_1 ?_
  refine lv_iconst (v := 2) hx hb dX10_onlyWord_4 (by decide) ?_
  refine lv_icmp_ne (tgt := 27) hx hb dX10_onlyWord_5 (by decide) (fun _ => ?_) (fun h => absurd h (by decide))
  refine lv_lconst (v := 0) hx hb dX10_onlyWord_27 (by decide) ?_
  have hP9 := hP.sub (ws' := []) [] rfl
  have hD9 := hD.sub (ws' := []) [] (by decide) rfl
  have hK9 := hK.sub (tys' := []) [] rfl
  refine W.widen (k := 0) (n := 0) (Nat.le_of_ble_eq_true rfl) (Nat.le_of_ble_eq_true rfl) ?_
  exact W.lret (v := 0) hx hb hr (fun t ht hW => ⟨⟨0, (), rfl, rfl, by rw [ht]; exact hP9, va_K.moved hW.alike hK9, hD9⟩, hS.F ht⟩) hS.2.2 dX10_onlyWord_28
set_option maxHeartbeats 4000000 in
set_option maxRecDepth 100000 in
theorem ct_X5_has (l : Launch) (dC : Nat → ClassId) (dI : Nat → Nat → Nat) (h0 : Nat) (q : Nat → Nat) (sc : Nat) (k : Int32) (sz : Nat) : Met l yX5_has (.code yX5_has cX5_has 2 (some .boolean) :: tb) ({ frames := 0, cells := 0, slots := 0, locals := 0 }) (va_Pc [.ref h0, .int k] (fun U => U.heap.size = sz ∧ va_P (dC, dI) vwCl [(h0, .inr (5, [.int 0, .ref (q 0), .ref (q 1), .ref (q 2), .ref sc, .int 0, .ref (q 3), .ref (q 4), .ref (q 5), .ref (q 6), .ref (q 7), .ref (q 8), .ref (q 9), .ref (q 10)]))] U.heap ∧ va_K (dC, dI) vwCl [] U ∧ va_D (fun _ => True) [(h0, .inr (5, [.int 0, .ref (q 0), .ref (q 1), .ref (q 2), .ref sc, .int 0, .ref (q 3), .ref (q 4), .ref (q 5), .ref (q 6), .ref (q 7), .ref (q 8), .ref (q 9), .ref (q 10)]))])) (va_Qi (fun (r : Int32) (_ : Unit) => r = 0) (fun (_ : Unit) t => va_P (dC, dI) vwCl [] t.heap ∧ va_K (dC, dI) vwCl [] t ∧ va_D (va_A [(h0, .inr (5, [.int 0, .ref (q 0), .ref (q 1), .ref (q 2), .ref sc, .int 0, .ref (q 3), .ref (q 4), .ref (q 5), .ref (q 6), .ref (q 7), .ref (q 8), .ref (q 9), .ref (q 10)]))] sz) []) (va_A [(h0, .inr (5, [.int 0, .ref (q 0), .ref (q 1), .ref (q 2), .ref sc, .int 0, .ref (q 3), .ref (q 4), .ref (q 5), .ref (q 6), .ref (q 7), .ref (q 8), .ref (q 9), .ref (q 10)]))] sz)) 0 0 (va_A [(h0, .inr (5, [.int 0, .ref (q 0), .ref (q 1), .ref (q 2), .ref sc, .int 0, .ref (q 3), .ref (q 4), .ref (q 5), .ref (q 6), .ref (q 7), .ref (q 8), .ref (q 9), .ref (q 10)]))] sz) := by
  refine Met.ofW (cc := cX5_has) (maxL := 2) (ret := (some .boolean)) (by decide) rfl ?_
  intro p e s m args below meth c s₁ B hml hv
  obtain ⟨rfl, hsz, hP, hK, hD0⟩ := hv
  have hx := B.exec
  have hb := B.bytes
  have hr := B.returns
  have hts : ∀ w ∈ tb, w.before _ s = true := fun w h => atoms_spec (ws := (.code yX5_has cX5_has 2 (some .boolean) :: tb)) B.pre w (List.mem_cons_of_mem _ h)
  have hown : s.vm.findClass RX5 = some m.cls := findClass_of_methodNamed B.named
  have hlocks := B.notSynchronized
  subst hsz
  have hD := hD0.self (sz := s.heap.size)
  generalize hAe : va_A [(h0, .inr (5, [.int 0, .ref (q 0), .ref (q 1), .ref (q 2), .ref sc, .int 0, .ref (q 3), .ref (q 4), .ref (q 5), .ref (q 6), .ref (q 7), .ref (q 8), .ref (q 9), .ref (q 10)]))] s.heap.size = A at hD ⊢
  have hA : ∀ q : Nat, s.heap.size ≤ q → A q := fun q h => by rw [← hAe]; exact Or.inr h
  have hS : va_S A s.heap s.heap [] := va_S.rf
  have hP : va_P (dC, dI) vwCl [(h0, .inr (5, [.int 0, .ref (q 0), .ref (q 1), .ref (q 2), .ref sc, .int 0, .ref (q 3), .ref (q 4), .ref (q 5), .ref (q 6), .ref (q 7), .ref (q 8), .ref (q 9), .ref (q 10)]))] s.heap := hP
  have hl := lv_entry ([.ref h0, .int k]) (n := 2) (Nat.le_of_ble_eq_true rfl)
  rw [lg_entry_eq]
  generalize (lg_sl ([.ref h0, .int k]) ++ List.replicate (2 - (lg_sl ([.ref h0, .int k])).length) Slot.unset).toArray = ls at hl ⊢
  have hl : lv_has ls 2 [(0, .ref h0), (1, .int k)] := hl
  refine lv_iload_n hx hb dX5_has_0 rfl (lv_at hl 1 rfl) ?_
  refine lv_if_lt (tgt := 16) hx hb dX5_has_1 (by decide) (fun c1 => ?_) (fun c1 => ?_)
  · refine lv_iconst (v := 0) hx hb dX5_has_16 (by decide) ?_
    have hP9 := hP.sub (ws' := []) [] rfl
    have hD9 := hD.sub (ws' := []) [] (by decide) rfl
    have hK9 := hK.sub (tys' := []) [] rfl
    refine W.widen (k := 0) (n := 0) (Nat.le_of_ble_eq_true rfl) (Nat.le_of_ble_eq_true rfl) ?_
    exact W.zret (v := 0) hx hb hr rfl (fun t ht hW => ⟨⟨0, (), rfl, rfl, by rw [ht]; exact hP9, va_K.moved hW.alike hK9, hD9⟩, hS.F ht⟩) hS.2.2 dX5_has_17
  · refine lv_iload_n hx hb dX5_has_4 rfl (lv_at hl 1 rfl) ?_
    refine lv_aload_n hx hb dX5_has_5 rfl (lv_at hl 0 rfl) ?_
    refine va_get (D := (dC, dI)) (ci := 5) (v := .int 0) (C := RX5) (T := TX5) (N := 14) hx hb hts in_X5 hown hK hP 0 rfl rfl 5 (by decide) (hts _ wd_413) (fun _ h9 => h9) rfl dX5_has_6 ?_
    refine lv_icmp_ge (tgt := 16) hx hb dX5_has_9 (by decide) (fun c2 => ?_) (fun c2 => ?_)
    · refine lv_iconst (v := 0) hx hb dX5_has_16 (by decide) ?_
      have hP9 := hP.sub (ws' := []) [] rfl
      have hD9 := hD.sub (ws' := []) [] (by decide) rfl
      have hK9 := hK.sub (tys' := []) [] rfl
      refine W.widen (k := 0) (n := 0) (Nat.le_of_ble_eq_true rfl) (Nat.le_of_ble_eq_true rfl) ?_
      exact W.zret (v := 0) hx hb hr rfl (fun t ht hW => ⟨⟨0, (), rfl, rfl, by rw [ht]; exact hP9, va_K.moved hW.alike hK9, hD9⟩, hS.F ht⟩) hS.2.2 dX5_has_17
    · exact px_dead (by first | exact absurd c2 c1 | exact absurd c1 c2 | exact absurd (Int32.not_lt.mp c1) c2 | exact absurd (Int32.not_le.mp c1) c2 | exact absurd c2 (Int32.not_lt.mpr c1) | exact absurd c2 (Int32.not_le.mpr c1))
set_option maxHeartbeats 4000000 in
set_option maxRecDepth 100000 in
theorem ct_X5_hasState (l : Launch) (dC : Nat → ClassId) (dI : Nat → Nat → Nat) (h0 : Nat) (q : Nat → Nat) (sc : Nat) (k : Int32) (st : Int32) (sz : Nat) : Met l yX5_hasState (.code yX5_hasState cX5_hasState 3 (some .boolean) :: tb) ({ frames := 1, cells := 0, slots := 0, locals := 21 }) (va_Pc [.ref h0, .int k, .int st] (fun U => U.heap.size = sz ∧ va_P (dC, dI) vwCl [(h0, .inr (5, [.int 0, .ref (q 0), .ref (q 1), .ref (q 2), .ref sc, .int 0, .ref (q 3), .ref (q 4), .ref (q 5), .ref (q 6), .ref (q 7), .ref (q 8), .ref (q 9), .ref (q 10)]))] U.heap ∧ va_K (dC, dI) vwCl [] U ∧ va_D (fun _ => True) [(h0, .inr (5, [.int 0, .ref (q 0), .ref (q 1), .ref (q 2), .ref sc, .int 0, .ref (q 3), .ref (q 4), .ref (q 5), .ref (q 6), .ref (q 7), .ref (q 8), .ref (q 9), .ref (q 10)]))])) (va_Qi (fun (r : Int32) (_ : Unit) => r = 0) (fun (_ : Unit) t => va_P (dC, dI) vwCl [] t.heap ∧ va_K (dC, dI) vwCl [] t ∧ va_D (va_A [(h0, .inr (5, [.int 0, .ref (q 0), .ref (q 1), .ref (q 2), .ref sc, .int 0, .ref (q 3), .ref (q 4), .ref (q 5), .ref (q 6), .ref (q 7), .ref (q 8), .ref (q 9), .ref (q 10)]))] sz) []) (va_A [(h0, .inr (5, [.int 0, .ref (q 0), .ref (q 1), .ref (q 2), .ref sc, .int 0, .ref (q 3), .ref (q 4), .ref (q 5), .ref (q 6), .ref (q 7), .ref (q 8), .ref (q 9), .ref (q 10)]))] sz)) 0 0 (va_A [(h0, .inr (5, [.int 0, .ref (q 0), .ref (q 1), .ref (q 2), .ref sc, .int 0, .ref (q 3), .ref (q 4), .ref (q 5), .ref (q 6), .ref (q 7), .ref (q 8), .ref (q 9), .ref (q 10)]))] sz) := by
  refine Met.ofW (cc := cX5_hasState) (maxL := 3) (ret := (some .boolean)) (by decide) rfl ?_
  intro p e s m args below meth c s₁ B hml hv
  obtain ⟨rfl, hsz, hP, hK, hD0⟩ := hv
  have hx := B.exec
  have hb := B.bytes
  have hr := B.returns
  have hts : ∀ w ∈ tb, w.before _ s = true := fun w h => atoms_spec (ws := (.code yX5_hasState cX5_hasState 3 (some .boolean) :: tb)) B.pre w (List.mem_cons_of_mem _ h)
  have hown : s.vm.findClass RX5 = some m.cls := findClass_of_methodNamed B.named
  have hlocks := B.notSynchronized
  subst hsz
  have hD := hD0.self (sz := s.heap.size)
  generalize hAe : va_A [(h0, .inr (5, [.int 0, .ref (q 0), .ref (q 1), .ref (q 2), .ref sc, .int 0, .ref (q 3), .ref (q 4), .ref (q 5), .ref (q 6), .ref (q 7), .ref (q 8), .ref (q 9), .ref (q 10)]))] s.heap.size = A at hD ⊢
  have hA : ∀ q : Nat, s.heap.size ≤ q → A q := fun q h => by rw [← hAe]; exact Or.inr h
  have hS : va_S A s.heap s.heap [] := va_S.rf
  have hP : va_P (dC, dI) vwCl [(h0, .inr (5, [.int 0, .ref (q 0), .ref (q 1), .ref (q 2), .ref sc, .int 0, .ref (q 3), .ref (q 4), .ref (q 5), .ref (q 6), .ref (q 7), .ref (q 8), .ref (q 9), .ref (q 10)]))] s.heap := hP
  have hl := lv_entry ([.ref h0, .int k, .int st]) (n := 3) (Nat.le_of_ble_eq_true rfl)
  rw [lg_entry_eq]
  generalize (lg_sl ([.ref h0, .int k, .int st]) ++ List.replicate (3 - (lg_sl ([.ref h0, .int k, .int st])).length) Slot.unset).toArray = ls at hl ⊢
  have hl : lv_has ls 3 [(0, .ref h0), (1, .int k), (2, .int st)] := hl
  refine lv_aload_n hx hb dX5_hasState_0 rfl (lv_at hl 0 rfl) ?_
  refine lv_iload_n hx hb dX5_hasState_1 rfl (lv_at hl 1 rfl) ?_
  have hPc := hP.sub (ws' := [(h0, .inr (5, [.int 0, .ref (q 0), .ref (q 1), .ref (q 2), .ref sc, .int 0, .ref (q 3), .ref (q 4), .ref (q 5), .ref (q 6), .ref (q 7), .ref (q 8), .ref (q 9), .ref (q 10)]))]) [0] rfl
  have hDc := hD.sub (ws' := [(h0, .inr (5, [.int 0, .ref (q 0), .ref (q 1), .ref (q 2), .ref sc, .int 0, .ref (q 3), .ref (q 4), .ref (q 5), .ref (q 6), .ref (q 7), .ref (q 8), .ref (q 9), .ref (q 10)]))]) [0] (by decide) rfl
  have hKc := hK.sub (tys' := []) [] rfl
  have hFc := va_free (wc := [(h0, .inr (5, [.int 0, .ref (q 0), .ref (q 1), .ref (q 2), .ref sc, .int 0, .ref (q 3), .ref (q 4), .ref (q 5), .ref (q 6), .ref (q 7), .ref (q 8), .ref (q 9), .ref (q 10)]))]) hD hS hA [0] rfl
  refine va_calli (va_runV (As := [.int k]) (rest := []) ⟨hx, hb, hml, hown, hts⟩ (ct_X5_has l dC dI h0 q sc k s.heap.size) (cwV 1 hts (gd_V wd_648 wd_649 wd_650 wd_13 wd_651) rfl rfl rfl (by decide +kernel) ⟨Nat.le_of_ble_eq_true rfl, Nat.le_of_ble_eq_true rfl⟩) ⟨fun a U g mk q => by obtain ⟨q0, q1, qP, qK, qD⟩ := q; exact ⟨q0, q1, qP, va_K.moved (u := U) (U := U.calling g mk a) (Vm.Alike.refl U.vm) qK, qD⟩, va_recv hKc hPc (ci := 5) (q0 := 0) rfl rfl, fun U hU hW => ⟨rfl, by rw [hU], by rw [hU]; exact hPc, va_K.moved hW.alike hKc, hDc.weaken (fun _ _ _ _ => trivial)⟩⟩ rfl rfl hl.1 rfl (lv_room (Nat.le_of_ble_eq_true rfl)) dX5_hasState_2 ⟨Nat.le_of_ble_eq_true rfl, Nat.le_of_ble_eq_true rfl⟩) hS (fun q _ h => hFc q h) hFc (fun r1 u t H1 locs ht hvm hw hB hz1 hk1 hS => ?_)
  obtain ⟨hP1, hK1, hD1⟩ := hB
  rw [ht] at hP1
  have hK1 := va_K.moved hvm.symm hK1
  obtain ⟨hP, hD⟩ := va_join (wr := []) (w1 := []) hP hD [0] [] rfl rfl (by decide) (by decide) hk1 hFc hP1 hD1
  have hK := (hK.sub (tys' := []) [] rfl).app (hK1.sub (tys' := []) [] rfl)
  generalize H1 = H at hP hS ⊢
  have hP : va_P (dC, dI) vwCl [] H := hP
  have hD : va_D A [] := hD
  have hK : va_K (dC, dI) vwCl [] s := hK
  obtain rfl := hw
  refine lv_if_eq (tgt := 26) hx hb dX5_hasState_5 (by decide) (fun _ => ?_) (fun h => absurd (by decide) h)
  refine lv_iconst (v := 0) hx hb dX5_hasState_26 (by decide) ?_
  have hP9 := hP.sub (ws' := []) [] rfl
  have hD9 := hD.sub (ws' := []) [] (by decide) rfl
  have hK9 := hK.sub (tys' := []) [] rfl
  refine W.widen (k := 0) (n := 0) (Nat.le_of_ble_eq_true rfl) (Nat.le_of_ble_eq_true rfl) ?_
  exact W.zret (v := 0) hx hb hr rfl (fun t ht hW => ⟨⟨0, (), rfl, rfl, by rw [ht]; exact hP9, va_K.moved hW.alike hK9, hD9⟩, hS.F ht⟩) hS.2.2 dX5_hasState_27
set_option maxHeartbeats 4000000 in
set_option maxRecDepth 100000 in
theorem ct_X1_has (l : Launch) (dC : Nat → ClassId) (dI : Nat → Nat → Nat) (h0 : Nat) (pv : Value) (xt : Nat) (xr : Nat) (le : Nat) (lc : Nat) (ln : Nat) (al : Nat) (lo : Nat) (xg : Nat) (k : Int32) (sz : Nat) : Met l yX1_has (.code yX1_has cX1_has 2 (some .boolean) :: tb) ({ frames := 0, cells := 0, slots := 0, locals := 0 }) (va_Pc [.ref h0, .int k] (fun U => U.heap.size = sz ∧ va_P (dC, dI) vwCl [(h0, .inr (1, [pv, .ref xt, .int 0, .int 0, .ref xr, .int 0, .int 0, .ref le, .ref lc, .ref ln, .ref al, .ref lo, .ref xg, .int 0, .null]))] U.heap ∧ va_K (dC, dI) vwCl [] U ∧ va_D (fun _ => True) [(h0, .inr (1, [pv, .ref xt, .int 0, .int 0, .ref xr, .int 0, .int 0, .ref le, .ref lc, .ref ln, .ref al, .ref lo, .ref xg, .int 0, .null]))])) (va_Qi (fun (r : Int32) (_ : Unit) => r = 0) (fun (_ : Unit) t => va_P (dC, dI) vwCl [] t.heap ∧ va_K (dC, dI) vwCl [] t ∧ va_D (va_A [(h0, .inr (1, [pv, .ref xt, .int 0, .int 0, .ref xr, .int 0, .int 0, .ref le, .ref lc, .ref ln, .ref al, .ref lo, .ref xg, .int 0, .null]))] sz) []) (va_A [(h0, .inr (1, [pv, .ref xt, .int 0, .int 0, .ref xr, .int 0, .int 0, .ref le, .ref lc, .ref ln, .ref al, .ref lo, .ref xg, .int 0, .null]))] sz)) 0 0 (va_A [(h0, .inr (1, [pv, .ref xt, .int 0, .int 0, .ref xr, .int 0, .int 0, .ref le, .ref lc, .ref ln, .ref al, .ref lo, .ref xg, .int 0, .null]))] sz) := by
  refine Met.ofW (cc := cX1_has) (maxL := 2) (ret := (some .boolean)) (by decide) rfl ?_
  intro p e s m args below meth c s₁ B hml hv
  obtain ⟨rfl, hsz, hP, hK, hD0⟩ := hv
  have hx := B.exec
  have hb := B.bytes
  have hr := B.returns
  have hts : ∀ w ∈ tb, w.before _ s = true := fun w h => atoms_spec (ws := (.code yX1_has cX1_has 2 (some .boolean) :: tb)) B.pre w (List.mem_cons_of_mem _ h)
  have hown : s.vm.findClass RX1 = some m.cls := findClass_of_methodNamed B.named
  have hlocks := B.notSynchronized
  subst hsz
  have hD := hD0.self (sz := s.heap.size)
  generalize hAe : va_A [(h0, .inr (1, [pv, .ref xt, .int 0, .int 0, .ref xr, .int 0, .int 0, .ref le, .ref lc, .ref ln, .ref al, .ref lo, .ref xg, .int 0, .null]))] s.heap.size = A at hD ⊢
  have hA : ∀ q : Nat, s.heap.size ≤ q → A q := fun q h => by rw [← hAe]; exact Or.inr h
  have hS : va_S A s.heap s.heap [] := va_S.rf
  have hP : va_P (dC, dI) vwCl [(h0, .inr (1, [pv, .ref xt, .int 0, .int 0, .ref xr, .int 0, .int 0, .ref le, .ref lc, .ref ln, .ref al, .ref lo, .ref xg, .int 0, .null]))] s.heap := hP
  have hl := lv_entry ([.ref h0, .int k]) (n := 2) (Nat.le_of_ble_eq_true rfl)
  rw [lg_entry_eq]
  generalize (lg_sl ([.ref h0, .int k]) ++ List.replicate (2 - (lg_sl ([.ref h0, .int k])).length) Slot.unset).toArray = ls at hl ⊢
  have hl : lv_has ls 2 [(0, .ref h0), (1, .int k)] := hl
  refine lv_iload_n hx hb dX1_has_0 rfl (lv_at hl 1 rfl) ?_
  refine lv_if_lt (tgt := 16) hx hb dX1_has_1 (by decide) (fun c1 => ?_) (fun c1 => ?_)
  · refine lv_iconst (v := 0) hx hb dX1_has_16 (by decide) ?_
    have hP9 := hP.sub (ws' := []) [] rfl
    have hD9 := hD.sub (ws' := []) [] (by decide) rfl
    have hK9 := hK.sub (tys' := []) [] rfl
    refine W.widen (k := 0) (n := 0) (Nat.le_of_ble_eq_true rfl) (Nat.le_of_ble_eq_true rfl) ?_
    exact W.zret (v := 0) hx hb hr rfl (fun t ht hW => ⟨⟨0, (), rfl, rfl, by rw [ht]; exact hP9, va_K.moved hW.alike hK9, hD9⟩, hS.F ht⟩) hS.2.2 dX1_has_17
  · refine lv_iload_n hx hb dX1_has_4 rfl (lv_at hl 1 rfl) ?_
    refine lv_aload_n hx hb dX1_has_5 rfl (lv_at hl 0 rfl) ?_
    refine va_get (D := (dC, dI)) (ci := 1) (v := .int 0) (C := RX1) (T := TX1) (N := 15) hx hb hts in_X1 hown hK hP 0 rfl rfl 2 (by decide) (hts _ wd_237) (fun _ h9 => h9) rfl dX1_has_6 ?_
    refine lv_icmp_ge (tgt := 16) hx hb dX1_has_9 (by decide) (fun c2 => ?_) (fun c2 => ?_)
    · refine lv_iconst (v := 0) hx hb dX1_has_16 (by decide) ?_
      have hP9 := hP.sub (ws' := []) [] rfl
      have hD9 := hD.sub (ws' := []) [] (by decide) rfl
      have hK9 := hK.sub (tys' := []) [] rfl
      refine W.widen (k := 0) (n := 0) (Nat.le_of_ble_eq_true rfl) (Nat.le_of_ble_eq_true rfl) ?_
      exact W.zret (v := 0) hx hb hr rfl (fun t ht hW => ⟨⟨0, (), rfl, rfl, by rw [ht]; exact hP9, va_K.moved hW.alike hK9, hD9⟩, hS.F ht⟩) hS.2.2 dX1_has_17
    · exact px_dead (by first | exact absurd c2 c1 | exact absurd c1 c2 | exact absurd (Int32.not_lt.mp c1) c2 | exact absurd (Int32.not_le.mp c1) c2 | exact absurd c2 (Int32.not_lt.mpr c1) | exact absurd c2 (Int32.not_le.mpr c1))
set_option maxHeartbeats 4000000 in
set_option maxRecDepth 100000 in
theorem ct_X1_leaveRow (l : Launch) (dC : Nat → ClassId) (dI : Nat → Nat → Nat) (h0 : Nat) (pv : Value) (xt : Nat) (xr : Nat) (le : Nat) (lc : Nat) (ln : Nat) (al : Nat) (lo : Nat) (xg : Nat) (k : Int32) (sz : Nat) : Met l yX1_leaveRow (.code yX1_leaveRow cX1_leaveRow 4 (some (.object "Sleepers$Task")) :: tb) ({ frames := 0, cells := 0, slots := 0, locals := 0 }) (va_Pc [.ref h0, .int k] (fun U => U.heap.size = sz ∧ va_P (dC, dI) vwCl [(h0, .inr (1, [pv, .ref xt, .int 0, .int 0, .ref xr, .int 0, .int 0, .ref le, .ref lc, .ref ln, .ref al, .ref lo, .ref xg, .int 0, .null]))] U.heap ∧ va_K (dC, dI) vwCl [] U ∧ va_D (fun _ => True) [(h0, .inr (1, [pv, .ref xt, .int 0, .int 0, .ref xr, .int 0, .int 0, .ref le, .ref lc, .ref ln, .ref al, .ref lo, .ref xg, .int 0, .null]))])) (qn_Q (fun (_ : Unit) t => va_P (dC, dI) vwCl [] t.heap ∧ va_K (dC, dI) vwCl [] t ∧ va_D (va_A [(h0, .inr (1, [pv, .ref xt, .int 0, .int 0, .ref xr, .int 0, .int 0, .ref le, .ref lc, .ref ln, .ref al, .ref lo, .ref xg, .int 0, .null]))] sz) []) (va_A [(h0, .inr (1, [pv, .ref xt, .int 0, .int 0, .ref xr, .int 0, .int 0, .ref le, .ref lc, .ref ln, .ref al, .ref lo, .ref xg, .int 0, .null]))] sz)) 0 0 (va_A [(h0, .inr (1, [pv, .ref xt, .int 0, .int 0, .ref xr, .int 0, .int 0, .ref le, .ref lc, .ref ln, .ref al, .ref lo, .ref xg, .int 0, .null]))] sz) := by
  refine Met.ofW (cc := cX1_leaveRow) (maxL := 4) (ret := (some (.object "Sleepers$Task"))) (by decide) rfl ?_
  intro p e s m args below meth c s₁ B hml hv
  obtain ⟨rfl, hsz, hP, hK, hD0⟩ := hv
  have hx := B.exec
  have hb := B.bytes
  have hr := B.returns
  have hts : ∀ w ∈ tb, w.before _ s = true := fun w h => atoms_spec (ws := (.code yX1_leaveRow cX1_leaveRow 4 (some (.object "Sleepers$Task")) :: tb)) B.pre w (List.mem_cons_of_mem _ h)
  have hown : s.vm.findClass RX1 = some m.cls := findClass_of_methodNamed B.named
  have hlocks := B.notSynchronized
  subst hsz
  have hD := hD0.self (sz := s.heap.size)
  generalize hAe : va_A [(h0, .inr (1, [pv, .ref xt, .int 0, .int 0, .ref xr, .int 0, .int 0, .ref le, .ref lc, .ref ln, .ref al, .ref lo, .ref xg, .int 0, .null]))] s.heap.size = A at hD ⊢
  have hA : ∀ q : Nat, s.heap.size ≤ q → A q := fun q h => by rw [← hAe]; exact Or.inr h
  have hS : va_S A s.heap s.heap [] := va_S.rf
  have hP : va_P (dC, dI) vwCl [(h0, .inr (1, [pv, .ref xt, .int 0, .int 0, .ref xr, .int 0, .int 0, .ref le, .ref lc, .ref ln, .ref al, .ref lo, .ref xg, .int 0, .null]))] s.heap := hP
  have hl := lv_entry ([.ref h0, .int k]) (n := 4) (Nat.le_of_ble_eq_true rfl)
  rw [lg_entry_eq]
  generalize (lg_sl ([.ref h0, .int k]) ++ List.replicate (4 - (lg_sl ([.ref h0, .int k])).length) Slot.unset).toArray = ls at hl ⊢
  have hl : lv_has ls 4 [(0, .ref h0), (1, .int k)] := hl
  refine lv_iload_n hx hb dX1_leaveRow_0 rfl (lv_at hl 1 rfl) ?_
  refine lv_if_lt (tgt := 12) hx hb dX1_leaveRow_1 (by decide) (fun c1 => ?_) (fun c1 => ?_)
  · refine lv_null hx hb dX1_leaveRow_12 ?_
    have hP9 := hP.sub (ws' := []) [] rfl
    have hD9 := hD.sub (ws' := []) [] (by decide) rfl
    have hK9 := hK.sub (tys' := []) [] rfl
    refine W.widen (k := 0) (n := 0) (Nat.le_of_ble_eq_true rfl) (Nat.le_of_ble_eq_true rfl) ?_
    exact W.aret (v := .null) hx hb hr (Or.inl ⟨_, rfl⟩) (Or.inl rfl) (fun t ht hW => ⟨⟨rfl, by rw [ht]; exact hP9, va_K.moved hW.alike hK9, hD9⟩, hS.F ht⟩) hS.2.2 dX1_leaveRow_13
  · refine lv_iload_n hx hb dX1_leaveRow_4 rfl (lv_at hl 1 rfl) ?_
    refine lv_aload_n hx hb dX1_leaveRow_5 rfl (lv_at hl 0 rfl) ?_
    refine va_get (D := (dC, dI)) (ci := 1) (v := .int 0) (C := RX1) (T := TX1) (N := 15) hx hb hts in_X1 hown hK hP 0 rfl rfl 5 (by decide) (hts _ wd_243) (fun _ h9 => h9) rfl dX1_leaveRow_6 ?_
    refine lv_icmp_lt (tgt := 14) hx hb dX1_leaveRow_9 (by decide) (fun c2 => ?_) (fun c2 => ?_)
    · exact px_dead (by first | exact absurd c2 c1 | exact absurd c1 c2 | exact absurd (Int32.not_lt.mp c1) c2 | exact absurd (Int32.not_le.mp c1) c2 | exact absurd c2 (Int32.not_lt.mpr c1) | exact absurd c2 (Int32.not_le.mpr c1))
    · refine lv_null hx hb dX1_leaveRow_12 ?_
      have hP9 := hP.sub (ws' := []) [] rfl
      have hD9 := hD.sub (ws' := []) [] (by decide) rfl
      have hK9 := hK.sub (tys' := []) [] rfl
      refine W.widen (k := 0) (n := 0) (Nat.le_of_ble_eq_true rfl) (Nat.le_of_ble_eq_true rfl) ?_
      exact W.aret (v := .null) hx hb hr (Or.inl ⟨_, rfl⟩) (Or.inl rfl) (fun t ht hW => ⟨⟨rfl, by rw [ht]; exact hP9, va_K.moved hW.alike hK9, hD9⟩, hS.F ht⟩) hS.2.2 dX1_leaveRow_13
set_option maxHeartbeats 4000000 in
set_option maxRecDepth 100000 in
theorem ct_X1_callOff (l : Launch) (dC : Nat → ClassId) (dI : Nat → Nat → Nat) (h0 : Nat) (pv : Value) (xt : Nat) (xr : Nat) (le : Nat) (lc : Nat) (ln : Nat) (al : Nat) (lo : Nat) (xg : Nat) (k : Int32) (sz : Nat) : Met l yX1_callOff (.code yX1_callOff cX1_callOff 3 (some .boolean) :: tb) ({ frames := 1, cells := 0, slots := 0, locals := 21 }) (va_Pc [.ref h0, .int k] (fun U => U.heap.size = sz ∧ va_P (dC, dI) vwCl [(h0, .inr (1, [pv, .ref xt, .int 0, .int 0, .ref xr, .int 0, .int 0, .ref le, .ref lc, .ref ln, .ref al, .ref lo, .ref xg, .int 0, .null]))] U.heap ∧ va_K (dC, dI) vwCl [] U ∧ va_D (fun _ => True) [(h0, .inr (1, [pv, .ref xt, .int 0, .int 0, .ref xr, .int 0, .int 0, .ref le, .ref lc, .ref ln, .ref al, .ref lo, .ref xg, .int 0, .null]))])) (va_Qi (fun (r : Int32) (_ : Unit) => r = 0) (fun (_ : Unit) t => va_P (dC, dI) vwCl [] t.heap ∧ va_K (dC, dI) vwCl [] t ∧ va_D (va_A [(h0, .inr (1, [pv, .ref xt, .int 0, .int 0, .ref xr, .int 0, .int 0, .ref le, .ref lc, .ref ln, .ref al, .ref lo, .ref xg, .int 0, .null]))] sz) []) (va_A [(h0, .inr (1, [pv, .ref xt, .int 0, .int 0, .ref xr, .int 0, .int 0, .ref le, .ref lc, .ref ln, .ref al, .ref lo, .ref xg, .int 0, .null]))] sz)) 0 0 (va_A [(h0, .inr (1, [pv, .ref xt, .int 0, .int 0, .ref xr, .int 0, .int 0, .ref le, .ref lc, .ref ln, .ref al, .ref lo, .ref xg, .int 0, .null]))] sz) := by
  refine Met.ofW (cc := cX1_callOff) (maxL := 3) (ret := (some .boolean)) (by decide) rfl ?_
  intro p e s m args below meth c s₁ B hml hv
  obtain ⟨rfl, hsz, hP, hK, hD0⟩ := hv
  have hx := B.exec
  have hb := B.bytes
  have hr := B.returns
  have hts : ∀ w ∈ tb, w.before _ s = true := fun w h => atoms_spec (ws := (.code yX1_callOff cX1_callOff 3 (some .boolean) :: tb)) B.pre w (List.mem_cons_of_mem _ h)
  have hown : s.vm.findClass RX1 = some m.cls := findClass_of_methodNamed B.named
  have hlocks := B.notSynchronized
  subst hsz
  have hD := hD0.self (sz := s.heap.size)
  generalize hAe : va_A [(h0, .inr (1, [pv, .ref xt, .int 0, .int 0, .ref xr, .int 0, .int 0, .ref le, .ref lc, .ref ln, .ref al, .ref lo, .ref xg, .int 0, .null]))] s.heap.size = A at hD ⊢
  have hA : ∀ q : Nat, s.heap.size ≤ q → A q := fun q h => by rw [← hAe]; exact Or.inr h
  have hS : va_S A s.heap s.heap [] := va_S.rf
  have hP : va_P (dC, dI) vwCl [(h0, .inr (1, [pv, .ref xt, .int 0, .int 0, .ref xr, .int 0, .int 0, .ref le, .ref lc, .ref ln, .ref al, .ref lo, .ref xg, .int 0, .null]))] s.heap := hP
  have hl := lv_entry ([.ref h0, .int k]) (n := 3) (Nat.le_of_ble_eq_true rfl)
  rw [lg_entry_eq]
  generalize (lg_sl ([.ref h0, .int k]) ++ List.replicate (3 - (lg_sl ([.ref h0, .int k])).length) Slot.unset).toArray = ls at hl ⊢
  have hl : lv_has ls 3 [(0, .ref h0), (1, .int k)] := hl
  refine lv_aload_n hx hb dX1_callOff_0 rfl (lv_at hl 0 rfl) ?_
  refine lv_iload_n hx hb dX1_callOff_1 rfl (lv_at hl 1 rfl) ?_
  have hPc := hP.sub (ws' := [(h0, .inr (1, [(pv : Value), .ref xt, .int 0, .int 0, .ref xr, .int 0, .int 0, .ref le, .ref lc, .ref ln, .ref al, .ref lo, .ref xg, .int 0, .null]))]) [0] rfl
  have hDc := hD.sub (ws' := [(h0, .inr (1, [(pv : Value), .ref xt, .int 0, .int 0, .ref xr, .int 0, .int 0, .ref le, .ref lc, .ref ln, .ref al, .ref lo, .ref xg, .int 0, .null]))]) [0] (by decide) rfl
  have hKc := hK.sub (tys' := []) [] rfl
  have hFc := va_free (wc := [(h0, .inr (1, [(pv : Value), .ref xt, .int 0, .int 0, .ref xr, .int 0, .int 0, .ref le, .ref lc, .ref ln, .ref al, .ref lo, .ref xg, .int 0, .null]))]) hD hS hA [0] rfl
  refine va_calli (va_runV (As := [.int k]) (rest := []) ⟨hx, hb, hml, hown, hts⟩ (ct_X1_has l dC dI h0 (pv : Value) xt xr le lc ln al lo xg k s.heap.size) (cwV 1 hts (gd_V wd_1240 wd_1241 wd_1242 wd_9 wd_1243) rfl rfl rfl (by decide +kernel) ⟨Nat.le_of_ble_eq_true rfl, Nat.le_of_ble_eq_true rfl⟩) ⟨fun a U g mk q => by obtain ⟨q0, q1, qP, qK, qD⟩ := q; exact ⟨q0, q1, qP, va_K.moved (u := U) (U := U.calling g mk a) (Vm.Alike.refl U.vm) qK, qD⟩, va_recv hKc hPc (ci := 1) (q0 := 0) rfl rfl, fun U hU hW => ⟨rfl, by rw [hU], by rw [hU]; exact hPc, va_K.moved hW.alike hKc, hDc.weaken (fun _ _ _ _ => trivial)⟩⟩ rfl rfl hl.1 rfl (lv_room (Nat.le_of_ble_eq_true rfl)) dX1_callOff_2 ⟨Nat.le_of_ble_eq_true rfl, Nat.le_of_ble_eq_true rfl⟩) hS (fun q _ h => hFc q h) hFc (fun r1 u t H1 locs ht hvm hw hB hz1 hk1 hS => ?_)
  obtain ⟨hP1, hK1, hD1⟩ := hB
  rw [ht] at hP1
  have hK1 := va_K.moved hvm.symm hK1
  obtain ⟨hP, hD⟩ := va_join (wr := []) (w1 := []) hP hD [0] [] rfl rfl (by decide) (by decide) hk1 hFc hP1 hD1
  have hK := (hK.sub (tys' := []) [] rfl).app (hK1.sub (tys' := []) [] rfl)
  generalize H1 = H at hP hS ⊢
  have hP : va_P (dC, dI) vwCl [] H := hP
  have hD : va_D A [] := hD
  have hK : va_K (dC, dI) vwCl [] s := hK
  obtain rfl := hw
  refine lv_if_eq (tgt := 33) hx hb dX1_callOff_5 (by decide) (fun _ => ?_) (fun h => absurd (by decide) h)
  refine lv_iconst (v := 0) hx hb dX1_callOff_33 (by decide) ?_
  have hP9 := hP.sub (ws' := []) [] rfl
  have hD9 := hD.sub (ws' := []) [] (by decide) rfl
  have hK9 := hK.sub (tys' := []) [] rfl
  refine W.widen (k := 0) (n := 0) (Nat.le_of_ble_eq_true rfl) (Nat.le_of_ble_eq_true rfl) ?_
  exact W.zret (v := 0) hx hb hr rfl (fun t ht hW => ⟨⟨0, (), rfl, rfl, by rw [ht]; exact hP9, va_K.moved hW.alike hK9, hD9⟩, hS.F ht⟩) hS.2.2 dX1_callOff_34
set_option maxHeartbeats 4000000 in
set_option maxRecDepth 100000 in
theorem ct_X1_lettersLying (l : Launch) (dC : Nat → ClassId) (dI : Nat → Nat → Nat) (h0 : Nat) (pv : Value) (xt : Nat) (xr : Nat) (le : Nat) (lc : Nat) (ln : Nat) (al : Nat) (lo : Nat) (xg : Nat) (klc : ClassId) (sz : Nat) : Met l yX1_lettersLying (.code yX1_lettersLying cX1_lettersLying 3 (some .int) :: tb) ({ frames := 0, cells := 0, slots := 0, locals := 0 }) (va_Pc [.ref h0] (fun U => U.heap.size = sz ∧ va_P (dC, dI) vwCl [(h0, .inr (1, [pv, .ref xt, .int 0, .int 0, .ref xr, .int 0, .int 0, .ref le, .ref lc, .ref ln, .ref al, .ref lo, .ref xg, .int 0, .null])), (lc, .inl (klc, 8, .inl (fun _ => 0)))] U.heap ∧ va_K (dC, dI) vwCl [(klc, .int)] U ∧ va_D (fun _ => True) [(h0, .inr (1, [pv, .ref xt, .int 0, .int 0, .ref xr, .int 0, .int 0, .ref le, .ref lc, .ref ln, .ref al, .ref lo, .ref xg, .int 0, .null])), (lc, .inl (klc, 8, .inl (fun _ => 0)))])) (va_Qi (fun (r : Int32) (_ : Unit) => r = 0) (fun (_ : Unit) t => va_P (dC, dI) vwCl [] t.heap ∧ va_K (dC, dI) vwCl [] t ∧ va_D (va_A [(h0, .inr (1, [pv, .ref xt, .int 0, .int 0, .ref xr, .int 0, .int 0, .ref le, .ref lc, .ref ln, .ref al, .ref lo, .ref xg, .int 0, .null])), (lc, .inl (klc, 8, .inl (fun _ => 0)))] sz) []) (va_A [(h0, .inr (1, [pv, .ref xt, .int 0, .int 0, .ref xr, .int 0, .int 0, .ref le, .ref lc, .ref ln, .ref al, .ref lo, .ref xg, .int 0, .null])), (lc, .inl (klc, 8, .inl (fun _ => 0)))] sz)) 0 0 (va_A [(h0, .inr (1, [pv, .ref xt, .int 0, .int 0, .ref xr, .int 0, .int 0, .ref le, .ref lc, .ref ln, .ref al, .ref lo, .ref xg, .int 0, .null])), (lc, .inl (klc, 8, .inl (fun _ => 0)))] sz) := by
  refine Met.ofW (cc := cX1_lettersLying) (maxL := 3) (ret := (some .int)) (by decide) rfl ?_
  intro p e s m args below meth c s₁ B hml hv
  obtain ⟨rfl, hsz, hP, hK, hD0⟩ := hv
  have hx := B.exec
  have hb := B.bytes
  have hr := B.returns
  have hts : ∀ w ∈ tb, w.before _ s = true := fun w h => atoms_spec (ws := (.code yX1_lettersLying cX1_lettersLying 3 (some .int) :: tb)) B.pre w (List.mem_cons_of_mem _ h)
  have hown : s.vm.findClass RX1 = some m.cls := findClass_of_methodNamed B.named
  have hlocks := B.notSynchronized
  subst hsz
  have hD := hD0.self (sz := s.heap.size)
  generalize hAe : va_A [(h0, .inr (1, [pv, .ref xt, .int 0, .int 0, .ref xr, .int 0, .int 0, .ref le, .ref lc, .ref ln, .ref al, .ref lo, .ref xg, .int 0, .null])), (lc, .inl (klc, 8, .inl (fun _ => 0)))] s.heap.size = A at hD ⊢
  have hA : ∀ q : Nat, s.heap.size ≤ q → A q := fun q h => by rw [← hAe]; exact Or.inr h
  have hS : va_S A s.heap s.heap [] := va_S.rf
  have hP : va_P (dC, dI) vwCl [(h0, .inr (1, [pv, .ref xt, .int 0, .int 0, .ref xr, .int 0, .int 0, .ref le, .ref lc, .ref ln, .ref al, .ref lo, .ref xg, .int 0, .null])), (lc, .inl (klc, 8, .inl (fun _ => 0)))] s.heap := hP
  have hl := lv_entry ([.ref h0]) (n := 3) (Nat.le_of_ble_eq_true rfl)
  rw [lg_entry_eq]
  generalize (lg_sl ([.ref h0]) ++ List.replicate (3 - (lg_sl ([.ref h0])).length) Slot.unset).toArray = ls at hl ⊢
  have hl : lv_has ls 3 [(0, .ref h0)] := hl
  refine lv_iconst (v := 0) hx hb dX1_lettersLying_0 (by decide) ?_
  refine lv_istore_n (lv' := [(1, .int 0), (0, .ref h0)]) hx hb dX1_lettersLying_1 rfl hl (by decide) rfl (fun ls hl => ?_)
  refine lv_iconst (v := 0) hx hb dX1_lettersLying_2 (by decide) ?_
  refine lv_istore_n (lv' := [(2, .int 0), (1, .int 0), (0, .ref h0)]) hx hb dX1_lettersLying_3 rfl hl (by decide) rfl (fun ls hl => ?_)
  refine lv_iload_n hx hb dX1_lettersLying_4 rfl (lv_at hl 0 rfl) ?_
  refine lv_bipush (v := 8) hx hb dX1_lettersLying_5 (by decide) ?_
  refine lv_icmp_ge (tgt := 25) hx hb dX1_lettersLying_7 (by decide) (fun h => absurd h (by decide)) (fun _ => ?_)
  refine lv_iload_n hx hb dX1_lettersLying_10 rfl (lv_at hl 1 rfl) ?_
  refine lv_aload_n hx hb dX1_lettersLying_11 rfl (lv_at hl 2 rfl) ?_
  refine va_get (D := (dC, dI)) (ci := 1) (v := .ref lc) (C := RX1) (T := TX1) (N := 15) hx hb hts in_X1 hown hK hP 0 rfl rfl 8 (by decide) (hts _ wd_250) (fun _ h9 => h9) rfl dX1_lettersLying_12 ?_
  refine lv_iload_n hx hb dX1_lettersLying_15 rfl (lv_at hl 0 rfl) ?_
  refine va_iald hx hb hK hP 1 0 rfl rfl (px_in 0 8 (by decide +kernel)) dX1_lettersLying_16 ?_
  refine lv_topi (fun z1 ez1 => ?_)
  obtain rfl : z1 = 0 := ez1.trans (by first | rfl | decide)
  refine lv_iadd hx hb dX1_lettersLying_17 ?_
  refine lv_topi (fun z2 ez2 => ?_)
  obtain rfl : z2 = 0 := ez2.trans (by decide)
  refine lv_istore_n (lv' := [(1, .int 0), (2, .int 0), (0, .ref h0)]) hx hb dX1_lettersLying_18 rfl hl (by decide) rfl (fun ls hl => ?_)
  refine lv_iinc (v := 1) (lv' := [(2, .int 1), (1, .int 0), (0, .ref h0)]) hx hb dX1_lettersLying_19 hl (k := 1) rfl (by decide) (by decide) rfl (fun ls hl => ?_)
  refine lv_goto (tgt := 4) hx hb dX1_lettersLying_22 (by decide) ?_
  refine lv_iload_n hx hb dX1_lettersLying_4 rfl (lv_at hl 0 rfl) ?_
  refine lv_bipush (v := 8) hx hb dX1_lettersLying_5 (by decide) ?_
  refine lv_icmp_ge (tgt := 25) hx hb dX1_lettersLying_7 (by decide) (fun h => absurd h (by decide)) (fun _ => ?_)
  refine lv_iload_n hx hb dX1_lettersLying_10 rfl (lv_at hl 1 rfl) ?_
  refine lv_aload_n hx hb dX1_lettersLying_11 rfl (lv_at hl 2 rfl) ?_
  refine va_get (D := (dC, dI)) (ci := 1) (v := .ref lc) (C := RX1) (T := TX1) (N := 15) hx hb hts in_X1 hown hK hP 0 rfl rfl 8 (by decide) (hts _ wd_250) (fun _ h9 => h9) rfl dX1_lettersLying_12 ?_
  refine lv_iload_n hx hb dX1_lettersLying_15 rfl (lv_at hl 0 rfl) ?_
  refine va_iald hx hb hK hP 1 0 rfl rfl (px_in 1 8 (by decide +kernel)) dX1_lettersLying_16 ?_
  refine lv_topi (fun z3 ez3 => ?_)
  obtain rfl : z3 = 0 := ez3.trans (by first | rfl | decide)
  refine lv_iadd hx hb dX1_lettersLying_17 ?_
  refine lv_topi (fun z4 ez4 => ?_)
  obtain rfl : z4 = 0 := ez4.trans (by decide)
  refine lv_istore_n (lv' := [(1, .int 0), (2, .int 1), (0, .ref h0)]) hx hb dX1_lettersLying_18 rfl hl (by decide) rfl (fun ls hl => ?_)
  refine lv_iinc (v := 2) (lv' := [(2, .int 2), (1, .int 0), (0, .ref h0)]) hx hb dX1_lettersLying_19 hl (k := 1) rfl (by decide) (by decide) rfl (fun ls hl => ?_)
  refine lv_goto (tgt := 4) hx hb dX1_lettersLying_22 (by decide) ?_
  refine lv_iload_n hx hb dX1_lettersLying_4 rfl (lv_at hl 0 rfl) ?_
  refine lv_bipush (v := 8) hx hb dX1_lettersLying_5 (by decide) ?_
  refine lv_icmp_ge (tgt := 25) hx hb dX1_lettersLying_7 (by decide) (fun h => absurd h (by decide)) (fun _ => ?_)
  refine lv_iload_n hx hb dX1_lettersLying_10 rfl (lv_at hl 1 rfl) ?_
  refine lv_aload_n hx hb dX1_lettersLying_11 rfl (lv_at hl 2 rfl) ?_
  refine va_get (D := (dC, dI)) (ci := 1) (v := .ref lc) (C := RX1) (T := TX1) (N := 15) hx hb hts in_X1 hown hK hP 0 rfl rfl 8 (by decide) (hts _ wd_250) (fun _ h9 => h9) rfl dX1_lettersLying_12 ?_
  refine lv_iload_n hx hb dX1_lettersLying_15 rfl (lv_at hl 0 rfl) ?_
  refine va_iald hx hb hK hP 1 0 rfl rfl (px_in 2 8 (by decide +kernel)) dX1_lettersLying_16 ?_
  refine lv_topi (fun z5 ez5 => ?_)
  obtain rfl : z5 = 0 := ez5.trans (by first | rfl | decide)
  refine lv_iadd hx hb dX1_lettersLying_17 ?_
  refine lv_topi (fun z6 ez6 => ?_)
  obtain rfl : z6 = 0 := ez6.trans (by decide)
  refine lv_istore_n (lv' := [(1, .int 0), (2, .int 2), (0, .ref h0)]) hx hb dX1_lettersLying_18 rfl hl (by decide) rfl (fun ls hl => ?_)
  refine lv_iinc (v := 3) (lv' := [(2, .int 3), (1, .int 0), (0, .ref h0)]) hx hb dX1_lettersLying_19 hl (k := 1) rfl (by decide) (by decide) rfl (fun ls hl => ?_)
  refine lv_goto (tgt := 4) hx hb dX1_lettersLying_22 (by decide) ?_
  refine lv_iload_n hx hb dX1_lettersLying_4 rfl (lv_at hl 0 rfl) ?_
  refine lv_bipush (v := 8) hx hb dX1_lettersLying_5 (by decide) ?_
  refine lv_icmp_ge (tgt := 25) hx hb dX1_lettersLying_7 (by decide) (fun h => absurd h (by decide)) (fun _ => ?_)
  refine lv_iload_n hx hb dX1_lettersLying_10 rfl (lv_at hl 1 rfl) ?_
  refine lv_aload_n hx hb dX1_lettersLying_11 rfl (lv_at hl 2 rfl) ?_
  refine va_get (D := (dC, dI)) (ci := 1) (v := .ref lc) (C := RX1) (T := TX1) (N := 15) hx hb hts in_X1 hown hK hP 0 rfl rfl 8 (by decide) (hts _ wd_250) (fun _ h9 => h9) rfl dX1_lettersLying_12 ?_
  refine lv_iload_n hx hb dX1_lettersLying_15 rfl (lv_at hl 0 rfl) ?_
  refine va_iald hx hb hK hP 1 0 rfl rfl (px_in 3 8 (by decide +kernel)) dX1_lettersLying_16 ?_
  refine lv_topi (fun z7 ez7 => ?_)
  obtain rfl : z7 = 0 := ez7.trans (by first | rfl | decide)
  refine lv_iadd hx hb dX1_lettersLying_17 ?_
  refine lv_topi (fun z8 ez8 => ?_)
  obtain rfl : z8 = 0 := ez8.trans (by decide)
  refine lv_istore_n (lv' := [(1, .int 0), (2, .int 3), (0, .ref h0)]) hx hb dX1_lettersLying_18 rfl hl (by decide) rfl (fun ls hl => ?_)
  refine lv_iinc (v := 4) (lv' := [(2, .int 4), (1, .int 0), (0, .ref h0)]) hx hb dX1_lettersLying_19 hl (k := 1) rfl (by decide) (by decide) rfl (fun ls hl => ?_)
  refine lv_goto (tgt := 4) hx hb dX1_lettersLying_22 (by decide) ?_
  refine lv_iload_n hx hb dX1_lettersLying_4 rfl (lv_at hl 0 rfl) ?_
  refine lv_bipush (v := 8) hx hb dX1_lettersLying_5 (by decide) ?_
  refine lv_icmp_ge (tgt := 25) hx hb dX1_lettersLying_7 (by decide) (fun h => absurd h (by decide)) (fun _ => ?_)
  refine lv_iload_n hx hb dX1_lettersLying_10 rfl (lv_at hl 1 rfl) ?_
  refine lv_aload_n hx hb dX1_lettersLying_11 rfl (lv_at hl 2 rfl) ?_
  refine va_get (D := (dC, dI)) (ci := 1) (v := .ref lc) (C := RX1) (T := TX1) (N := 15) hx hb hts in_X1 hown hK hP 0 rfl rfl 8 (by decide) (hts _ wd_250) (fun _ h9 => h9) rfl dX1_lettersLying_12 ?_
  refine lv_iload_n hx hb dX1_lettersLying_15 rfl (lv_at hl 0 rfl) ?_
  refine va_iald hx hb hK hP 1 0 rfl rfl (px_in 4 8 (by decide +kernel)) dX1_lettersLying_16 ?_
  refine lv_topi (fun z9 ez9 => ?_)
  obtain rfl : z9 = 0 := ez9.trans (by first | rfl | decide)
  refine lv_iadd hx hb dX1_lettersLying_17 ?_
  refine lv_topi (fun z10 ez10 => ?_)
  obtain rfl : z10 = 0 := ez10.trans (by decide)
  refine lv_istore_n (lv' := [(1, .int 0), (2, .int 4), (0, .ref h0)]) hx hb dX1_lettersLying_18 rfl hl (by decide) rfl (fun ls hl => ?_)
  refine lv_iinc (v := 5) (lv' := [(2, .int 5), (1, .int 0), (0, .ref h0)]) hx hb dX1_lettersLying_19 hl (k := 1) rfl (by decide) (by decide) rfl (fun ls hl => ?_)
  refine lv_goto (tgt := 4) hx hb dX1_lettersLying_22 (by decide) ?_
  refine lv_iload_n hx hb dX1_lettersLying_4 rfl (lv_at hl 0 rfl) ?_
  refine lv_bipush (v := 8) hx hb dX1_lettersLying_5 (by decide) ?_
  refine lv_icmp_ge (tgt := 25) hx hb dX1_lettersLying_7 (by decide) (fun h => absurd h (by decide)) (fun _ => ?_)
  refine lv_iload_n hx hb dX1_lettersLying_10 rfl (lv_at hl 1 rfl) ?_
  refine lv_aload_n hx hb dX1_lettersLying_11 rfl (lv_at hl 2 rfl) ?_
  refine va_get (D := (dC, dI)) (ci := 1) (v := .ref lc) (C := RX1) (T := TX1) (N := 15) hx hb hts in_X1 hown hK hP 0 rfl rfl 8 (by decide) (hts _ wd_250) (fun _ h9 => h9) rfl dX1_lettersLying_12 ?_
  refine lv_iload_n hx hb dX1_lettersLying_15 rfl (lv_at hl 0 rfl) ?_
  refine va_iald hx hb hK hP 1 0 rfl rfl (px_in 5 8 (by decide +kernel)) dX1_lettersLying_16 ?_
  refine lv_topi (fun z11 ez11 => ?_)
  obtain rfl : z11 = 0 := ez11.trans (by first | rfl | decide)
  refine lv_iadd hx hb dX1_lettersLying_17 ?_
  refine lv_topi (fun z12 ez12 => ?_)
  obtain rfl : z12 = 0 := ez12.trans (by decide)
  refine lv_istore_n (lv' := [(1, .int 0), (2, .int 5), (0, .ref h0)]) hx hb dX1_lettersLying_18 rfl hl (by decide) rfl (fun ls hl => ?_)
  refine lv_iinc (v := 6) (lv' := [(2, .int 6), (1, .int 0), (0, .ref h0)]) hx hb dX1_lettersLying_19 hl (k := 1) rfl (by decide) (by decide) rfl (fun ls hl => ?_)
  refine lv_goto (tgt := 4) hx hb dX1_lettersLying_22 (by decide) ?_
  refine lv_iload_n hx hb dX1_lettersLying_4 rfl (lv_at hl 0 rfl) ?_
  refine lv_bipush (v := 8) hx hb dX1_lettersLying_5 (by decide) ?_
  refine lv_icmp_ge (tgt := 25) hx hb dX1_lettersLying_7 (by decide) (fun h => absurd h (by decide)) (fun _ => ?_)
  refine lv_iload_n hx hb dX1_lettersLying_10 rfl (lv_at hl 1 rfl) ?_
  refine lv_aload_n hx hb dX1_lettersLying_11 rfl (lv_at hl 2 rfl) ?_
  refine va_get (D := (dC, dI)) (ci := 1) (v := .ref lc) (C := RX1) (T := TX1) (N := 15) hx hb hts in_X1 hown hK hP 0 rfl rfl 8 (by decide) (hts _ wd_250) (fun _ h9 => h9) rfl dX1_lettersLying_12 ?_
  refine lv_iload_n hx hb dX1_lettersLying_15 rfl (lv_at hl 0 rfl) ?_
  refine va_iald hx hb hK hP 1 0 rfl rfl (px_in 6 8 (by decide +kernel)) dX1_lettersLying_16 ?_
  refine lv_topi (fun z13 ez13 => ?_)
  obtain rfl : z13 = 0 := ez13.trans (by first | rfl | decide)
  refine lv_iadd hx hb dX1_lettersLying_17 ?_
  refine lv_topi (fun z14 ez14 => ?_)
  obtain rfl : z14 = 0 := ez14.trans (by decide)
  refine lv_istore_n (lv' := [(1, .int 0), (2, .int 6), (0, .ref h0)]) hx hb dX1_lettersLying_18 rfl hl (by decide) rfl (fun ls hl => ?_)
  refine lv_iinc (v := 7) (lv' := [(2, .int 7), (1, .int 0), (0, .ref h0)]) hx hb dX1_lettersLying_19 hl (k := 1) rfl (by decide) (by decide) rfl (fun ls hl => ?_)
  refine lv_goto (tgt := 4) hx hb dX1_lettersLying_22 (by decide) ?_
  refine lv_iload_n hx hb dX1_lettersLying_4 rfl (lv_at hl 0 rfl) ?_
  refine lv_bipush (v := 8) hx hb dX1_lettersLying_5 (by decide) ?_
  refine lv_icmp_ge (tgt := 25) hx hb dX1_lettersLying_7 (by decide) (fun h => absurd h (by decide)) (fun _ => ?_)
  refine lv_iload_n hx hb dX1_lettersLying_10 rfl (lv_at hl 1 rfl) ?_
  refine lv_aload_n hx hb dX1_lettersLying_11 rfl (lv_at hl 2 rfl) ?_
  refine va_get (D := (dC, dI)) (ci := 1) (v := .ref lc) (C := RX1) (T := TX1) (N := 15) hx hb hts in_X1 hown hK hP 0 rfl rfl 8 (by decide) (hts _ wd_250) (fun _ h9 => h9) rfl dX1_lettersLying_12 ?_
  refine lv_iload_n hx hb dX1_lettersLying_15 rfl (lv_at hl 0 rfl) ?_
  refine va_iald hx hb hK hP 1 0 rfl rfl (px_in 7 8 (by decide +kernel)) dX1_lettersLying_16 ?_
  refine lv_topi (fun z15 ez15 => ?_)
  obtain rfl : z15 = 0 := ez15.trans (by first | rfl | decide)
  refine lv_iadd hx hb dX1_lettersLying_17 ?_
  refine lv_topi (fun z16 ez16 => ?_)
  obtain rfl : z16 = 0 := ez16.trans (by decide)
  refine lv_istore_n (lv' := [(1, .int 0), (2, .int 7), (0, .ref h0)]) hx hb dX1_lettersLying_18 rfl hl (by decide) rfl (fun ls hl => ?_)
  refine lv_iinc (v := 8) (lv' := [(2, .int 8), (1, .int 0), (0, .ref h0)]) hx hb dX1_lettersLying_19 hl (k := 1) rfl (by decide) (by decide) rfl (fun ls hl => ?_)
  refine lv_goto (tgt := 4) hx hb dX1_lettersLying_22 (by decide) ?_
  refine lv_iload_n hx hb dX1_lettersLying_4 rfl (lv_at hl 0 rfl) ?_
  refine lv_bipush (v := 8) hx hb dX1_lettersLying_5 (by decide) ?_
  refine lv_icmp_ge (tgt := 25) hx hb dX1_lettersLying_7 (by decide) (fun _ => ?_) (fun h => absurd (by decide) h)
  refine lv_iload_n hx hb dX1_lettersLying_25 rfl (lv_at hl 1 rfl) ?_
  have hP9 := hP.sub (ws' := []) [] rfl
  have hD9 := hD.sub (ws' := []) [] (by decide) rfl
  have hK9 := hK.sub (tys' := []) [] rfl
  refine W.widen (k := 0) (n := 0) (Nat.le_of_ble_eq_true rfl) (Nat.le_of_ble_eq_true rfl) ?_
  exact W.iret (v := 0) hx hb hr (fun t ht hW => ⟨⟨0, (), rfl, rfl, by rw [ht]; exact hP9, va_K.moved hW.alike hK9, hD9⟩, hS.F ht⟩) hS.2.2 dX1_lettersLying_26
set_option maxHeartbeats 4000000 in
set_option maxRecDepth 100000 in
theorem ct_X0_tell (l : Launch) (dC : Nat → ClassId) (dI : Nat → Nat → Nat) (h0 : Nat) (q : Nat → Nat) (i : Int32) (w : Int32) (sz : Nat) : Met l yX0_tell (.code yX0_tell cX0_tell 3 (some .int) :: tb) ({ frames := 0, cells := 0, slots := 0, locals := 0 }) (va_Pc [.ref h0, .int i, .int w] (fun U => U.heap.size = sz ∧ va_P (dC, dI) vwCl [(h0, .inr (0, [.int 0, .ref (q 0), .ref (q 1)]))] U.heap ∧ va_K (dC, dI) vwCl [] U ∧ va_D (fun _ => True) [(h0, .inr (0, [.int 0, .ref (q 0), .ref (q 1)]))])) (va_Qi (fun (r : Int32) (_ : Unit) => r = -1) (fun (_ : Unit) t => va_P (dC, dI) vwCl [] t.heap ∧ va_K (dC, dI) vwCl [] t ∧ va_D (va_A [(h0, .inr (0, [.int 0, .ref (q 0), .ref (q 1)]))] sz) []) (va_A [(h0, .inr (0, [.int 0, .ref (q 0), .ref (q 1)]))] sz)) 0 0 (va_A [(h0, .inr (0, [.int 0, .ref (q 0), .ref (q 1)]))] sz) := by
  refine Met.ofW (cc := cX0_tell) (maxL := 3) (ret := (some .int)) (by decide) rfl ?_
  intro p e s m args below meth c s₁ B hml hv
  obtain ⟨rfl, hsz, hP, hK, hD0⟩ := hv
  have hx := B.exec
  have hb := B.bytes
  have hr := B.returns
  have hts : ∀ w ∈ tb, w.before _ s = true := fun w h => atoms_spec (ws := (.code yX0_tell cX0_tell 3 (some .int) :: tb)) B.pre w (List.mem_cons_of_mem _ h)
  have hown : s.vm.findClass RX0 = some m.cls := findClass_of_methodNamed B.named
  have hlocks := B.notSynchronized
  subst hsz
  have hD := hD0.self (sz := s.heap.size)
  generalize hAe : va_A [(h0, .inr (0, [.int 0, .ref (q 0), .ref (q 1)]))] s.heap.size = A at hD ⊢
  have hA : ∀ q : Nat, s.heap.size ≤ q → A q := fun q h => by rw [← hAe]; exact Or.inr h
  have hS : va_S A s.heap s.heap [] := va_S.rf
  have hP : va_P (dC, dI) vwCl [(h0, .inr (0, [.int 0, .ref (q 0), .ref (q 1)]))] s.heap := hP
  have hl := lv_entry ([.ref h0, .int i, .int w]) (n := 3) (Nat.le_of_ble_eq_true rfl)
  rw [lg_entry_eq]
  generalize (lg_sl ([.ref h0, .int i, .int w]) ++ List.replicate (3 - (lg_sl ([.ref h0, .int i, .int w])).length) Slot.unset).toArray = ls at hl ⊢
  have hl : lv_has ls 3 [(0, .ref h0), (1, .int i), (2, .int w)] := hl
  refine lv_iload_n hx hb dX0_tell_0 rfl (lv_at hl 1 rfl) ?_
  refine lv_if_lt (tgt := 28) hx hb dX0_tell_1 (by decide) (fun c1 => ?_) (fun c1 => ?_)
  · refine lv_iconst (v := (-1)) hx hb dX0_tell_28 (by decide) ?_
    have hP9 := hP.sub (ws' := []) [] rfl
    have hD9 := hD.sub (ws' := []) [] (by decide) rfl
    have hK9 := hK.sub (tys' := []) [] rfl
    refine W.widen (k := 0) (n := 0) (Nat.le_of_ble_eq_true rfl) (Nat.le_of_ble_eq_true rfl) ?_
    exact W.iret (v := (-1)) hx hb hr (fun t ht hW => ⟨⟨(-1), (), rfl, rfl, by rw [ht]; exact hP9, va_K.moved hW.alike hK9, hD9⟩, hS.F ht⟩) hS.2.2 dX0_tell_29
  · refine lv_iload_n hx hb dX0_tell_4 rfl (lv_at hl 1 rfl) ?_
    refine lv_aload_n hx hb dX0_tell_5 rfl (lv_at hl 0 rfl) ?_
    refine va_get (D := (dC, dI)) (ci := 0) (v := .int 0) (C := RX0) (T := TX0) (N := 3) hx hb hts in_X0 hown hK hP 0 rfl rfl 0 (by decide) (hts _ wd_222) (fun _ h9 => h9) rfl dX0_tell_6 ?_
    refine lv_icmp_ge (tgt := 28) hx hb dX0_tell_9 (by decide) (fun c2 => ?_) (fun c2 => ?_)
    · refine lv_iconst (v := (-1)) hx hb dX0_tell_28 (by decide) ?_
      have hP9 := hP.sub (ws' := []) [] rfl
      have hD9 := hD.sub (ws' := []) [] (by decide) rfl
      have hK9 := hK.sub (tys' := []) [] rfl
      refine W.widen (k := 0) (n := 0) (Nat.le_of_ble_eq_true rfl) (Nat.le_of_ble_eq_true rfl) ?_
      exact W.iret (v := (-1)) hx hb hr (fun t ht hW => ⟨⟨(-1), (), rfl, rfl, by rw [ht]; exact hP9, va_K.moved hW.alike hK9, hD9⟩, hS.F ht⟩) hS.2.2 dX0_tell_29
    · exact px_dead (by first | exact absurd c2 c1 | exact absurd c1 c2 | exact absurd (Int32.not_lt.mp c1) c2 | exact absurd (Int32.not_le.mp c1) c2 | exact absurd c2 (Int32.not_lt.mpr c1) | exact absurd c2 (Int32.not_le.mpr c1))
set_option maxHeartbeats 4000000 in
set_option maxRecDepth 100000 in
theorem ct_X2_taskAt (l : Launch) (dC : Nat → ClassId) (dI : Nat → Nat → Nat) (h0 : Nat) (k : Int32) (sz : Nat) : Met l yX2_taskAt (.code yX2_taskAt cX2_taskAt 4 (some .int) :: tb) ({ frames := 0, cells := 0, slots := 0, locals := 0 }) (va_Pc [.ref h0, .int k] (fun U => U.heap.size = sz ∧ va_P (dC, dI) vwCl [(h0, .inr (2, [.null, .null]))] U.heap ∧ va_K (dC, dI) vwCl [] U ∧ va_D (fun _ => True) [(h0, .inr (2, [.null, .null]))])) (va_Qi (fun (r : Int32) (_ : Unit) => r = -1) (fun (_ : Unit) t => va_P (dC, dI) vwCl [] t.heap ∧ va_K (dC, dI) vwCl [] t ∧ va_D (va_A [(h0, .inr (2, [.null, .null]))] sz) []) (va_A [(h0, .inr (2, [.null, .null]))] sz)) 0 0 (va_A [(h0, .inr (2, [.null, .null]))] sz) := by
  refine Met.ofW (cc := cX2_taskAt) (maxL := 4) (ret := (some .int)) (by decide) rfl ?_
  intro p e s m args below meth c s₁ B hml hv
  obtain ⟨rfl, hsz, hP, hK, hD0⟩ := hv
  have hx := B.exec
  have hb := B.bytes
  have hr := B.returns
  have hts : ∀ w ∈ tb, w.before _ s = true := fun w h => atoms_spec (ws := (.code yX2_taskAt cX2_taskAt 4 (some .int) :: tb)) B.pre w (List.mem_cons_of_mem _ h)
  have hown : s.vm.findClass RX2 = some m.cls := findClass_of_methodNamed B.named
  have hlocks := B.notSynchronized
  subst hsz
  have hD := hD0.self (sz := s.heap.size)
  generalize hAe : va_A [(h0, .inr (2, [.null, .null]))] s.heap.size = A at hD ⊢
  have hA : ∀ q : Nat, s.heap.size ≤ q → A q := fun q h => by rw [← hAe]; exact Or.inr h
  have hS : va_S A s.heap s.heap [] := va_S.rf
  have hP : va_P (dC, dI) vwCl [(h0, .inr (2, [.null, .null]))] s.heap := hP
  have hl := lv_entry ([.ref h0, .int k]) (n := 4) (Nat.le_of_ble_eq_true rfl)
  rw [lg_entry_eq]
  generalize (lg_sl ([.ref h0, .int k]) ++ List.replicate (4 - (lg_sl ([.ref h0, .int k])).length) Slot.unset).toArray = ls at hl ⊢
  have hl : lv_has ls 4 [(0, .ref h0), (1, .int k)] := hl
  refine lv_iload_n hx hb dX2_taskAt_0 rfl (lv_at hl 1 rfl) ?_
  refine lv_if_ge (tgt := 8) hx hb dX2_taskAt_1 (by decide) (fun c1 => ?_) (fun c1 => ?_)
  · refine lv_aload_n hx hb dX2_taskAt_8 rfl (lv_at hl 0 rfl) ?_
    refine va_get (D := (dC, dI)) (ci := 2) (v := .null) (C := RX2) (T := TX2) (N := 2) hx hb hts in_X2 hown hK hP 0 rfl rfl 0 (by decide) (hts _ wd_208) (fun _ h9 => h9) rfl dX2_taskAt_9 ?_
    refine lv_astore_nN (lv' := [(2, .null), (0, .ref h0), (1, .int k)]) hx hb dX2_taskAt_12 rfl hl (by decide) rfl (fun ls hl => ?_)
    refine lv_iconst (v := 0) hx hb dX2_taskAt_13 (by decide) ?_
    refine lv_istore_n (lv' := [(3, .int 0), (2, .null), (0, .ref h0), (1, .int k)]) hx hb dX2_taskAt_14 rfl hl (by decide) rfl (fun ls hl => ?_)
    refine lv_iload_n hx hb dX2_taskAt_15 rfl (lv_at hl 0 rfl) ?_
    refine lv_iload_n hx hb dX2_taskAt_16 rfl (lv_at hl 3 rfl) ?_
    refine lv_icmp_ge (tgt := 35) hx hb dX2_taskAt_17 (by decide) (fun c2 => ?_) (fun c2 => ?_)
    · refine lv_aload_nN hx hb dX2_taskAt_35 rfl (lv_at hl 1 rfl) ?_
      refine lv_ifnonnullN hx hb dX2_taskAt_36 ?_
      refine lv_iconst (v := (-1)) hx hb dX2_taskAt_39 (by decide) ?_
      refine lv_goto (tgt := 50) hx hb dX2_taskAt_40 (by decide) ?_
      have hP9 := hP.sub (ws' := []) [] rfl
      have hD9 := hD.sub (ws' := []) [] (by decide) rfl
      have hK9 := hK.sub (tys' := []) [] rfl
      refine W.widen (k := 0) (n := 0) (Nat.le_of_ble_eq_true rfl) (Nat.le_of_ble_eq_true rfl) ?_
      exact W.iret (v := (-1)) hx hb hr (fun t ht hW => ⟨⟨(-1), (), rfl, rfl, by rw [ht]; exact hP9, va_K.moved hW.alike hK9, hD9⟩, hS.F ht⟩) hS.2.2 dX2_taskAt_50
    · refine lv_aload_nN hx hb dX2_taskAt_20 rfl (lv_at hl 1 rfl) ?_
      refine lv_ifnullN (tgt := 35) hx hb dX2_taskAt_21 (by decide) ?_
      refine lv_aload_nN hx hb dX2_taskAt_35 rfl (lv_at hl 1 rfl) ?_
      refine lv_ifnonnullN hx hb dX2_taskAt_36 ?_
      refine lv_iconst (v := (-1)) hx hb dX2_taskAt_39 (by decide) ?_
      refine lv_goto (tgt := 50) hx hb dX2_taskAt_40 (by decide) ?_
      have hP9 := hP.sub (ws' := []) [] rfl
      have hD9 := hD.sub (ws' := []) [] (by decide) rfl
      have hK9 := hK.sub (tys' := []) [] rfl
      refine W.widen (k := 0) (n := 0) (Nat.le_of_ble_eq_true rfl) (Nat.le_of_ble_eq_true rfl) ?_
      exact W.iret (v := (-1)) hx hb hr (fun t ht hW => ⟨⟨(-1), (), rfl, rfl, by rw [ht]; exact hP9, va_K.moved hW.alike hK9, hD9⟩, hS.F ht⟩) hS.2.2 dX2_taskAt_50
  · refine lv_null hx hb dX2_taskAt_4 ?_
    refine lv_goto (tgt := 12) hx hb dX2_taskAt_5 (by decide) ?_
    refine lv_astore_nN (lv' := [(2, .null), (0, .ref h0), (1, .int k)]) hx hb dX2_taskAt_12 rfl hl (by decide) rfl (fun ls hl => ?_)
    refine lv_iconst (v := 0) hx hb dX2_taskAt_13 (by decide) ?_
    refine lv_istore_n (lv' := [(3, .int 0), (2, .null), (0, .ref h0), (1, .int k)]) hx hb dX2_taskAt_14 rfl hl (by decide) rfl (fun ls hl => ?_)
    refine lv_iload_n hx hb dX2_taskAt_15 rfl (lv_at hl 0 rfl) ?_
    refine lv_iload_n hx hb dX2_taskAt_16 rfl (lv_at hl 3 rfl) ?_
    refine lv_icmp_ge (tgt := 35) hx hb dX2_taskAt_17 (by decide) (fun c3 => ?_) (fun c3 => ?_)
    · refine lv_aload_nN hx hb dX2_taskAt_35 rfl (lv_at hl 1 rfl) ?_
      refine lv_ifnonnullN hx hb dX2_taskAt_36 ?_
      refine lv_iconst (v := (-1)) hx hb dX2_taskAt_39 (by decide) ?_
      refine lv_goto (tgt := 50) hx hb dX2_taskAt_40 (by decide) ?_
      have hP9 := hP.sub (ws' := []) [] rfl
      have hD9 := hD.sub (ws' := []) [] (by decide) rfl
      have hK9 := hK.sub (tys' := []) [] rfl
      refine W.widen (k := 0) (n := 0) (Nat.le_of_ble_eq_true rfl) (Nat.le_of_ble_eq_true rfl) ?_
      exact W.iret (v := (-1)) hx hb hr (fun t ht hW => ⟨⟨(-1), (), rfl, rfl, by rw [ht]; exact hP9, va_K.moved hW.alike hK9, hD9⟩, hS.F ht⟩) hS.2.2 dX2_taskAt_50
    · refine lv_aload_nN hx hb dX2_taskAt_20 rfl (lv_at hl 1 rfl) ?_
      refine lv_ifnullN (tgt := 35) hx hb dX2_taskAt_21 (by decide) ?_
      refine lv_aload_nN hx hb dX2_taskAt_35 rfl (lv_at hl 1 rfl) ?_
      refine lv_ifnonnullN hx hb dX2_taskAt_36 ?_
      refine lv_iconst (v := (-1)) hx hb dX2_taskAt_39 (by decide) ?_
      refine lv_goto (tgt := 50) hx hb dX2_taskAt_40 (by decide) ?_
      have hP9 := hP.sub (ws' := []) [] rfl
      have hD9 := hD.sub (ws' := []) [] (by decide) rfl
      have hK9 := hK.sub (tys' := []) [] rfl
      refine W.widen (k := 0) (n := 0) (Nat.le_of_ble_eq_true rfl) (Nat.le_of_ble_eq_true rfl) ?_
      exact W.iret (v := (-1)) hx hb hr (fun t ht hW => ⟨⟨(-1), (), rfl, rfl, by rw [ht]; exact hP9, va_K.moved hW.alike hK9, hD9⟩, hS.F ht⟩) hS.2.2 dX2_taskAt_50
set_option maxHeartbeats 4000000 in
set_option maxRecDepth 100000 in
theorem ct_X6_takeTurn (l : Launch) (dC : Nat → ClassId) (dI : Nat → Nat → Nat) (h0 : Nat) (pu : Nat) (ha : Nat) (nu : Nat) (pv : Value) (xt : Nat) (xr : Nat) (le : Nat) (lc : Nat) (ln : Nat) (al : Nat) (lo : Nat) (xg : Nat) (k : Int32) (sz : Nat) : Met l yX6_takeTurn (.code yX6_takeTurn cX6_takeTurn 4 (some .int) :: tb) ({ frames := 1, cells := 0, slots := 0, locals := 23 }) (va_Pc [.ref h0, .int k] (fun U => U.heap.size = sz ∧ va_P (dC, dI) vwCl [(h0, .inr (6, [.int 0, .int 0, .ref pu, .ref ha, .ref nu, .int 0, .int 0, .int 0])), (ha, .inr (1, [pv, .ref xt, .int 0, .int 0, .ref xr, .int 0, .int 0, .ref le, .ref lc, .ref ln, .ref al, .ref lo, .ref xg, .int 0, .null]))] U.heap ∧ va_K (dC, dI) vwCl [] U ∧ va_D (fun _ => True) [(h0, .inr (6, [.int 0, .int 0, .ref pu, .ref ha, .ref nu, .int 0, .int 0, .int 0])), (ha, .inr (1, [pv, .ref xt, .int 0, .int 0, .ref xr, .int 0, .int 0, .ref le, .ref lc, .ref ln, .ref al, .ref lo, .ref xg, .int 0, .null]))])) (va_Qi (fun (r : Int32) (_ : Unit) => r = -1) (fun (_ : Unit) t => va_P (dC, dI) vwCl [] t.heap ∧ va_K (dC, dI) vwCl [] t ∧ va_D (va_A [(h0, .inr (6, [.int 0, .int 0, .ref pu, .ref ha, .ref nu, .int 0, .int 0, .int 0])), (ha, .inr (1, [pv, .ref xt, .int 0, .int 0, .ref xr, .int 0, .int 0, .ref le, .ref lc, .ref ln, .ref al, .ref lo, .ref xg, .int 0, .null]))] sz) []) (va_A [(h0, .inr (6, [.int 0, .int 0, .ref pu, .ref ha, .ref nu, .int 0, .int 0, .int 0])), (ha, .inr (1, [pv, .ref xt, .int 0, .int 0, .ref xr, .int 0, .int 0, .ref le, .ref lc, .ref ln, .ref al, .ref lo, .ref xg, .int 0, .null]))] sz)) 0 0 (va_A [(h0, .inr (6, [.int 0, .int 0, .ref pu, .ref ha, .ref nu, .int 0, .int 0, .int 0])), (ha, .inr (1, [pv, .ref xt, .int 0, .int 0, .ref xr, .int 0, .int 0, .ref le, .ref lc, .ref ln, .ref al, .ref lo, .ref xg, .int 0, .null]))] sz) := by
  refine Met.ofW (cc := cX6_takeTurn) (maxL := 4) (ret := (some .int)) (by decide) rfl ?_
  intro p e s m args below meth c s₁ B hml hv
  obtain ⟨rfl, hsz, hP, hK, hD0⟩ := hv
  have hx := B.exec
  have hb := B.bytes
  have hr := B.returns
  have hts : ∀ w ∈ tb, w.before _ s = true := fun w h => atoms_spec (ws := (.code yX6_takeTurn cX6_takeTurn 4 (some .int) :: tb)) B.pre w (List.mem_cons_of_mem _ h)
  have hown : s.vm.findClass RX6 = some m.cls := findClass_of_methodNamed B.named
  have hlocks := B.notSynchronized
  subst hsz
  have hD := hD0.self (sz := s.heap.size)
  generalize hAe : va_A [(h0, .inr (6, [.int 0, .int 0, .ref pu, .ref ha, .ref nu, .int 0, .int 0, .int 0])), (ha, .inr (1, [pv, .ref xt, .int 0, .int 0, .ref xr, .int 0, .int 0, .ref le, .ref lc, .ref ln, .ref al, .ref lo, .ref xg, .int 0, .null]))] s.heap.size = A at hD ⊢
  have hA : ∀ q : Nat, s.heap.size ≤ q → A q := fun q h => by rw [← hAe]; exact Or.inr h
  have hS : va_S A s.heap s.heap [] := va_S.rf
  have hP : va_P (dC, dI) vwCl [(h0, .inr (6, [.int 0, .int 0, .ref pu, .ref ha, .ref nu, .int 0, .int 0, .int 0])), (ha, .inr (1, [pv, .ref xt, .int 0, .int 0, .ref xr, .int 0, .int 0, .ref le, .ref lc, .ref ln, .ref al, .ref lo, .ref xg, .int 0, .null]))] s.heap := hP
  have hl := lv_entry ([.ref h0, .int k]) (n := 4) (Nat.le_of_ble_eq_true rfl)
  rw [lg_entry_eq]
  generalize (lg_sl ([.ref h0, .int k]) ++ List.replicate (4 - (lg_sl ([.ref h0, .int k])).length) Slot.unset).toArray = ls at hl ⊢
  have hl : lv_has ls 4 [(0, .ref h0), (1, .int k)] := hl
  refine lv_aload_n hx hb dX6_takeTurn_0 rfl (lv_at hl 0 rfl) ?_
  refine va_get (D := (dC, dI)) (ci := 6) (v := .ref ha) (C := RX6) (T := TX6) (N := 8) hx hb hts in_X6 hown hK hP 0 rfl rfl 3 (by decide) (hts _ wd_307) (fun _ h9 => h9) rfl dX6_takeTurn_1 ?_
  refine lv_iload_n hx hb dX6_takeTurn_4 rfl (lv_at hl 1 rfl) ?_
  have hPc := hP.sub (ws' := [(ha, .inr (1, [(pv : Value), .ref xt, .int 0, .int 0, .ref xr, .int 0, .int 0, .ref le, .ref lc, .ref ln, .ref al, .ref lo, .ref xg, .int 0, .null]))]) [1] rfl
  have hDc := hD.sub (ws' := [(ha, .inr (1, [(pv : Value), .ref xt, .int 0, .int 0, .ref xr, .int 0, .int 0, .ref le, .ref lc, .ref ln, .ref al, .ref lo, .ref xg, .int 0, .null]))]) [1] (by decide) rfl
  have hKc := hK.sub (tys' := []) [] rfl
  have hFc := va_free (wc := [(ha, .inr (1, [(pv : Value), .ref xt, .int 0, .int 0, .ref xr, .int 0, .int 0, .ref le, .ref lc, .ref ln, .ref al, .ref lo, .ref xg, .int 0, .null]))]) hD hS hA [1] rfl
  refine qn_call (va_runV (As := [.int k]) (rest := []) ⟨hx, hb, hml, hown, hts⟩ (ct_X1_leaveRow l dC dI ha (pv : Value) xt xr le lc ln al lo xg k s.heap.size) (cwV 1 hts (gd_V wd_965 wd_966 wd_967 wd_9 wd_968) rfl rfl rfl (by decide +kernel) ⟨Nat.le_of_ble_eq_true rfl, Nat.le_of_ble_eq_true rfl⟩) ⟨fun a U g mk q => by obtain ⟨q0, q1, qP, qK, qD⟩ := q; exact ⟨q0, q1, qP, va_K.moved (u := U) (U := U.calling g mk a) (Vm.Alike.refl U.vm) qK, qD⟩, va_recv hKc hPc (ci := 1) (q0 := 0) rfl rfl, fun U hU hW => ⟨rfl, by rw [hU], by rw [hU]; exact hPc, va_K.moved hW.alike hKc, hDc.weaken (fun _ _ _ _ => trivial)⟩⟩ rfl rfl hl.1 rfl (lv_room (Nat.le_of_ble_eq_true rfl)) dX6_takeTurn_5 ⟨Nat.le_of_ble_eq_true rfl, Nat.le_of_ble_eq_true rfl⟩) hS (fun q _ h => hFc q h) hFc (fun t H1 locs ht hvm hB hz1 hk1 hS => ?_)
  obtain ⟨hP1, hK1, hD1⟩ := hB
  rw [ht] at hP1
  have hK1 := va_K.moved hvm.symm hK1
  obtain ⟨hP, hD⟩ := va_join (wr := [(h0, .inr (6, [.int 0, .int 0, .ref pu, .ref ha, .ref nu, .int 0, .int 0, .int 0]))]) (w1 := []) hP hD [1] [0] rfl rfl (by decide) (by decide) hk1 hFc hP1 hD1
  have hK := (hK.sub (tys' := []) [] rfl).app (hK1.sub (tys' := []) [] rfl)
  generalize H1 = H at hP hS ⊢
  have hP : va_P (dC, dI) vwCl [(h0, .inr (6, [.int 0, .int 0, .ref pu, .ref ha, .ref nu, .int 0, .int 0, .int 0]))] H := hP
  have hD : va_D A [(h0, .inr (6, [.int 0, .int 0, .ref pu, .ref ha, .ref nu, .int 0, .int 0, .int 0]))] := hD
  have hK : va_K (dC, dI) vwCl [] s := hK
  refine lv_astore_nN (lv' := [(2, .null), (0, .ref h0), (1, .int k)]) hx hb dX6_takeTurn_8 rfl hl (by decide) rfl (fun ls hl => ?_)
  refine lv_aload_nN hx hb dX6_takeTurn_9 rfl (lv_at hl 0 rfl) ?_
  refine lv_ifnonnullN hx hb dX6_takeTurn_10 ?_
  refine lv_iconst (v := (-1)) hx hb dX6_takeTurn_13 (by decide) ?_
  have hP9 := hP.sub (ws' := []) [] rfl
  have hD9 := hD.sub (ws' := []) [] (by decide) rfl
  have hK9 := hK.sub (tys' := []) [] rfl
  refine W.widen (k := 0) (n := 0) (Nat.le_of_ble_eq_true rfl) (Nat.le_of_ble_eq_true rfl) ?_
  exact W.iret (v := (-1)) hx hb hr (fun t ht hW => ⟨⟨(-1), (), rfl, rfl, by rw [ht]; exact hP9, va_K.moved hW.alike hK9, hD9⟩, hS.F ht⟩) hS.2.2 dX6_takeTurn_14
end
section
theorem zz_end : True := trivial
end
