section
-- ===== PART A: goes FIRST, ahead of the names: the tables' words, and 'selects' of the private methods out of them =====
/-- a private method of a class that the tables say can be made, by its rows of tables_1 -/
def lw_okq (q : MethodName × Nat) : Prop := (q.1.cls ≠ "java/lang/invoke/MethodHandle" ∧ q.1.cls ≠ "java/lang/invoke/VarHandle") ∧ Cond.instantiable q.1.cls q.2 ∈ tables_1 ∧ Cond.privateMethod q.1 ∈ tables_1 ∧ Cond.instanceMethod q.1 ∈ tables_1
theorem lw_p0 : lw_okq (⟨"SpaceHouse$Server", "isWhole", "(I)Z"⟩, 12) := ⟨⟨by decide +kernel, by decide +kernel⟩, List.mem_of_getElem? (i := 295) (by decide +kernel), List.mem_of_getElem? (i := 577) (by decide +kernel), List.mem_of_getElem? (i := 578) (by decide +kernel)⟩
theorem lw_p1 : lw_okq (⟨"SpaceHouse$Server", "areNames", "()Z"⟩, 12) := ⟨⟨by decide +kernel, by decide +kernel⟩, List.mem_of_getElem? (i := 295) (by decide +kernel), List.mem_of_getElem? (i := 585) (by decide +kernel), List.mem_of_getElem? (i := 586) (by decide +kernel)⟩
theorem lw_p2 : lw_okq (⟨"SpaceHouse$Server", "isStat", "()Z"⟩, 12) := ⟨⟨by decide +kernel, by decide +kernel⟩, List.mem_of_getElem? (i := 295) (by decide +kernel), List.mem_of_getElem? (i := 589) (by decide +kernel), List.mem_of_getElem? (i := 590) (by decide +kernel)⟩
theorem lw_p3 : lw_okq (⟨"SpaceHouse$Server", "doVersion", "()I"⟩, 12) := ⟨⟨by decide +kernel, by decide +kernel⟩, List.mem_of_getElem? (i := 295) (by decide +kernel), List.mem_of_getElem? (i := 597) (by decide +kernel), List.mem_of_getElem? (i := 598) (by decide +kernel)⟩
theorem lw_p4 : lw_okq (⟨"SpaceHouse$Server", "leastFid", "()LSpaceHouse$Fid;"⟩, 12) := ⟨⟨by decide +kernel, by decide +kernel⟩, List.mem_of_getElem? (i := 295) (by decide +kernel), List.mem_of_getElem? (i := 602) (by decide +kernel), List.mem_of_getElem? (i := 603) (by decide +kernel)⟩
theorem lw_p5 : lw_okq (⟨"SpaceHouse$Server", "refusal", "(LSpaceHouse$Fid;)I"⟩, 12) := ⟨⟨by decide +kernel, by decide +kernel⟩, List.mem_of_getElem? (i := 295) (by decide +kernel), List.mem_of_getElem? (i := 606) (by decide +kernel), List.mem_of_getElem? (i := 607) (by decide +kernel)⟩
theorem lw_p6 : lw_okq (⟨"SpaceHouse$Server", "delete", "(LSpaceHouse$Fid;)V"⟩, 12) := ⟨⟨by decide +kernel, by decide +kernel⟩, List.mem_of_getElem? (i := 295) (by decide +kernel), List.mem_of_getElem? (i := 614) (by decide +kernel), List.mem_of_getElem? (i := 615) (by decide +kernel)⟩
theorem lw_p7 : lw_okq (⟨"SpaceHouse$Server", "takeOut", "(LSpaceHouse$Node;)V"⟩, 12) := ⟨⟨by decide +kernel, by decide +kernel⟩, List.mem_of_getElem? (i := 295) (by decide +kernel), List.mem_of_getElem? (i := 622) (by decide +kernel), List.mem_of_getElem? (i := 623) (by decide +kernel)⟩
theorem lw_p8 : lw_okq (⟨"SpaceHouse$Server", "doAttach", "()I"⟩, 12) := ⟨⟨by decide +kernel, by decide +kernel⟩, List.mem_of_getElem? (i := 295) (by decide +kernel), List.mem_of_getElem? (i := 635) (by decide +kernel), List.mem_of_getElem? (i := 636) (by decide +kernel)⟩
theorem lw_p9 : lw_okq (⟨"SpaceHouse$Server", "userTold", "()I"⟩, 12) := ⟨⟨by decide +kernel, by decide +kernel⟩, List.mem_of_getElem? (i := 295) (by decide +kernel), List.mem_of_getElem? (i := 640) (by decide +kernel), List.mem_of_getElem? (i := 641) (by decide +kernel)⟩
theorem lw_p10 : lw_okq (⟨"SpaceHouse$Server", "spareFid", "()LSpaceHouse$Fid;"⟩, 12) := ⟨⟨by decide +kernel, by decide +kernel⟩, List.mem_of_getElem? (i := 295) (by decide +kernel), List.mem_of_getElem? (i := 647) (by decide +kernel), List.mem_of_getElem? (i := 648) (by decide +kernel)⟩
theorem lw_p11 : lw_okq (⟨"SpaceHouse$Server", "putQid", "(LSpaceHouse$Node;)V"⟩, 12) := ⟨⟨by decide +kernel, by decide +kernel⟩, List.mem_of_getElem? (i := 295) (by decide +kernel), List.mem_of_getElem? (i := 655) (by decide +kernel), List.mem_of_getElem? (i := 656) (by decide +kernel)⟩
theorem lw_p12 : lw_okq (⟨"SpaceHouse$Server", "doWalk", "(LSpaceHouse$Fid;)I"⟩, 12) := ⟨⟨by decide +kernel, by decide +kernel⟩, List.mem_of_getElem? (i := 295) (by decide +kernel), List.mem_of_getElem? (i := 665) (by decide +kernel), List.mem_of_getElem? (i := 666) (by decide +kernel)⟩
theorem lw_p13 : lw_okq (⟨"SpaceHouse$Server", "entry", "(LSpaceHouse$Node;II)LSpaceHouse$Node;"⟩, 12) := ⟨⟨by decide +kernel, by decide +kernel⟩, List.mem_of_getElem? (i := 295) (by decide +kernel), List.mem_of_getElem? (i := 673) (by decide +kernel), List.mem_of_getElem? (i := 674) (by decide +kernel)⟩
theorem lw_p14 : lw_okq (⟨"SpaceHouse$Server", "doOpen", "(LSpaceHouse$Fid;)I"⟩, 12) := ⟨⟨by decide +kernel, by decide +kernel⟩, List.mem_of_getElem? (i := 295) (by decide +kernel), List.mem_of_getElem? (i := 686) (by decide +kernel), List.mem_of_getElem? (i := 687) (by decide +kernel)⟩
theorem lw_p15 : lw_okq (⟨"SpaceHouse$Server", "openRefusal", "(LSpaceHouse$Node;II)I"⟩, 12) := ⟨⟨by decide +kernel, by decide +kernel⟩, List.mem_of_getElem? (i := 295) (by decide +kernel), List.mem_of_getElem? (i := 690) (by decide +kernel), List.mem_of_getElem? (i := 691) (by decide +kernel)⟩
def lw_privs_1 : List (MethodName × Nat) := [(⟨"SpaceHouse$Server", "isWhole", "(I)Z"⟩, 12), (⟨"SpaceHouse$Server", "areNames", "()Z"⟩, 12), (⟨"SpaceHouse$Server", "isStat", "()Z"⟩, 12), (⟨"SpaceHouse$Server", "doVersion", "()I"⟩, 12), (⟨"SpaceHouse$Server", "leastFid", "()LSpaceHouse$Fid;"⟩, 12), (⟨"SpaceHouse$Server", "refusal", "(LSpaceHouse$Fid;)I"⟩, 12), (⟨"SpaceHouse$Server", "delete", "(LSpaceHouse$Fid;)V"⟩, 12), (⟨"SpaceHouse$Server", "takeOut", "(LSpaceHouse$Node;)V"⟩, 12), (⟨"SpaceHouse$Server", "doAttach", "()I"⟩, 12), (⟨"SpaceHouse$Server", "userTold", "()I"⟩, 12), (⟨"SpaceHouse$Server", "spareFid", "()LSpaceHouse$Fid;"⟩, 12), (⟨"SpaceHouse$Server", "putQid", "(LSpaceHouse$Node;)V"⟩, 12), (⟨"SpaceHouse$Server", "doWalk", "(LSpaceHouse$Fid;)I"⟩, 12), (⟨"SpaceHouse$Server", "entry", "(LSpaceHouse$Node;II)LSpaceHouse$Node;"⟩, 12), (⟨"SpaceHouse$Server", "doOpen", "(LSpaceHouse$Fid;)I"⟩, 12), (⟨"SpaceHouse$Server", "openRefusal", "(LSpaceHouse$Node;II)I"⟩, 12)]
theorem lw_r1 : ∀ q ∈ lw_privs_1, lw_okq q := List.forall_mem_cons.mpr ⟨lw_p0, List.forall_mem_cons.mpr ⟨lw_p1, List.forall_mem_cons.mpr ⟨lw_p2, List.forall_mem_cons.mpr ⟨lw_p3, List.forall_mem_cons.mpr ⟨lw_p4, List.forall_mem_cons.mpr ⟨lw_p5, List.forall_mem_cons.mpr ⟨lw_p6, List.forall_mem_cons.mpr ⟨lw_p7, List.forall_mem_cons.mpr ⟨lw_p8, List.forall_mem_cons.mpr ⟨lw_p9, List.forall_mem_cons.mpr ⟨lw_p10, List.forall_mem_cons.mpr ⟨lw_p11, List.forall_mem_cons.mpr ⟨lw_p12, List.forall_mem_cons.mpr ⟨lw_p13, List.forall_mem_cons.mpr ⟨lw_p14, List.forall_mem_cons.mpr ⟨lw_p15, fun _ h => absurd h List.not_mem_nil⟩⟩⟩⟩⟩⟩⟩⟩⟩⟩⟩⟩⟩⟩⟩⟩
theorem lw_p16 : lw_okq (⟨"SpaceHouse$Server", "resize", "(LSpaceHouse$Node;I)V"⟩, 12) := ⟨⟨by decide +kernel, by decide +kernel⟩, List.mem_of_getElem? (i := 295) (by decide +kernel), List.mem_of_getElem? (i := 700) (by decide +kernel), List.mem_of_getElem? (i := 701) (by decide +kernel)⟩
theorem lw_p17 : lw_okq (⟨"SpaceHouse$Server", "doCreate", "(LSpaceHouse$Fid;)I"⟩, 12) := ⟨⟨by decide +kernel, by decide +kernel⟩, List.mem_of_getElem? (i := 295) (by decide +kernel), List.mem_of_getElem? (i := 708) (by decide +kernel), List.mem_of_getElem? (i := 709) (by decide +kernel)⟩
theorem lw_p18 : lw_okq (⟨"SpaceHouse$Server", "insert", "(ILSpaceHouse$Node;II)LSpaceHouse$Node;"⟩, 12) := ⟨⟨by decide +kernel, by decide +kernel⟩, List.mem_of_getElem? (i := 295) (by decide +kernel), List.mem_of_getElem? (i := 720) (by decide +kernel), List.mem_of_getElem? (i := 721) (by decide +kernel)⟩
theorem lw_p19 : lw_okq (⟨"SpaceHouse$Server", "doRead", "(LSpaceHouse$Fid;)I"⟩, 12) := ⟨⟨by decide +kernel, by decide +kernel⟩, List.mem_of_getElem? (i := 295) (by decide +kernel), List.mem_of_getElem? (i := 725) (by decide +kernel), List.mem_of_getElem? (i := 726) (by decide +kernel)⟩
theorem lw_p20 : lw_okq (⟨"SpaceHouse$Server", "tellBytes", "(LSpaceHouse$Node;JI)V"⟩, 12) := ⟨⟨by decide +kernel, by decide +kernel⟩, List.mem_of_getElem? (i := 295) (by decide +kernel), List.mem_of_getElem? (i := 729) (by decide +kernel), List.mem_of_getElem? (i := 730) (by decide +kernel)⟩
theorem lw_p21 : lw_okq (⟨"SpaceHouse$Server", "putStat", "(LSpaceHouse$Node;)V"⟩, 12) := ⟨⟨by decide +kernel, by decide +kernel⟩, List.mem_of_getElem? (i := 295) (by decide +kernel), List.mem_of_getElem? (i := 764) (by decide +kernel), List.mem_of_getElem? (i := 765) (by decide +kernel)⟩
theorem lw_p22 : lw_okq (⟨"SpaceHouse$Server", "doWrite", "(LSpaceHouse$Fid;)I"⟩, 12) := ⟨⟨by decide +kernel, by decide +kernel⟩, List.mem_of_getElem? (i := 295) (by decide +kernel), List.mem_of_getElem? (i := 769) (by decide +kernel), List.mem_of_getElem? (i := 770) (by decide +kernel)⟩
theorem lw_p23 : lw_okq (⟨"SpaceHouse$Server", "writeBytes", "(LSpaceHouse$Node;I)I"⟩, 12) := ⟨⟨by decide +kernel, by decide +kernel⟩, List.mem_of_getElem? (i := 295) (by decide +kernel), List.mem_of_getElem? (i := 773) (by decide +kernel), List.mem_of_getElem? (i := 774) (by decide +kernel)⟩
theorem lw_p24 : lw_okq (⟨"SpaceHouse$Server", "exceeds", "(LSpaceHouse$Node;J)Z"⟩, 12) := ⟨⟨by decide +kernel, by decide +kernel⟩, List.mem_of_getElem? (i := 295) (by decide +kernel), List.mem_of_getElem? (i := 780) (by decide +kernel), List.mem_of_getElem? (i := 781) (by decide +kernel)⟩
theorem lw_p25 : lw_okq (⟨"SpaceHouse$Server", "writeDevice", "(LSpaceHouse$Node;)I"⟩, 12) := ⟨⟨by decide +kernel, by decide +kernel⟩, List.mem_of_getElem? (i := 295) (by decide +kernel), List.mem_of_getElem? (i := 786) (by decide +kernel), List.mem_of_getElem? (i := 787) (by decide +kernel)⟩
theorem lw_p26 : lw_okq (⟨"SpaceHouse$Server", "doClunk", "(LSpaceHouse$Fid;)I"⟩, 12) := ⟨⟨by decide +kernel, by decide +kernel⟩, List.mem_of_getElem? (i := 295) (by decide +kernel), List.mem_of_getElem? (i := 791) (by decide +kernel), List.mem_of_getElem? (i := 792) (by decide +kernel)⟩
theorem lw_p27 : lw_okq (⟨"SpaceHouse$Server", "doRemove", "(LSpaceHouse$Fid;)I"⟩, 12) := ⟨⟨by decide +kernel, by decide +kernel⟩, List.mem_of_getElem? (i := 295) (by decide +kernel), List.mem_of_getElem? (i := 795) (by decide +kernel), List.mem_of_getElem? (i := 796) (by decide +kernel)⟩
theorem lw_p28 : lw_okq (⟨"SpaceHouse$Server", "doStat", "(LSpaceHouse$Fid;)I"⟩, 12) := ⟨⟨by decide +kernel, by decide +kernel⟩, List.mem_of_getElem? (i := 295) (by decide +kernel), List.mem_of_getElem? (i := 799) (by decide +kernel), List.mem_of_getElem? (i := 800) (by decide +kernel)⟩
theorem lw_p29 : lw_okq (⟨"SpaceHouse$Server", "doWstat", "(LSpaceHouse$Fid;)I"⟩, 12) := ⟨⟨by decide +kernel, by decide +kernel⟩, List.mem_of_getElem? (i := 295) (by decide +kernel), List.mem_of_getElem? (i := 803) (by decide +kernel), List.mem_of_getElem? (i := 804) (by decide +kernel)⟩
theorem lw_p30 : lw_okq (⟨"SpaceHouse$Server", "nameRefusal", "(LSpaceHouse$Node;IZLSpaceHouse$Node;)I"⟩, 12) := ⟨⟨by decide +kernel, by decide +kernel⟩, List.mem_of_getElem? (i := 295) (by decide +kernel), List.mem_of_getElem? (i := 811) (by decide +kernel), List.mem_of_getElem? (i := 812) (by decide +kernel)⟩
theorem lw_p31 : lw_okq (⟨"SpaceHouse$Server", "lengthRefusal", "(LSpaceHouse$Node;IJ)I"⟩, 12) := ⟨⟨by decide +kernel, by decide +kernel⟩, List.mem_of_getElem? (i := 295) (by decide +kernel), List.mem_of_getElem? (i := 815) (by decide +kernel), List.mem_of_getElem? (i := 816) (by decide +kernel)⟩
def lw_privs_2 : List (MethodName × Nat) := [(⟨"SpaceHouse$Server", "resize", "(LSpaceHouse$Node;I)V"⟩, 12), (⟨"SpaceHouse$Server", "doCreate", "(LSpaceHouse$Fid;)I"⟩, 12), (⟨"SpaceHouse$Server", "insert", "(ILSpaceHouse$Node;II)LSpaceHouse$Node;"⟩, 12), (⟨"SpaceHouse$Server", "doRead", "(LSpaceHouse$Fid;)I"⟩, 12), (⟨"SpaceHouse$Server", "tellBytes", "(LSpaceHouse$Node;JI)V"⟩, 12), (⟨"SpaceHouse$Server", "putStat", "(LSpaceHouse$Node;)V"⟩, 12), (⟨"SpaceHouse$Server", "doWrite", "(LSpaceHouse$Fid;)I"⟩, 12), (⟨"SpaceHouse$Server", "writeBytes", "(LSpaceHouse$Node;I)I"⟩, 12), (⟨"SpaceHouse$Server", "exceeds", "(LSpaceHouse$Node;J)Z"⟩, 12), (⟨"SpaceHouse$Server", "writeDevice", "(LSpaceHouse$Node;)I"⟩, 12), (⟨"SpaceHouse$Server", "doClunk", "(LSpaceHouse$Fid;)I"⟩, 12), (⟨"SpaceHouse$Server", "doRemove", "(LSpaceHouse$Fid;)I"⟩, 12), (⟨"SpaceHouse$Server", "doStat", "(LSpaceHouse$Fid;)I"⟩, 12), (⟨"SpaceHouse$Server", "doWstat", "(LSpaceHouse$Fid;)I"⟩, 12), (⟨"SpaceHouse$Server", "nameRefusal", "(LSpaceHouse$Node;IZLSpaceHouse$Node;)I"⟩, 12), (⟨"SpaceHouse$Server", "lengthRefusal", "(LSpaceHouse$Node;IJ)I"⟩, 12)]
theorem lw_r2 : ∀ q ∈ lw_privs_2, lw_okq q := List.forall_mem_cons.mpr ⟨lw_p16, List.forall_mem_cons.mpr ⟨lw_p17, List.forall_mem_cons.mpr ⟨lw_p18, List.forall_mem_cons.mpr ⟨lw_p19, List.forall_mem_cons.mpr ⟨lw_p20, List.forall_mem_cons.mpr ⟨lw_p21, List.forall_mem_cons.mpr ⟨lw_p22, List.forall_mem_cons.mpr ⟨lw_p23, List.forall_mem_cons.mpr ⟨lw_p24, List.forall_mem_cons.mpr ⟨lw_p25, List.forall_mem_cons.mpr ⟨lw_p26, List.forall_mem_cons.mpr ⟨lw_p27, List.forall_mem_cons.mpr ⟨lw_p28, List.forall_mem_cons.mpr ⟨lw_p29, List.forall_mem_cons.mpr ⟨lw_p30, List.forall_mem_cons.mpr ⟨lw_p31, fun _ h => absurd h List.not_mem_nil⟩⟩⟩⟩⟩⟩⟩⟩⟩⟩⟩⟩⟩⟩⟩⟩
theorem lw_p32 : lw_okq (⟨"SpaceHouse$Shell", "resume", "(LSpaceHouse$Process;)V"⟩, 7) := ⟨⟨by decide +kernel, by decide +kernel⟩, List.mem_of_getElem? (i := 872) (by decide +kernel), List.mem_of_getElem? (i := 1001) (by decide +kernel), List.mem_of_getElem? (i := 1002) (by decide +kernel)⟩
theorem lw_p33 : lw_okq (⟨"SpaceHouse$Shell", "nextWord", "(LSpaceHouse$Process;LSpaceHouse$Command;)Z"⟩, 7) := ⟨⟨by decide +kernel, by decide +kernel⟩, List.mem_of_getElem? (i := 872) (by decide +kernel), List.mem_of_getElem? (i := 1005) (by decide +kernel), List.mem_of_getElem? (i := 1006) (by decide +kernel)⟩
theorem lw_p34 : lw_okq (⟨"SpaceHouse$Shell", "nextLine", "(LSpaceHouse$Command;)Z"⟩, 7) := ⟨⟨by decide +kernel, by decide +kernel⟩, List.mem_of_getElem? (i := 872) (by decide +kernel), List.mem_of_getElem? (i := 1040) (by decide +kernel), List.mem_of_getElem? (i := 1041) (by decide +kernel)⟩
theorem lw_p35 : lw_okq (⟨"SpaceHouse$Shell", "innermostScript", "()LSpaceHouse$Command;"⟩, 7) := ⟨⟨by decide +kernel, by decide +kernel⟩, List.mem_of_getElem? (i := 872) (by decide +kernel), List.mem_of_getElem? (i := 1045) (by decide +kernel), List.mem_of_getElem? (i := 1046) (by decide +kernel)⟩
theorem lw_p36 : lw_okq (⟨"SpaceHouse$Shell", "expand", "(LSpaceHouse$Process;LSpaceHouse$Bytes;LSpaceHouse$Command;)Z"⟩, 7) := ⟨⟨by decide +kernel, by decide +kernel⟩, List.mem_of_getElem? (i := 872) (by decide +kernel), List.mem_of_getElem? (i := 1049) (by decide +kernel), List.mem_of_getElem? (i := 1050) (by decide +kernel)⟩
theorem lw_p37 : lw_okq (⟨"SpaceHouse$Kernel", "takeName", "(II)V"⟩, 18) := ⟨⟨by decide +kernel, by decide +kernel⟩, List.mem_of_getElem? (i := 29) (by decide +kernel), List.mem_of_getElem? (i := 1115) (by decide +kernel), List.mem_of_getElem? (i := 1116) (by decide +kernel)⟩
theorem lw_p38 : lw_okq (⟨"SpaceHouse$Kernel", "makePlain", "()Z"⟩, 18) := ⟨⟨by decide +kernel, by decide +kernel⟩, List.mem_of_getElem? (i := 29) (by decide +kernel), List.mem_of_getElem? (i := 1120) (by decide +kernel), List.mem_of_getElem? (i := 1121) (by decide +kernel)⟩
theorem lw_p39 : lw_okq (⟨"SpaceHouse$Kernel", "start", "(II)V"⟩, 18) := ⟨⟨by decide +kernel, by decide +kernel⟩, List.mem_of_getElem? (i := 29) (by decide +kernel), List.mem_of_getElem? (i := 1140) (by decide +kernel), List.mem_of_getElem? (i := 1141) (by decide +kernel)⟩
theorem lw_p40 : lw_okq (⟨"SpaceHouse$Kernel", "putName", "(I)V"⟩, 18) := ⟨⟨by decide +kernel, by decide +kernel⟩, List.mem_of_getElem? (i := 29) (by decide +kernel), List.mem_of_getElem? (i := 1144) (by decide +kernel), List.mem_of_getElem? (i := 1145) (by decide +kernel)⟩
theorem lw_p41 : lw_okq (⟨"SpaceHouse$Commands", "pour", "(LSpaceHouse$Bytes;)I"⟩, 6) := ⟨⟨by decide +kernel, by decide +kernel⟩, List.mem_of_getElem? (i := 843) (by decide +kernel), List.mem_of_getElem? (i := 1182) (by decide +kernel), List.mem_of_getElem? (i := 1183) (by decide +kernel)⟩
theorem lw_p42 : lw_okq (⟨"SpaceHouse$Commands", "send", "(LSpaceHouse$Channel;LSpaceHouse$Bytes;)I"⟩, 6) := ⟨⟨by decide +kernel, by decide +kernel⟩, List.mem_of_getElem? (i := 843) (by decide +kernel), List.mem_of_getElem? (i := 1190) (by decide +kernel), List.mem_of_getElem? (i := 1191) (by decide +kernel)⟩
theorem lw_p43 : lw_okq (⟨"SpaceHouse$Commands", "list", "(LSpaceHouse$Bytes;)I"⟩, 6) := ⟨⟨by decide +kernel, by decide +kernel⟩, List.mem_of_getElem? (i := 843) (by decide +kernel), List.mem_of_getElem? (i := 1207) (by decide +kernel), List.mem_of_getElem? (i := 1208) (by decide +kernel)⟩
theorem lw_p44 : lw_okq (⟨"SpaceHouse$Commands", "listStats", "(LSpaceHouse$Bytes;I)V"⟩, 6) := ⟨⟨by decide +kernel, by decide +kernel⟩, List.mem_of_getElem? (i := 843) (by decide +kernel), List.mem_of_getElem? (i := 1211) (by decide +kernel), List.mem_of_getElem? (i := 1212) (by decide +kernel)⟩
theorem lw_p45 : lw_okq (⟨"SpaceHouse$Commands", "make", "(LSpaceHouse$Process;LSpaceHouse$Command;IJI)I"⟩, 6) := ⟨⟨by decide +kernel, by decide +kernel⟩, List.mem_of_getElem? (i := 843) (by decide +kernel), List.mem_of_getElem? (i := 1232) (by decide +kernel), List.mem_of_getElem? (i := 1233) (by decide +kernel)⟩
theorem lw_p46 : lw_okq (⟨"SpaceHouse$Command", "numberOf", "(III)I"⟩, 9) := ⟨⟨by decide +kernel, by decide +kernel⟩, List.mem_of_getElem? (i := 881) (by decide +kernel), List.mem_of_getElem? (i := 1265) (by decide +kernel), List.mem_of_getElem? (i := 1266) (by decide +kernel)⟩
theorem lw_p47 : lw_okq (⟨"SpaceHouse$Commands", "settle", "(LSpaceHouse$Process;)V"⟩, 6) := ⟨⟨by decide +kernel, by decide +kernel⟩, List.mem_of_getElem? (i := 843) (by decide +kernel), List.mem_of_getElem? (i := 1277) (by decide +kernel), List.mem_of_getElem? (i := 1278) (by decide +kernel)⟩
def lw_privs_3 : List (MethodName × Nat) := [(⟨"SpaceHouse$Shell", "resume", "(LSpaceHouse$Process;)V"⟩, 7), (⟨"SpaceHouse$Shell", "nextWord", "(LSpaceHouse$Process;LSpaceHouse$Command;)Z"⟩, 7), (⟨"SpaceHouse$Shell", "nextLine", "(LSpaceHouse$Command;)Z"⟩, 7), (⟨"SpaceHouse$Shell", "innermostScript", "()LSpaceHouse$Command;"⟩, 7), (⟨"SpaceHouse$Shell", "expand", "(LSpaceHouse$Process;LSpaceHouse$Bytes;LSpaceHouse$Command;)Z"⟩, 7), (⟨"SpaceHouse$Kernel", "takeName", "(II)V"⟩, 18), (⟨"SpaceHouse$Kernel", "makePlain", "()Z"⟩, 18), (⟨"SpaceHouse$Kernel", "start", "(II)V"⟩, 18), (⟨"SpaceHouse$Kernel", "putName", "(I)V"⟩, 18), (⟨"SpaceHouse$Commands", "pour", "(LSpaceHouse$Bytes;)I"⟩, 6), (⟨"SpaceHouse$Commands", "send", "(LSpaceHouse$Channel;LSpaceHouse$Bytes;)I"⟩, 6), (⟨"SpaceHouse$Commands", "list", "(LSpaceHouse$Bytes;)I"⟩, 6), (⟨"SpaceHouse$Commands", "listStats", "(LSpaceHouse$Bytes;I)V"⟩, 6), (⟨"SpaceHouse$Commands", "make", "(LSpaceHouse$Process;LSpaceHouse$Command;IJI)I"⟩, 6), (⟨"SpaceHouse$Command", "numberOf", "(III)I"⟩, 9), (⟨"SpaceHouse$Commands", "settle", "(LSpaceHouse$Process;)V"⟩, 6)]
theorem lw_r3 : ∀ q ∈ lw_privs_3, lw_okq q := List.forall_mem_cons.mpr ⟨lw_p32, List.forall_mem_cons.mpr ⟨lw_p33, List.forall_mem_cons.mpr ⟨lw_p34, List.forall_mem_cons.mpr ⟨lw_p35, List.forall_mem_cons.mpr ⟨lw_p36, List.forall_mem_cons.mpr ⟨lw_p37, List.forall_mem_cons.mpr ⟨lw_p38, List.forall_mem_cons.mpr ⟨lw_p39, List.forall_mem_cons.mpr ⟨lw_p40, List.forall_mem_cons.mpr ⟨lw_p41, List.forall_mem_cons.mpr ⟨lw_p42, List.forall_mem_cons.mpr ⟨lw_p43, List.forall_mem_cons.mpr ⟨lw_p44, List.forall_mem_cons.mpr ⟨lw_p45, List.forall_mem_cons.mpr ⟨lw_p46, List.forall_mem_cons.mpr ⟨lw_p47, fun _ h => absurd h List.not_mem_nil⟩⟩⟩⟩⟩⟩⟩⟩⟩⟩⟩⟩⟩⟩⟩⟩
theorem lw_p48 : lw_okq (⟨"SpaceHouse$Commands", "tellStat", "(LSpaceHouse$Bytes;)V"⟩, 6) := ⟨⟨by decide +kernel, by decide +kernel⟩, List.mem_of_getElem? (i := 843) (by decide +kernel), List.mem_of_getElem? (i := 1324) (by decide +kernel), List.mem_of_getElem? (i := 1325) (by decide +kernel)⟩
theorem lw_p49 : lw_okq (⟨"SpaceHouse$Commands", "reachTwo", "(LSpaceHouse$Process;LSpaceHouse$Command;)I"⟩, 6) := ⟨⟨by decide +kernel, by decide +kernel⟩, List.mem_of_getElem? (i := 843) (by decide +kernel), List.mem_of_getElem? (i := 1368) (by decide +kernel), List.mem_of_getElem? (i := 1369) (by decide +kernel)⟩
theorem lw_p50 : lw_okq (⟨"SpaceHouse$Commands", "place", "(LSpaceHouse$Group;I)I"⟩, 6) := ⟨⟨by decide +kernel, by decide +kernel⟩, List.mem_of_getElem? (i := 843) (by decide +kernel), List.mem_of_getElem? (i := 1372) (by decide +kernel), List.mem_of_getElem? (i := 1373) (by decide +kernel)⟩
theorem lw_p51 : lw_okq (⟨"SpaceHouse$Commands", "placeRefusal", "(LSpaceHouse$Group;LSpaceHouse$Point;LSpaceHouse$Point;I)I"⟩, 6) := ⟨⟨by decide +kernel, by decide +kernel⟩, List.mem_of_getElem? (i := 843) (by decide +kernel), List.mem_of_getElem? (i := 1377) (by decide +kernel), List.mem_of_getElem? (i := 1378) (by decide +kernel)⟩
theorem lw_p52 : lw_okq (⟨"SpaceHouse$Commands", "gather", "(LSpaceHouse$Point;Z)I"⟩, 6) := ⟨⟨by decide +kernel, by decide +kernel⟩, List.mem_of_getElem? (i := 843) (by decide +kernel), List.mem_of_getElem? (i := 1381) (by decide +kernel), List.mem_of_getElem? (i := 1382) (by decide +kernel)⟩
theorem lw_p53 : lw_okq (⟨"SpaceHouse$Commands", "unmountOne", "(LSpaceHouse$Group;)I"⟩, 6) := ⟨⟨by decide +kernel, by decide +kernel⟩, List.mem_of_getElem? (i := 843) (by decide +kernel), List.mem_of_getElem? (i := 1408) (by decide +kernel), List.mem_of_getElem? (i := 1409) (by decide +kernel)⟩
theorem lw_p54 : lw_okq (⟨"SpaceHouse$Kernel", "clunkBack", "(LSpaceHouse$Point;)V"⟩, 18) := ⟨⟨by decide +kernel, by decide +kernel⟩, List.mem_of_getElem? (i := 29) (by decide +kernel), List.mem_of_getElem? (i := 1445) (by decide +kernel), List.mem_of_getElem? (i := 1446) (by decide +kernel)⟩
theorem lw_p55 : lw_okq (⟨"SpaceHouse$Kernel", "end", "(LSpaceHouse$Process;)V"⟩, 18) := ⟨⟨by decide +kernel, by decide +kernel⟩, List.mem_of_getElem? (i := 29) (by decide +kernel), List.mem_of_getElem? (i := 1506) (by decide +kernel), List.mem_of_getElem? (i := 1507) (by decide +kernel)⟩
theorem lw_p56 : lw_okq (⟨"SpaceHouseModel", "begin", "(II)V"⟩, 115) := ⟨⟨by decide +kernel, by decide +kernel⟩, List.mem_of_getElem? (i := 1626) (by decide +kernel), List.mem_of_getElem? (i := 1636) (by decide +kernel), List.mem_of_getElem? (i := 1637) (by decide +kernel)⟩
theorem lw_p57 : lw_okq (⟨"SpaceHouseModel", "askPut", "(IJ)V"⟩, 115) := ⟨⟨by decide +kernel, by decide +kernel⟩, List.mem_of_getElem? (i := 1626) (by decide +kernel), List.mem_of_getElem? (i := 1640) (by decide +kernel), List.mem_of_getElem? (i := 1641) (by decide +kernel)⟩
theorem lw_p58 : lw_okq (⟨"SpaceHouseModel", "askWord", "(JI)V"⟩, 115) := ⟨⟨by decide +kernel, by decide +kernel⟩, List.mem_of_getElem? (i := 1626) (by decide +kernel), List.mem_of_getElem? (i := 1648) (by decide +kernel), List.mem_of_getElem? (i := 1649) (by decide +kernel)⟩
theorem lw_p59 : lw_okq (⟨"SpaceHouseModel", "transact", "(I)I"⟩, 115) := ⟨⟨by decide +kernel, by decide +kernel⟩, List.mem_of_getElem? (i := 1626) (by decide +kernel), List.mem_of_getElem? (i := 1652) (by decide +kernel), List.mem_of_getElem? (i := 1653) (by decide +kernel)⟩
theorem lw_p60 : lw_okq (⟨"SpaceHouseModel", "keepByte", "(II)V"⟩, 115) := ⟨⟨by decide +kernel, by decide +kernel⟩, List.mem_of_getElem? (i := 1626) (by decide +kernel), List.mem_of_getElem? (i := 1656) (by decide +kernel), List.mem_of_getElem? (i := 1657) (by decide +kernel)⟩
theorem lw_p61 : lw_okq (⟨"SpaceHouseModel", "serve", "(II)V"⟩, 115) := ⟨⟨by decide +kernel, by decide +kernel⟩, List.mem_of_getElem? (i := 1626) (by decide +kernel), List.mem_of_getElem? (i := 1661) (by decide +kernel), List.mem_of_getElem? (i := 1662) (by decide +kernel)⟩
theorem lw_p62 : lw_okq (⟨"SpaceHouseModel", "number", "(I)J"⟩, 115) := ⟨⟨by decide +kernel, by decide +kernel⟩, List.mem_of_getElem? (i := 1626) (by decide +kernel), List.mem_of_getElem? (i := 1665) (by decide +kernel), List.mem_of_getElem? (i := 1666) (by decide +kernel)⟩
theorem lw_p63 : lw_okq (⟨"SpaceHouseModel", "refuse", "(I)V"⟩, 115) := ⟨⟨by decide +kernel, by decide +kernel⟩, List.mem_of_getElem? (i := 1626) (by decide +kernel), List.mem_of_getElem? (i := 1669) (by decide +kernel), List.mem_of_getElem? (i := 1670) (by decide +kernel)⟩
def lw_privs_4 : List (MethodName × Nat) := [(⟨"SpaceHouse$Commands", "tellStat", "(LSpaceHouse$Bytes;)V"⟩, 6), (⟨"SpaceHouse$Commands", "reachTwo", "(LSpaceHouse$Process;LSpaceHouse$Command;)I"⟩, 6), (⟨"SpaceHouse$Commands", "place", "(LSpaceHouse$Group;I)I"⟩, 6), (⟨"SpaceHouse$Commands", "placeRefusal", "(LSpaceHouse$Group;LSpaceHouse$Point;LSpaceHouse$Point;I)I"⟩, 6), (⟨"SpaceHouse$Commands", "gather", "(LSpaceHouse$Point;Z)I"⟩, 6), (⟨"SpaceHouse$Commands", "unmountOne", "(LSpaceHouse$Group;)I"⟩, 6), (⟨"SpaceHouse$Kernel", "clunkBack", "(LSpaceHouse$Point;)V"⟩, 18), (⟨"SpaceHouse$Kernel", "end", "(LSpaceHouse$Process;)V"⟩, 18), (⟨"SpaceHouseModel", "begin", "(II)V"⟩, 115), (⟨"SpaceHouseModel", "askPut", "(IJ)V"⟩, 115), (⟨"SpaceHouseModel", "askWord", "(JI)V"⟩, 115), (⟨"SpaceHouseModel", "transact", "(I)I"⟩, 115), (⟨"SpaceHouseModel", "keepByte", "(II)V"⟩, 115), (⟨"SpaceHouseModel", "serve", "(II)V"⟩, 115), (⟨"SpaceHouseModel", "number", "(I)J"⟩, 115), (⟨"SpaceHouseModel", "refuse", "(I)V"⟩, 115)]
theorem lw_r4 : ∀ q ∈ lw_privs_4, lw_okq q := List.forall_mem_cons.mpr ⟨lw_p48, List.forall_mem_cons.mpr ⟨lw_p49, List.forall_mem_cons.mpr ⟨lw_p50, List.forall_mem_cons.mpr ⟨lw_p51, List.forall_mem_cons.mpr ⟨lw_p52, List.forall_mem_cons.mpr ⟨lw_p53, List.forall_mem_cons.mpr ⟨lw_p54, List.forall_mem_cons.mpr ⟨lw_p55, List.forall_mem_cons.mpr ⟨lw_p56, List.forall_mem_cons.mpr ⟨lw_p57, List.forall_mem_cons.mpr ⟨lw_p58, List.forall_mem_cons.mpr ⟨lw_p59, List.forall_mem_cons.mpr ⟨lw_p60, List.forall_mem_cons.mpr ⟨lw_p61, List.forall_mem_cons.mpr ⟨lw_p62, List.forall_mem_cons.mpr ⟨lw_p63, fun _ h => absurd h List.not_mem_nil⟩⟩⟩⟩⟩⟩⟩⟩⟩⟩⟩⟩⟩⟩⟩⟩
theorem lw_p64 : lw_okq (⟨"SpaceHouseModel", "reply", "(I)V"⟩, 115) := ⟨⟨by decide +kernel, by decide +kernel⟩, List.mem_of_getElem? (i := 1626) (by decide +kernel), List.mem_of_getElem? (i := 1673) (by decide +kernel), List.mem_of_getElem? (i := 1674) (by decide +kernel)⟩
theorem lw_p65 : lw_okq (⟨"SpaceHouseModel", "put", "(IJ)V"⟩, 115) := ⟨⟨by decide +kernel, by decide +kernel⟩, List.mem_of_getElem? (i := 1626) (by decide +kernel), List.mem_of_getElem? (i := 1677) (by decide +kernel), List.mem_of_getElem? (i := 1678) (by decide +kernel)⟩
theorem lw_p66 : lw_okq (⟨"SpaceHouseModel", "serveFirst", "(III)V"⟩, 115) := ⟨⟨by decide +kernel, by decide +kernel⟩, List.mem_of_getElem? (i := 1626) (by decide +kernel), List.mem_of_getElem? (i := 1681) (by decide +kernel), List.mem_of_getElem? (i := 1682) (by decide +kernel)⟩
theorem lw_p67 : lw_okq (⟨"SpaceHouseModel", "serveVersion", "(II)V"⟩, 115) := ⟨⟨by decide +kernel, by decide +kernel⟩, List.mem_of_getElem? (i := 1626) (by decide +kernel), List.mem_of_getElem? (i := 1685) (by decide +kernel), List.mem_of_getElem? (i := 1686) (by decide +kernel)⟩
theorem lw_p68 : lw_okq (⟨"SpaceHouseModel", "string", "()V"⟩, 115) := ⟨⟨by decide +kernel, by decide +kernel⟩, List.mem_of_getElem? (i := 1626) (by decide +kernel), List.mem_of_getElem? (i := 1689) (by decide +kernel), List.mem_of_getElem? (i := 1690) (by decide +kernel)⟩
theorem lw_p69 : lw_okq (⟨"SpaceHouseModel", "isWhole", "()Z"⟩, 115) := ⟨⟨by decide +kernel, by decide +kernel⟩, List.mem_of_getElem? (i := 1626) (by decide +kernel), List.mem_of_getElem? (i := 1693) (by decide +kernel), List.mem_of_getElem? (i := 1694) (by decide +kernel)⟩
theorem lw_p70 : lw_okq (⟨"SpaceHouseModel", "leastFid", "(II)I"⟩, 115) := ⟨⟨by decide +kernel, by decide +kernel⟩, List.mem_of_getElem? (i := 1626) (by decide +kernel), List.mem_of_getElem? (i := 1698) (by decide +kernel), List.mem_of_getElem? (i := 1699) (by decide +kernel)⟩
theorem lw_p71 : lw_okq (⟨"SpaceHouseModel", "clunk", "(II)V"⟩, 115) := ⟨⟨by decide +kernel, by decide +kernel⟩, List.mem_of_getElem? (i := 1626) (by decide +kernel), List.mem_of_getElem? (i := 1705) (by decide +kernel), List.mem_of_getElem? (i := 1706) (by decide +kernel)⟩
theorem lw_p72 : lw_okq (⟨"SpaceHouseModel", "removal", "(III)I"⟩, 115) := ⟨⟨by decide +kernel, by decide +kernel⟩, List.mem_of_getElem? (i := 1626) (by decide +kernel), List.mem_of_getElem? (i := 1709) (by decide +kernel), List.mem_of_getElem? (i := 1710) (by decide +kernel)⟩
theorem lw_p73 : lw_okq (⟨"SpaceHouseModel", "aboveOf", "(II)I"⟩, 115) := ⟨⟨by decide +kernel, by decide +kernel⟩, List.mem_of_getElem? (i := 1626) (by decide +kernel), List.mem_of_getElem? (i := 1713) (by decide +kernel), List.mem_of_getElem? (i := 1714) (by decide +kernel)⟩
theorem lw_p74 : lw_okq (⟨"SpaceHouseModel", "may", "(IIII)Z"⟩, 115) := ⟨⟨by decide +kernel, by decide +kernel⟩, List.mem_of_getElem? (i := 1626) (by decide +kernel), List.mem_of_getElem? (i := 1720) (by decide +kernel), List.mem_of_getElem? (i := 1721) (by decide +kernel)⟩
theorem lw_p75 : lw_okq (⟨"SpaceHouseModel", "modeOf", "(II)I"⟩, 115) := ⟨⟨by decide +kernel, by decide +kernel⟩, List.mem_of_getElem? (i := 1626) (by decide +kernel), List.mem_of_getElem? (i := 1724) (by decide +kernel), List.mem_of_getElem? (i := 1725) (by decide +kernel)⟩
theorem lw_p76 : lw_okq (⟨"SpaceHouseModel", "uidOf", "(II)I"⟩, 115) := ⟨⟨by decide +kernel, by decide +kernel⟩, List.mem_of_getElem? (i := 1626) (by decide +kernel), List.mem_of_getElem? (i := 1729) (by decide +kernel), List.mem_of_getElem? (i := 1730) (by decide +kernel)⟩
theorem lw_p77 : lw_okq (⟨"SpaceHouseModel", "gidOf", "(II)I"⟩, 115) := ⟨⟨by decide +kernel, by decide +kernel⟩, List.mem_of_getElem? (i := 1626) (by decide +kernel), List.mem_of_getElem? (i := 1733) (by decide +kernel), List.mem_of_getElem? (i := 1734) (by decide +kernel)⟩
theorem lw_p78 : lw_okq (⟨"SpaceHouseModel", "isDirectory", "(II)Z"⟩, 115) := ⟨⟨by decide +kernel, by decide +kernel⟩, List.mem_of_getElem? (i := 1626) (by decide +kernel), List.mem_of_getElem? (i := 1737) (by decide +kernel), List.mem_of_getElem? (i := 1738) (by decide +kernel)⟩
theorem lw_p79 : lw_okq (⟨"SpaceHouseModel", "entry", "(III)I"⟩, 115) := ⟨⟨by decide +kernel, by decide +kernel⟩, List.mem_of_getElem? (i := 1626) (by decide +kernel), List.mem_of_getElem? (i := 1741) (by decide +kernel), List.mem_of_getElem? (i := 1742) (by decide +kernel)⟩
def lw_privs_5 : List (MethodName × Nat) := [(⟨"SpaceHouseModel", "reply", "(I)V"⟩, 115), (⟨"SpaceHouseModel", "put", "(IJ)V"⟩, 115), (⟨"SpaceHouseModel", "serveFirst", "(III)V"⟩, 115), (⟨"SpaceHouseModel", "serveVersion", "(II)V"⟩, 115), (⟨"SpaceHouseModel", "string", "()V"⟩, 115), (⟨"SpaceHouseModel", "isWhole", "()Z"⟩, 115), (⟨"SpaceHouseModel", "leastFid", "(II)I"⟩, 115), (⟨"SpaceHouseModel", "clunk", "(II)V"⟩, 115), (⟨"SpaceHouseModel", "removal", "(III)I"⟩, 115), (⟨"SpaceHouseModel", "aboveOf", "(II)I"⟩, 115), (⟨"SpaceHouseModel", "may", "(IIII)Z"⟩, 115), (⟨"SpaceHouseModel", "modeOf", "(II)I"⟩, 115), (⟨"SpaceHouseModel", "uidOf", "(II)I"⟩, 115), (⟨"SpaceHouseModel", "gidOf", "(II)I"⟩, 115), (⟨"SpaceHouseModel", "isDirectory", "(II)Z"⟩, 115), (⟨"SpaceHouseModel", "entry", "(III)I"⟩, 115)]
theorem lw_r5 : ∀ q ∈ lw_privs_5, lw_okq q := List.forall_mem_cons.mpr ⟨lw_p64, List.forall_mem_cons.mpr ⟨lw_p65, List.forall_mem_cons.mpr ⟨lw_p66, List.forall_mem_cons.mpr ⟨lw_p67, List.forall_mem_cons.mpr ⟨lw_p68, List.forall_mem_cons.mpr ⟨lw_p69, List.forall_mem_cons.mpr ⟨lw_p70, List.forall_mem_cons.mpr ⟨lw_p71, List.forall_mem_cons.mpr ⟨lw_p72, List.forall_mem_cons.mpr ⟨lw_p73, List.forall_mem_cons.mpr ⟨lw_p74, List.forall_mem_cons.mpr ⟨lw_p75, List.forall_mem_cons.mpr ⟨lw_p76, List.forall_mem_cons.mpr ⟨lw_p77, List.forall_mem_cons.mpr ⟨lw_p78, List.forall_mem_cons.mpr ⟨lw_p79, fun _ h => absurd h List.not_mem_nil⟩⟩⟩⟩⟩⟩⟩⟩⟩⟩⟩⟩⟩⟩⟩⟩
theorem lw_p80 : lw_okq (⟨"SpaceHouseModel", "remove", "(III)V"⟩, 115) := ⟨⟨by decide +kernel, by decide +kernel⟩, List.mem_of_getElem? (i := 1626) (by decide +kernel), List.mem_of_getElem? (i := 1745) (by decide +kernel), List.mem_of_getElem? (i := 1746) (by decide +kernel)⟩
theorem lw_p81 : lw_okq (⟨"SpaceHouseModel", "grow", "(III)V"⟩, 115) := ⟨⟨by decide +kernel, by decide +kernel⟩, List.mem_of_getElem? (i := 1626) (by decide +kernel), List.mem_of_getElem? (i := 1749) (by decide +kernel), List.mem_of_getElem? (i := 1750) (by decide +kernel)⟩
theorem lw_p82 : lw_okq (⟨"SpaceHouseModel", "isPacked", "(IJI)Z"⟩, 115) := ⟨⟨by decide +kernel, by decide +kernel⟩, List.mem_of_getElem? (i := 1626) (by decide +kernel), List.mem_of_getElem? (i := 1754) (by decide +kernel), List.mem_of_getElem? (i := 1755) (by decide +kernel)⟩
theorem lw_p83 : lw_okq (⟨"SpaceHouseModel", "putPacked", "(JI)V"⟩, 115) := ⟨⟨by decide +kernel, by decide +kernel⟩, List.mem_of_getElem? (i := 1626) (by decide +kernel), List.mem_of_getElem? (i := 1759) (by decide +kernel), List.mem_of_getElem? (i := 1760) (by decide +kernel)⟩
theorem lw_p84 : lw_okq (⟨"SpaceHouseModel", "serveAttach", "(II)V"⟩, 115) := ⟨⟨by decide +kernel, by decide +kernel⟩, List.mem_of_getElem? (i := 1626) (by decide +kernel), List.mem_of_getElem? (i := 1763) (by decide +kernel), List.mem_of_getElem? (i := 1764) (by decide +kernel)⟩
theorem lw_p85 : lw_okq (⟨"SpaceHouseModel", "userNamed", "(II)I"⟩, 115) := ⟨⟨by decide +kernel, by decide +kernel⟩, List.mem_of_getElem? (i := 1626) (by decide +kernel), List.mem_of_getElem? (i := 1767) (by decide +kernel), List.mem_of_getElem? (i := 1768) (by decide +kernel)⟩
theorem lw_p86 : lw_okq (⟨"SpaceHouseModel", "freeFid", "(II)I"⟩, 115) := ⟨⟨by decide +kernel, by decide +kernel⟩, List.mem_of_getElem? (i := 1626) (by decide +kernel), List.mem_of_getElem? (i := 1771) (by decide +kernel), List.mem_of_getElem? (i := 1772) (by decide +kernel)⟩
theorem lw_p87 : lw_okq (⟨"SpaceHouseModel", "findFid", "(IIJ)I"⟩, 115) := ⟨⟨by decide +kernel, by decide +kernel⟩, List.mem_of_getElem? (i := 1626) (by decide +kernel), List.mem_of_getElem? (i := 1775) (by decide +kernel), List.mem_of_getElem? (i := 1776) (by decide +kernel)⟩
theorem lw_p88 : lw_okq (⟨"SpaceHouseModel", "makeFid", "(IJII)V"⟩, 115) := ⟨⟨by decide +kernel, by decide +kernel⟩, List.mem_of_getElem? (i := 1626) (by decide +kernel), List.mem_of_getElem? (i := 1780) (by decide +kernel), List.mem_of_getElem? (i := 1781) (by decide +kernel)⟩
theorem lw_p89 : lw_okq (⟨"SpaceHouseModel", "pathNumber", "(II)I"⟩, 115) := ⟨⟨by decide +kernel, by decide +kernel⟩, List.mem_of_getElem? (i := 1626) (by decide +kernel), List.mem_of_getElem? (i := 1784) (by decide +kernel), List.mem_of_getElem? (i := 1785) (by decide +kernel)⟩
theorem lw_p90 : lw_okq (⟨"SpaceHouseModel", "putQid", "(II)V"⟩, 115) := ⟨⟨by decide +kernel, by decide +kernel⟩, List.mem_of_getElem? (i := 1626) (by decide +kernel), List.mem_of_getElem? (i := 1788) (by decide +kernel), List.mem_of_getElem? (i := 1789) (by decide +kernel)⟩
theorem lw_p91 : lw_okq (⟨"SpaceHouseModel", "versionOf", "(II)I"⟩, 115) := ⟨⟨by decide +kernel, by decide +kernel⟩, List.mem_of_getElem? (i := 1626) (by decide +kernel), List.mem_of_getElem? (i := 1794) (by decide +kernel), List.mem_of_getElem? (i := 1795) (by decide +kernel)⟩
theorem lw_p92 : lw_okq (⟨"SpaceHouseModel", "serveWalk", "(II)V"⟩, 115) := ⟨⟨by decide +kernel, by decide +kernel⟩, List.mem_of_getElem? (i := 1626) (by decide +kernel), List.mem_of_getElem? (i := 1798) (by decide +kernel), List.mem_of_getElem? (i := 1799) (by decide +kernel)⟩
theorem lw_p93 : lw_okq (⟨"SpaceHouseModel", "step", "(IIII)I"⟩, 115) := ⟨⟨by decide +kernel, by decide +kernel⟩, List.mem_of_getElem? (i := 1626) (by decide +kernel), List.mem_of_getElem? (i := 1802) (by decide +kernel), List.mem_of_getElem? (i := 1803) (by decide +kernel)⟩
theorem lw_p94 : lw_okq (⟨"SpaceHouseModel", "find", "(IIII)I"⟩, 115) := ⟨⟨by decide +kernel, by decide +kernel⟩, List.mem_of_getElem? (i := 1626) (by decide +kernel), List.mem_of_getElem? (i := 1806) (by decide +kernel), List.mem_of_getElem? (i := 1807) (by decide +kernel)⟩
theorem lw_p95 : lw_okq (⟨"SpaceHouseModel", "isNamed", "(IIII)Z"⟩, 115) := ⟨⟨by decide +kernel, by decide +kernel⟩, List.mem_of_getElem? (i := 1626) (by decide +kernel), List.mem_of_getElem? (i := 1810) (by decide +kernel), List.mem_of_getElem? (i := 1811) (by decide +kernel)⟩
def lw_privs_6 : List (MethodName × Nat) := [(⟨"SpaceHouseModel", "remove", "(III)V"⟩, 115), (⟨"SpaceHouseModel", "grow", "(III)V"⟩, 115), (⟨"SpaceHouseModel", "isPacked", "(IJI)Z"⟩, 115), (⟨"SpaceHouseModel", "putPacked", "(JI)V"⟩, 115), (⟨"SpaceHouseModel", "serveAttach", "(II)V"⟩, 115), (⟨"SpaceHouseModel", "userNamed", "(II)I"⟩, 115), (⟨"SpaceHouseModel", "freeFid", "(II)I"⟩, 115), (⟨"SpaceHouseModel", "findFid", "(IIJ)I"⟩, 115), (⟨"SpaceHouseModel", "makeFid", "(IJII)V"⟩, 115), (⟨"SpaceHouseModel", "pathNumber", "(II)I"⟩, 115), (⟨"SpaceHouseModel", "putQid", "(II)V"⟩, 115), (⟨"SpaceHouseModel", "versionOf", "(II)I"⟩, 115), (⟨"SpaceHouseModel", "serveWalk", "(II)V"⟩, 115), (⟨"SpaceHouseModel", "step", "(IIII)I"⟩, 115), (⟨"SpaceHouseModel", "find", "(IIII)I"⟩, 115), (⟨"SpaceHouseModel", "isNamed", "(IIII)Z"⟩, 115)]
theorem lw_r6 : ∀ q ∈ lw_privs_6, lw_okq q := List.forall_mem_cons.mpr ⟨lw_p80, List.forall_mem_cons.mpr ⟨lw_p81, List.forall_mem_cons.mpr ⟨lw_p82, List.forall_mem_cons.mpr ⟨lw_p83, List.forall_mem_cons.mpr ⟨lw_p84, List.forall_mem_cons.mpr ⟨lw_p85, List.forall_mem_cons.mpr ⟨lw_p86, List.forall_mem_cons.mpr ⟨lw_p87, List.forall_mem_cons.mpr ⟨lw_p88, List.forall_mem_cons.mpr ⟨lw_p89, List.forall_mem_cons.mpr ⟨lw_p90, List.forall_mem_cons.mpr ⟨lw_p91, List.forall_mem_cons.mpr ⟨lw_p92, List.forall_mem_cons.mpr ⟨lw_p93, List.forall_mem_cons.mpr ⟨lw_p94, List.forall_mem_cons.mpr ⟨lw_p95, fun _ h => absurd h List.not_mem_nil⟩⟩⟩⟩⟩⟩⟩⟩⟩⟩⟩⟩⟩⟩⟩⟩
theorem lw_p96 : lw_okq (⟨"SpaceHouseModel", "nameSize", "(II)I"⟩, 115) := ⟨⟨by decide +kernel, by decide +kernel⟩, List.mem_of_getElem? (i := 1626) (by decide +kernel), List.mem_of_getElem? (i := 1814) (by decide +kernel), List.mem_of_getElem? (i := 1815) (by decide +kernel)⟩
theorem lw_p97 : lw_okq (⟨"SpaceHouseModel", "nameByte", "(III)I"⟩, 115) := ⟨⟨by decide +kernel, by decide +kernel⟩, List.mem_of_getElem? (i := 1626) (by decide +kernel), List.mem_of_getElem? (i := 1828) (by decide +kernel), List.mem_of_getElem? (i := 1829) (by decide +kernel)⟩
theorem lw_p98 : lw_okq (⟨"SpaceHouseModel", "serveOpen", "(II)V"⟩, 115) := ⟨⟨by decide +kernel, by decide +kernel⟩, List.mem_of_getElem? (i := 1626) (by decide +kernel), List.mem_of_getElem? (i := 1832) (by decide +kernel), List.mem_of_getElem? (i := 1833) (by decide +kernel)⟩
theorem lw_p99 : lw_okq (⟨"SpaceHouseModel", "opening", "(IIII)I"⟩, 115) := ⟨⟨by decide +kernel, by decide +kernel⟩, List.mem_of_getElem? (i := 1626) (by decide +kernel), List.mem_of_getElem? (i := 1836) (by decide +kernel), List.mem_of_getElem? (i := 1837) (by decide +kernel)⟩
theorem lw_p100 : lw_okq (⟨"SpaceHouseModel", "resize", "(III)V"⟩, 115) := ⟨⟨by decide +kernel, by decide +kernel⟩, List.mem_of_getElem? (i := 1626) (by decide +kernel), List.mem_of_getElem? (i := 1840) (by decide +kernel), List.mem_of_getElem? (i := 1841) (by decide +kernel)⟩
theorem lw_p101 : lw_okq (⟨"SpaceHouseModel", "open", "(II)V"⟩, 115) := ⟨⟨by decide +kernel, by decide +kernel⟩, List.mem_of_getElem? (i := 1626) (by decide +kernel), List.mem_of_getElem? (i := 1844) (by decide +kernel), List.mem_of_getElem? (i := 1845) (by decide +kernel)⟩
theorem lw_p102 : lw_okq (⟨"SpaceHouseModel", "serveMore", "(III)V"⟩, 115) := ⟨⟨by decide +kernel, by decide +kernel⟩, List.mem_of_getElem? (i := 1626) (by decide +kernel), List.mem_of_getElem? (i := 1848) (by decide +kernel), List.mem_of_getElem? (i := 1849) (by decide +kernel)⟩
theorem lw_p103 : lw_okq (⟨"SpaceHouseModel", "serveCreate", "(II)V"⟩, 115) := ⟨⟨by decide +kernel, by decide +kernel⟩, List.mem_of_getElem? (i := 1626) (by decide +kernel), List.mem_of_getElem? (i := 1852) (by decide +kernel), List.mem_of_getElem? (i := 1853) (by decide +kernel)⟩
theorem lw_p104 : lw_okq (⟨"SpaceHouseModel", "creation", "(IIJI)I"⟩, 115) := ⟨⟨by decide +kernel, by decide +kernel⟩, List.mem_of_getElem? (i := 1626) (by decide +kernel), List.mem_of_getElem? (i := 1856) (by decide +kernel), List.mem_of_getElem? (i := 1857) (by decide +kernel)⟩
theorem lw_p105 : lw_okq (⟨"SpaceHouseModel", "isName", "(II)Z"⟩, 115) := ⟨⟨by decide +kernel, by decide +kernel⟩, List.mem_of_getElem? (i := 1626) (by decide +kernel), List.mem_of_getElem? (i := 1860) (by decide +kernel), List.mem_of_getElem? (i := 1861) (by decide +kernel)⟩
theorem lw_p106 : lw_okq (⟨"SpaceHouseModel", "setName", "(IIII)V"⟩, 115) := ⟨⟨by decide +kernel, by decide +kernel⟩, List.mem_of_getElem? (i := 1626) (by decide +kernel), List.mem_of_getElem? (i := 1876) (by decide +kernel), List.mem_of_getElem? (i := 1877) (by decide +kernel)⟩
theorem lw_p107 : lw_okq (⟨"SpaceHouseModel", "serveRead", "(II)V"⟩, 115) := ⟨⟨by decide +kernel, by decide +kernel⟩, List.mem_of_getElem? (i := 1626) (by decide +kernel), List.mem_of_getElem? (i := 1880) (by decide +kernel), List.mem_of_getElem? (i := 1881) (by decide +kernel)⟩
theorem lw_p108 : lw_okq (⟨"SpaceHouseModel", "readEntries", "(IIJI)V"⟩, 115) := ⟨⟨by decide +kernel, by decide +kernel⟩, List.mem_of_getElem? (i := 1626) (by decide +kernel), List.mem_of_getElem? (i := 1884) (by decide +kernel), List.mem_of_getElem? (i := 1885) (by decide +kernel)⟩
theorem lw_p109 : lw_okq (⟨"SpaceHouseModel", "statSize", "(II)I"⟩, 115) := ⟨⟨by decide +kernel, by decide +kernel⟩, List.mem_of_getElem? (i := 1626) (by decide +kernel), List.mem_of_getElem? (i := 1888) (by decide +kernel), List.mem_of_getElem? (i := 1889) (by decide +kernel)⟩
theorem lw_p110 : lw_okq (⟨"SpaceHouseModel", "putStat", "(II)V"⟩, 115) := ⟨⟨by decide +kernel, by decide +kernel⟩, List.mem_of_getElem? (i := 1626) (by decide +kernel), List.mem_of_getElem? (i := 1892) (by decide +kernel), List.mem_of_getElem? (i := 1893) (by decide +kernel)⟩
theorem lw_p111 : lw_okq (⟨"SpaceHouseModel", "lengthOf", "(II)I"⟩, 115) := ⟨⟨by decide +kernel, by decide +kernel⟩, List.mem_of_getElem? (i := 1626) (by decide +kernel), List.mem_of_getElem? (i := 1896) (by decide +kernel), List.mem_of_getElem? (i := 1897) (by decide +kernel)⟩
def lw_privs_7 : List (MethodName × Nat) := [(⟨"SpaceHouseModel", "nameSize", "(II)I"⟩, 115), (⟨"SpaceHouseModel", "nameByte", "(III)I"⟩, 115), (⟨"SpaceHouseModel", "serveOpen", "(II)V"⟩, 115), (⟨"SpaceHouseModel", "opening", "(IIII)I"⟩, 115), (⟨"SpaceHouseModel", "resize", "(III)V"⟩, 115), (⟨"SpaceHouseModel", "open", "(II)V"⟩, 115), (⟨"SpaceHouseModel", "serveMore", "(III)V"⟩, 115), (⟨"SpaceHouseModel", "serveCreate", "(II)V"⟩, 115), (⟨"SpaceHouseModel", "creation", "(IIJI)I"⟩, 115), (⟨"SpaceHouseModel", "isName", "(II)Z"⟩, 115), (⟨"SpaceHouseModel", "setName", "(IIII)V"⟩, 115), (⟨"SpaceHouseModel", "serveRead", "(II)V"⟩, 115), (⟨"SpaceHouseModel", "readEntries", "(IIJI)V"⟩, 115), (⟨"SpaceHouseModel", "statSize", "(II)I"⟩, 115), (⟨"SpaceHouseModel", "putStat", "(II)V"⟩, 115), (⟨"SpaceHouseModel", "lengthOf", "(II)I"⟩, 115)]
theorem lw_r7 : ∀ q ∈ lw_privs_7, lw_okq q := List.forall_mem_cons.mpr ⟨lw_p96, List.forall_mem_cons.mpr ⟨lw_p97, List.forall_mem_cons.mpr ⟨lw_p98, List.forall_mem_cons.mpr ⟨lw_p99, List.forall_mem_cons.mpr ⟨lw_p100, List.forall_mem_cons.mpr ⟨lw_p101, List.forall_mem_cons.mpr ⟨lw_p102, List.forall_mem_cons.mpr ⟨lw_p103, List.forall_mem_cons.mpr ⟨lw_p104, List.forall_mem_cons.mpr ⟨lw_p105, List.forall_mem_cons.mpr ⟨lw_p106, List.forall_mem_cons.mpr ⟨lw_p107, List.forall_mem_cons.mpr ⟨lw_p108, List.forall_mem_cons.mpr ⟨lw_p109, List.forall_mem_cons.mpr ⟨lw_p110, List.forall_mem_cons.mpr ⟨lw_p111, fun _ h => absurd h List.not_mem_nil⟩⟩⟩⟩⟩⟩⟩⟩⟩⟩⟩⟩⟩⟩⟩⟩
theorem lw_p112 : lw_okq (⟨"SpaceHouseModel", "putUser", "(I)V"⟩, 115) := ⟨⟨by decide +kernel, by decide +kernel⟩, List.mem_of_getElem? (i := 1626) (by decide +kernel), List.mem_of_getElem? (i := 1900) (by decide +kernel), List.mem_of_getElem? (i := 1901) (by decide +kernel)⟩
theorem lw_p113 : lw_okq (⟨"SpaceHouseModel", "muidOf", "(II)I"⟩, 115) := ⟨⟨by decide +kernel, by decide +kernel⟩, List.mem_of_getElem? (i := 1626) (by decide +kernel), List.mem_of_getElem? (i := 1905) (by decide +kernel), List.mem_of_getElem? (i := 1906) (by decide +kernel)⟩
theorem lw_p114 : lw_okq (⟨"SpaceHouseModel", "readFile", "(IIJI)V"⟩, 115) := ⟨⟨by decide +kernel, by decide +kernel⟩, List.mem_of_getElem? (i := 1626) (by decide +kernel), List.mem_of_getElem? (i := 1909) (by decide +kernel), List.mem_of_getElem? (i := 1910) (by decide +kernel)⟩
theorem lw_p115 : lw_okq (⟨"SpaceHouseModel", "readConsole", "(I)V"⟩, 115) := ⟨⟨by decide +kernel, by decide +kernel⟩, List.mem_of_getElem? (i := 1626) (by decide +kernel), List.mem_of_getElem? (i := 1913) (by decide +kernel), List.mem_of_getElem? (i := 1914) (by decide +kernel)⟩
theorem lw_p116 : lw_okq (⟨"SpaceHouseModel", "readStatus", "(IJI)V"⟩, 115) := ⟨⟨by decide +kernel, by decide +kernel⟩, List.mem_of_getElem? (i := 1626) (by decide +kernel), List.mem_of_getElem? (i := 1917) (by decide +kernel), List.mem_of_getElem? (i := 1918) (by decide +kernel)⟩
theorem lw_p117 : lw_okq (⟨"SpaceHouseModel", "statusByte", "(II)I"⟩, 115) := ⟨⟨by decide +kernel, by decide +kernel⟩, List.mem_of_getElem? (i := 1626) (by decide +kernel), List.mem_of_getElem? (i := 1923) (by decide +kernel), List.mem_of_getElem? (i := 1924) (by decide +kernel)⟩
theorem lw_p118 : lw_okq (⟨"SpaceHouseModel", "descriptorsOf", "(I)I"⟩, 115) := ⟨⟨by decide +kernel, by decide +kernel⟩, List.mem_of_getElem? (i := 1626) (by decide +kernel), List.mem_of_getElem? (i := 1927) (by decide +kernel), List.mem_of_getElem? (i := 1928) (by decide +kernel)⟩
theorem lw_p119 : lw_okq (⟨"SpaceHouseModel", "serveWrite", "(II)V"⟩, 115) := ⟨⟨by decide +kernel, by decide +kernel⟩, List.mem_of_getElem? (i := 1626) (by decide +kernel), List.mem_of_getElem? (i := 1931) (by decide +kernel), List.mem_of_getElem? (i := 1932) (by decide +kernel)⟩
theorem lw_p120 : lw_okq (⟨"SpaceHouseModel", "writing", "(IIJI)I"⟩, 115) := ⟨⟨by decide +kernel, by decide +kernel⟩, List.mem_of_getElem? (i := 1626) (by decide +kernel), List.mem_of_getElem? (i := 1936) (by decide +kernel), List.mem_of_getElem? (i := 1937) (by decide +kernel)⟩
theorem lw_p121 : lw_okq (⟨"SpaceHouseModel", "isKill", "(II)Z"⟩, 115) := ⟨⟨by decide +kernel, by decide +kernel⟩, List.mem_of_getElem? (i := 1626) (by decide +kernel), List.mem_of_getElem? (i := 1940) (by decide +kernel), List.mem_of_getElem? (i := 1941) (by decide +kernel)⟩
theorem lw_p122 : lw_okq (⟨"SpaceHouseModel", "writeFile", "(IIJII)V"⟩, 115) := ⟨⟨by decide +kernel, by decide +kernel⟩, List.mem_of_getElem? (i := 1626) (by decide +kernel), List.mem_of_getElem? (i := 1945) (by decide +kernel), List.mem_of_getElem? (i := 1946) (by decide +kernel)⟩
theorem lw_p123 : lw_okq (⟨"SpaceHouseModel", "serveOne", "(III)V"⟩, 115) := ⟨⟨by decide +kernel, by decide +kernel⟩, List.mem_of_getElem? (i := 1626) (by decide +kernel), List.mem_of_getElem? (i := 1949) (by decide +kernel), List.mem_of_getElem? (i := 1950) (by decide +kernel)⟩
theorem lw_p124 : lw_okq (⟨"SpaceHouseModel", "serveWstat", "(II)V"⟩, 115) := ⟨⟨by decide +kernel, by decide +kernel⟩, List.mem_of_getElem? (i := 1626) (by decide +kernel), List.mem_of_getElem? (i := 1953) (by decide +kernel), List.mem_of_getElem? (i := 1954) (by decide +kernel)⟩
theorem lw_p125 : lw_okq (⟨"SpaceHouseModel", "change", "(IIIJJ)I"⟩, 115) := ⟨⟨by decide +kernel, by decide +kernel⟩, List.mem_of_getElem? (i := 1626) (by decide +kernel), List.mem_of_getElem? (i := 1959) (by decide +kernel), List.mem_of_getElem? (i := 1960) (by decide +kernel)⟩
theorem lw_p126 : lw_okq (⟨"SpaceHouseModel", "doChange", "(IIIJJ)V"⟩, 115) := ⟨⟨by decide +kernel, by decide +kernel⟩, List.mem_of_getElem? (i := 1626) (by decide +kernel), List.mem_of_getElem? (i := 1966) (by decide +kernel), List.mem_of_getElem? (i := 1967) (by decide +kernel)⟩
theorem lw_p127 : lw_okq (⟨"SpaceHouseModel", "finish", "()V"⟩, 115) := ⟨⟨by decide +kernel, by decide +kernel⟩, List.mem_of_getElem? (i := 1626) (by decide +kernel), List.mem_of_getElem? (i := 1970) (by decide +kernel), List.mem_of_getElem? (i := 1971) (by decide +kernel)⟩
def lw_privs_8 : List (MethodName × Nat) := [(⟨"SpaceHouseModel", "putUser", "(I)V"⟩, 115), (⟨"SpaceHouseModel", "muidOf", "(II)I"⟩, 115), (⟨"SpaceHouseModel", "readFile", "(IIJI)V"⟩, 115), (⟨"SpaceHouseModel", "readConsole", "(I)V"⟩, 115), (⟨"SpaceHouseModel", "readStatus", "(IJI)V"⟩, 115), (⟨"SpaceHouseModel", "statusByte", "(II)I"⟩, 115), (⟨"SpaceHouseModel", "descriptorsOf", "(I)I"⟩, 115), (⟨"SpaceHouseModel", "serveWrite", "(II)V"⟩, 115), (⟨"SpaceHouseModel", "writing", "(IIJI)I"⟩, 115), (⟨"SpaceHouseModel", "isKill", "(II)Z"⟩, 115), (⟨"SpaceHouseModel", "writeFile", "(IIJII)V"⟩, 115), (⟨"SpaceHouseModel", "serveOne", "(III)V"⟩, 115), (⟨"SpaceHouseModel", "serveWstat", "(II)V"⟩, 115), (⟨"SpaceHouseModel", "change", "(IIIJJ)I"⟩, 115), (⟨"SpaceHouseModel", "doChange", "(IIIJJ)V"⟩, 115), (⟨"SpaceHouseModel", "finish", "()V"⟩, 115)]
theorem lw_r8 : ∀ q ∈ lw_privs_8, lw_okq q := List.forall_mem_cons.mpr ⟨lw_p112, List.forall_mem_cons.mpr ⟨lw_p113, List.forall_mem_cons.mpr ⟨lw_p114, List.forall_mem_cons.mpr ⟨lw_p115, List.forall_mem_cons.mpr ⟨lw_p116, List.forall_mem_cons.mpr ⟨lw_p117, List.forall_mem_cons.mpr ⟨lw_p118, List.forall_mem_cons.mpr ⟨lw_p119, List.forall_mem_cons.mpr ⟨lw_p120, List.forall_mem_cons.mpr ⟨lw_p121, List.forall_mem_cons.mpr ⟨lw_p122, List.forall_mem_cons.mpr ⟨lw_p123, List.forall_mem_cons.mpr ⟨lw_p124, List.forall_mem_cons.mpr ⟨lw_p125, List.forall_mem_cons.mpr ⟨lw_p126, List.forall_mem_cons.mpr ⟨lw_p127, fun _ h => absurd h List.not_mem_nil⟩⟩⟩⟩⟩⟩⟩⟩⟩⟩⟩⟩⟩⟩⟩⟩
theorem lw_p128 : lw_okq (⟨"SpaceHouseModel", "hasProcess", "(I)Z"⟩, 115) := ⟨⟨by decide +kernel, by decide +kernel⟩, List.mem_of_getElem? (i := 1626) (by decide +kernel), List.mem_of_getElem? (i := 2330) (by decide +kernel), List.mem_of_getElem? (i := 2331) (by decide +kernel)⟩
theorem lw_p129 : lw_okq (⟨"SpaceHouseModel", "perform", "(I)I"⟩, 115) := ⟨⟨by decide +kernel, by decide +kernel⟩, List.mem_of_getElem? (i := 1626) (by decide +kernel), List.mem_of_getElem? (i := 2334) (by decide +kernel), List.mem_of_getElem? (i := 2335) (by decide +kernel)⟩
theorem lw_p130 : lw_okq (⟨"SpaceHouseModel", "begin", "(IZ)I"⟩, 115) := ⟨⟨by decide +kernel, by decide +kernel⟩, List.mem_of_getElem? (i := 1626) (by decide +kernel), List.mem_of_getElem? (i := 2338) (by decide +kernel), List.mem_of_getElem? (i := 2339) (by decide +kernel)⟩
theorem lw_p131 : lw_okq (⟨"SpaceHouseModel", "addArgument", "(I)Z"⟩, 115) := ⟨⟨by decide +kernel, by decide +kernel⟩, List.mem_of_getElem? (i := 1626) (by decide +kernel), List.mem_of_getElem? (i := 2344) (by decide +kernel), List.mem_of_getElem? (i := 2345) (by decide +kernel)⟩
theorem lw_p132 : lw_okq (⟨"SpaceHouseModel", "add", "(I)Z"⟩, 115) := ⟨⟨by decide +kernel, by decide +kernel⟩, List.mem_of_getElem? (i := 1626) (by decide +kernel), List.mem_of_getElem? (i := 2348) (by decide +kernel), List.mem_of_getElem? (i := 2349) (by decide +kernel)⟩
theorem lw_p133 : lw_okq (⟨"SpaceHouseModel", "addVariable", "(II)Z"⟩, 115) := ⟨⟨by decide +kernel, by decide +kernel⟩, List.mem_of_getElem? (i := 1626) (by decide +kernel), List.mem_of_getElem? (i := 2354) (by decide +kernel), List.mem_of_getElem? (i := 2355) (by decide +kernel)⟩
theorem lw_p134 : lw_okq (⟨"SpaceHouseModel", "load", "()V"⟩, 115) := ⟨⟨by decide +kernel, by decide +kernel⟩, List.mem_of_getElem? (i := 1626) (by decide +kernel), List.mem_of_getElem? (i := 2358) (by decide +kernel), List.mem_of_getElem? (i := 2359) (by decide +kernel)⟩
theorem lw_p135 : lw_okq (⟨"SpaceHouseModel", "split", "()V"⟩, 115) := ⟨⟨by decide +kernel, by decide +kernel⟩, List.mem_of_getElem? (i := 1626) (by decide +kernel), List.mem_of_getElem? (i := 2362) (by decide +kernel), List.mem_of_getElem? (i := 2363) (by decide +kernel)⟩
theorem lw_p136 : lw_okq (⟨"SpaceHouseModel", "first", "(I)I"⟩, 115) := ⟨⟨by decide +kernel, by decide +kernel⟩, List.mem_of_getElem? (i := 1626) (by decide +kernel), List.mem_of_getElem? (i := 2366) (by decide +kernel), List.mem_of_getElem? (i := 2367) (by decide +kernel)⟩
theorem lw_p137 : lw_okq (⟨"SpaceHouseModel", "packed", "(I)J"⟩, 115) := ⟨⟨by decide +kernel, by decide +kernel⟩, List.mem_of_getElem? (i := 1626) (by decide +kernel), List.mem_of_getElem? (i := 2370) (by decide +kernel), List.mem_of_getElem? (i := 2371) (by decide +kernel)⟩
theorem lw_p138 : lw_okq (⟨"SpaceHouseModel", "size", "(I)I"⟩, 115) := ⟨⟨by decide +kernel, by decide +kernel⟩, List.mem_of_getElem? (i := 1626) (by decide +kernel), List.mem_of_getElem? (i := 2374) (by decide +kernel), List.mem_of_getElem? (i := 2375) (by decide +kernel)⟩
theorem lw_p139 : lw_okq (⟨"SpaceHouseModel", "sign", "(II)I"⟩, 115) := ⟨⟨by decide +kernel, by decide +kernel⟩, List.mem_of_getElem? (i := 1626) (by decide +kernel), List.mem_of_getElem? (i := 2378) (by decide +kernel), List.mem_of_getElem? (i := 2379) (by decide +kernel)⟩
theorem lw_p140 : lw_okq (⟨"SpaceHouseModel", "choose", "(I)I"⟩, 115) := ⟨⟨by decide +kernel, by decide +kernel⟩, List.mem_of_getElem? (i := 1626) (by decide +kernel), List.mem_of_getElem? (i := 2383) (by decide +kernel), List.mem_of_getElem? (i := 2384) (by decide +kernel)⟩
theorem lw_p141 : lw_okq (⟨"SpaceHouseModel", "isAlike", "(II)Z"⟩, 115) := ⟨⟨by decide +kernel, by decide +kernel⟩, List.mem_of_getElem? (i := 1626) (by decide +kernel), List.mem_of_getElem? (i := 2387) (by decide +kernel), List.mem_of_getElem? (i := 2388) (by decide +kernel)⟩
theorem lw_p142 : lw_okq (⟨"SpaceHouseModel", "join", "(I)V"⟩, 115) := ⟨⟨by decide +kernel, by decide +kernel⟩, List.mem_of_getElem? (i := 1626) (by decide +kernel), List.mem_of_getElem? (i := 2391) (by decide +kernel), List.mem_of_getElem? (i := 2392) (by decide +kernel)⟩
theorem lw_p143 : lw_okq (⟨"SpaceHouseModel", "repeat", "()I"⟩, 115) := ⟨⟨by decide +kernel, by decide +kernel⟩, List.mem_of_getElem? (i := 1626) (by decide +kernel), List.mem_of_getElem? (i := 2396) (by decide +kernel), List.mem_of_getElem? (i := 2397) (by decide +kernel)⟩
def lw_privs_9 : List (MethodName × Nat) := [(⟨"SpaceHouseModel", "hasProcess", "(I)Z"⟩, 115), (⟨"SpaceHouseModel", "perform", "(I)I"⟩, 115), (⟨"SpaceHouseModel", "begin", "(IZ)I"⟩, 115), (⟨"SpaceHouseModel", "addArgument", "(I)Z"⟩, 115), (⟨"SpaceHouseModel", "add", "(I)Z"⟩, 115), (⟨"SpaceHouseModel", "addVariable", "(II)Z"⟩, 115), (⟨"SpaceHouseModel", "load", "()V"⟩, 115), (⟨"SpaceHouseModel", "split", "()V"⟩, 115), (⟨"SpaceHouseModel", "first", "(I)I"⟩, 115), (⟨"SpaceHouseModel", "packed", "(I)J"⟩, 115), (⟨"SpaceHouseModel", "size", "(I)I"⟩, 115), (⟨"SpaceHouseModel", "sign", "(II)I"⟩, 115), (⟨"SpaceHouseModel", "choose", "(I)I"⟩, 115), (⟨"SpaceHouseModel", "isAlike", "(II)Z"⟩, 115), (⟨"SpaceHouseModel", "join", "(I)V"⟩, 115), (⟨"SpaceHouseModel", "repeat", "()I"⟩, 115)]
theorem lw_r9 : ∀ q ∈ lw_privs_9, lw_okq q := List.forall_mem_cons.mpr ⟨lw_p128, List.forall_mem_cons.mpr ⟨lw_p129, List.forall_mem_cons.mpr ⟨lw_p130, List.forall_mem_cons.mpr ⟨lw_p131, List.forall_mem_cons.mpr ⟨lw_p132, List.forall_mem_cons.mpr ⟨lw_p133, List.forall_mem_cons.mpr ⟨lw_p134, List.forall_mem_cons.mpr ⟨lw_p135, List.forall_mem_cons.mpr ⟨lw_p136, List.forall_mem_cons.mpr ⟨lw_p137, List.forall_mem_cons.mpr ⟨lw_p138, List.forall_mem_cons.mpr ⟨lw_p139, List.forall_mem_cons.mpr ⟨lw_p140, List.forall_mem_cons.mpr ⟨lw_p141, List.forall_mem_cons.mpr ⟨lw_p142, List.forall_mem_cons.mpr ⟨lw_p143, fun _ h => absurd h List.not_mem_nil⟩⟩⟩⟩⟩⟩⟩⟩⟩⟩⟩⟩⟩⟩⟩⟩
theorem lw_p144 : lw_okq (⟨"SpaceHouseModel", "placeOfDo", "()I"⟩, 115) := ⟨⟨by decide +kernel, by decide +kernel⟩, List.mem_of_getElem? (i := 1626) (by decide +kernel), List.mem_of_getElem? (i := 2400) (by decide +kernel), List.mem_of_getElem? (i := 2401) (by decide +kernel)⟩
theorem lw_p145 : lw_okq (⟨"SpaceHouseModel", "script", "(I)I"⟩, 115) := ⟨⟨by decide +kernel, by decide +kernel⟩, List.mem_of_getElem? (i := 1626) (by decide +kernel), List.mem_of_getElem? (i := 2405) (by decide +kernel), List.mem_of_getElem? (i := 2406) (by decide +kernel)⟩
theorem lw_p146 : lw_okq (⟨"SpaceHouseModel", "cat", "(II)I"⟩, 115) := ⟨⟨by decide +kernel, by decide +kernel⟩, List.mem_of_getElem? (i := 1626) (by decide +kernel), List.mem_of_getElem? (i := 2410) (by decide +kernel), List.mem_of_getElem? (i := 2411) (by decide +kernel)⟩
theorem lw_p147 : lw_okq (⟨"SpaceHouseModel", "walkWord", "(IIZ)I"⟩, 115) := ⟨⟨by decide +kernel, by decide +kernel⟩, List.mem_of_getElem? (i := 1626) (by decide +kernel), List.mem_of_getElem? (i := 2414) (by decide +kernel), List.mem_of_getElem? (i := 2415) (by decide +kernel)⟩
theorem lw_p148 : lw_okq (⟨"SpaceHouseModel", "parse", "(II)I"⟩, 115) := ⟨⟨by decide +kernel, by decide +kernel⟩, List.mem_of_getElem? (i := 1626) (by decide +kernel), List.mem_of_getElem? (i := 2418) (by decide +kernel), List.mem_of_getElem? (i := 2419) (by decide +kernel)⟩
theorem lw_p149 : lw_okq (⟨"SpaceHouseModel", "rawAt", "(I)I"⟩, 115) := ⟨⟨by decide +kernel, by decide +kernel⟩, List.mem_of_getElem? (i := 1626) (by decide +kernel), List.mem_of_getElem? (i := 2422) (by decide +kernel), List.mem_of_getElem? (i := 2423) (by decide +kernel)⟩
theorem lw_p150 : lw_okq (⟨"SpaceHouseModel", "cut", "(I)V"⟩, 115) := ⟨⟨by decide +kernel, by decide +kernel⟩, List.mem_of_getElem? (i := 1626) (by decide +kernel), List.mem_of_getElem? (i := 2427) (by decide +kernel), List.mem_of_getElem? (i := 2428) (by decide +kernel)⟩
theorem lw_p151 : lw_okq (⟨"SpaceHouseModel", "lay", "(I)Z"⟩, 115) := ⟨⟨by decide +kernel, by decide +kernel⟩, List.mem_of_getElem? (i := 1626) (by decide +kernel), List.mem_of_getElem? (i := 2431) (by decide +kernel), List.mem_of_getElem? (i := 2432) (by decide +kernel)⟩
theorem lw_p152 : lw_okq (⟨"SpaceHouseModel", "walk", "(IIZ)I"⟩, 115) := ⟨⟨by decide +kernel, by decide +kernel⟩, List.mem_of_getElem? (i := 1626) (by decide +kernel), List.mem_of_getElem? (i := 2435) (by decide +kernel), List.mem_of_getElem? (i := 2436) (by decide +kernel)⟩
theorem lw_p153 : lw_okq (⟨"SpaceHouseModel", "copy", "(IIII)I"⟩, 115) := ⟨⟨by decide +kernel, by decide +kernel⟩, List.mem_of_getElem? (i := 1626) (by decide +kernel), List.mem_of_getElem? (i := 2439) (by decide +kernel), List.mem_of_getElem? (i := 2440) (by decide +kernel)⟩
theorem lw_p154 : lw_okq (⟨"SpaceHouseModel", "newFid", "(I)I"⟩, 115) := ⟨⟨by decide +kernel, by decide +kernel⟩, List.mem_of_getElem? (i := 1626) (by decide +kernel), List.mem_of_getElem? (i := 2443) (by decide +kernel), List.mem_of_getElem? (i := 2444) (by decide +kernel)⟩
theorem lw_p155 : lw_okq (⟨"SpaceHouseModel", "askCopy", "(III)I"⟩, 115) := ⟨⟨by decide +kernel, by decide +kernel⟩, List.mem_of_getElem? (i := 1626) (by decide +kernel), List.mem_of_getElem? (i := 2447) (by decide +kernel), List.mem_of_getElem? (i := 2448) (by decide +kernel)⟩
theorem lw_p156 : lw_okq (⟨"SpaceHouseModel", "hold", "(IIII)V"⟩, 115) := ⟨⟨by decide +kernel, by decide +kernel⟩, List.mem_of_getElem? (i := 1626) (by decide +kernel), List.mem_of_getElem? (i := 2451) (by decide +kernel), List.mem_of_getElem? (i := 2452) (by decide +kernel)⟩
theorem lw_p157 : lw_okq (⟨"SpaceHouseModel", "attach", "(II)I"⟩, 115) := ⟨⟨by decide +kernel, by decide +kernel⟩, List.mem_of_getElem? (i := 1626) (by decide +kernel), List.mem_of_getElem? (i := 2455) (by decide +kernel), List.mem_of_getElem? (i := 2456) (by decide +kernel)⟩
theorem lw_p158 : lw_okq (⟨"SpaceHouseModel", "askAttach", "(III)I"⟩, 115) := ⟨⟨by decide +kernel, by decide +kernel⟩, List.mem_of_getElem? (i := 1626) (by decide +kernel), List.mem_of_getElem? (i := 2459) (by decide +kernel), List.mem_of_getElem? (i := 2460) (by decide +kernel)⟩
theorem lw_p159 : lw_okq (⟨"SpaceHouseModel", "told", "(II)J"⟩, 115) := ⟨⟨by decide +kernel, by decide +kernel⟩, List.mem_of_getElem? (i := 1626) (by decide +kernel), List.mem_of_getElem? (i := 2463) (by decide +kernel), List.mem_of_getElem? (i := 2464) (by decide +kernel)⟩
def lw_privs_10 : List (MethodName × Nat) := [(⟨"SpaceHouseModel", "placeOfDo", "()I"⟩, 115), (⟨"SpaceHouseModel", "script", "(I)I"⟩, 115), (⟨"SpaceHouseModel", "cat", "(II)I"⟩, 115), (⟨"SpaceHouseModel", "walkWord", "(IIZ)I"⟩, 115), (⟨"SpaceHouseModel", "parse", "(II)I"⟩, 115), (⟨"SpaceHouseModel", "rawAt", "(I)I"⟩, 115), (⟨"SpaceHouseModel", "cut", "(I)V"⟩, 115), (⟨"SpaceHouseModel", "lay", "(I)Z"⟩, 115), (⟨"SpaceHouseModel", "walk", "(IIZ)I"⟩, 115), (⟨"SpaceHouseModel", "copy", "(IIII)I"⟩, 115), (⟨"SpaceHouseModel", "newFid", "(I)I"⟩, 115), (⟨"SpaceHouseModel", "askCopy", "(III)I"⟩, 115), (⟨"SpaceHouseModel", "hold", "(IIII)V"⟩, 115), (⟨"SpaceHouseModel", "attach", "(II)I"⟩, 115), (⟨"SpaceHouseModel", "askAttach", "(III)I"⟩, 115), (⟨"SpaceHouseModel", "told", "(II)J"⟩, 115)]
theorem lw_r10 : ∀ q ∈ lw_privs_10, lw_okq q := List.forall_mem_cons.mpr ⟨lw_p144, List.forall_mem_cons.mpr ⟨lw_p145, List.forall_mem_cons.mpr ⟨lw_p146, List.forall_mem_cons.mpr ⟨lw_p147, List.forall_mem_cons.mpr ⟨lw_p148, List.forall_mem_cons.mpr ⟨lw_p149, List.forall_mem_cons.mpr ⟨lw_p150, List.forall_mem_cons.mpr ⟨lw_p151, List.forall_mem_cons.mpr ⟨lw_p152, List.forall_mem_cons.mpr ⟨lw_p153, List.forall_mem_cons.mpr ⟨lw_p154, List.forall_mem_cons.mpr ⟨lw_p155, List.forall_mem_cons.mpr ⟨lw_p156, List.forall_mem_cons.mpr ⟨lw_p157, List.forall_mem_cons.mpr ⟨lw_p158, List.forall_mem_cons.mpr ⟨lw_p159, fun _ h => absurd h List.not_mem_nil⟩⟩⟩⟩⟩⟩⟩⟩⟩⟩⟩⟩⟩⟩⟩⟩
theorem lw_p160 : lw_okq (⟨"SpaceHouseModel", "pointOf", "(III)I"⟩, 115) := ⟨⟨by decide +kernel, by decide +kernel⟩, List.mem_of_getElem? (i := 1626) (by decide +kernel), List.mem_of_getElem? (i := 2467) (by decide +kernel), List.mem_of_getElem? (i := 2468) (by decide +kernel)⟩
theorem lw_p161 : lw_okq (⟨"SpaceHouseModel", "stepFrom", "(III)I"⟩, 115) := ⟨⟨by decide +kernel, by decide +kernel⟩, List.mem_of_getElem? (i := 1626) (by decide +kernel), List.mem_of_getElem? (i := 2471) (by decide +kernel), List.mem_of_getElem? (i := 2472) (by decide +kernel)⟩
theorem lw_p162 : lw_okq (⟨"SpaceHouseModel", "askWalk", "(IIII)I"⟩, 115) := ⟨⟨by decide +kernel, by decide +kernel⟩, List.mem_of_getElem? (i := 1626) (by decide +kernel), List.mem_of_getElem? (i := 2475) (by decide +kernel), List.mem_of_getElem? (i := 2476) (by decide +kernel)⟩
theorem lw_p163 : lw_okq (⟨"SpaceHouseModel", "askRaw", "(II)V"⟩, 115) := ⟨⟨by decide +kernel, by decide +kernel⟩, List.mem_of_getElem? (i := 1626) (by decide +kernel), List.mem_of_getElem? (i := 2479) (by decide +kernel), List.mem_of_getElem? (i := 2480) (by decide +kernel)⟩
theorem lw_p164 : lw_okq (⟨"SpaceHouseModel", "drop", "()V"⟩, 115) := ⟨⟨by decide +kernel, by decide +kernel⟩, List.mem_of_getElem? (i := 1626) (by decide +kernel), List.mem_of_getElem? (i := 2483) (by decide +kernel), List.mem_of_getElem? (i := 2484) (by decide +kernel)⟩
theorem lw_p165 : lw_okq (⟨"SpaceHouseModel", "askOne", "(III)I"⟩, 115) := ⟨⟨by decide +kernel, by decide +kernel⟩, List.mem_of_getElem? (i := 1626) (by decide +kernel), List.mem_of_getElem? (i := 2487) (by decide +kernel), List.mem_of_getElem? (i := 2488) (by decide +kernel)⟩
theorem lw_p166 : lw_okq (⟨"SpaceHouseModel", "dropBelow", "()V"⟩, 115) := ⟨⟨by decide +kernel, by decide +kernel⟩, List.mem_of_getElem? (i := 1626) (by decide +kernel), List.mem_of_getElem? (i := 2491) (by decide +kernel), List.mem_of_getElem? (i := 2492) (by decide +kernel)⟩
theorem lw_p167 : lw_okq (⟨"SpaceHouseModel", "goThrough", "(I)I"⟩, 115) := ⟨⟨by decide +kernel, by decide +kernel⟩, List.mem_of_getElem? (i := 1626) (by decide +kernel), List.mem_of_getElem? (i := 2495) (by decide +kernel), List.mem_of_getElem? (i := 2496) (by decide +kernel)⟩
theorem lw_p168 : lw_okq (⟨"SpaceHouseModel", "isDirectoryHeld", "(I)Z"⟩, 115) := ⟨⟨by decide +kernel, by decide +kernel⟩, List.mem_of_getElem? (i := 1626) (by decide +kernel), List.mem_of_getElem? (i := 2499) (by decide +kernel), List.mem_of_getElem? (i := 2500) (by decide +kernel)⟩
theorem lw_p169 : lw_okq (⟨"SpaceHouseModel", "askOpen", "(III)I"⟩, 115) := ⟨⟨by decide +kernel, by decide +kernel⟩, List.mem_of_getElem? (i := 1626) (by decide +kernel), List.mem_of_getElem? (i := 2503) (by decide +kernel), List.mem_of_getElem? (i := 2504) (by decide +kernel)⟩
theorem lw_p170 : lw_okq (⟨"SpaceHouseModel", "askRead", "(IIII)I"⟩, 115) := ⟨⟨by decide +kernel, by decide +kernel⟩, List.mem_of_getElem? (i := 1626) (by decide +kernel), List.mem_of_getElem? (i := 2507) (by decide +kernel), List.mem_of_getElem? (i := 2508) (by decide +kernel)⟩
theorem lw_p171 : lw_okq (⟨"SpaceHouseModel", "tell", "(II)V"⟩, 115) := ⟨⟨by decide +kernel, by decide +kernel⟩, List.mem_of_getElem? (i := 1626) (by decide +kernel), List.mem_of_getElem? (i := 2511) (by decide +kernel), List.mem_of_getElem? (i := 2512) (by decide +kernel)⟩
theorem lw_p172 : lw_okq (⟨"SpaceHouseModel", "dropAll", "()V"⟩, 115) := ⟨⟨by decide +kernel, by decide +kernel⟩, List.mem_of_getElem? (i := 1626) (by decide +kernel), List.mem_of_getElem? (i := 2515) (by decide +kernel), List.mem_of_getElem? (i := 2516) (by decide +kernel)⟩
theorem lw_p173 : lw_okq (⟨"SpaceHouseModel", "command", "(I)I"⟩, 115) := ⟨⟨by decide +kernel, by decide +kernel⟩, List.mem_of_getElem? (i := 1626) (by decide +kernel), List.mem_of_getElem? (i := 2519) (by decide +kernel), List.mem_of_getElem? (i := 2520) (by decide +kernel)⟩
theorem lw_p174 : lw_okq (⟨"SpaceHouseModel", "echo", "(I)I"⟩, 115) := ⟨⟨by decide +kernel, by decide +kernel⟩, List.mem_of_getElem? (i := 1626) (by decide +kernel), List.mem_of_getElem? (i := 2524) (by decide +kernel), List.mem_of_getElem? (i := 2525) (by decide +kernel)⟩
theorem lw_p175 : lw_okq (⟨"SpaceHouseModel", "create", "(IIJI)I"⟩, 115) := ⟨⟨by decide +kernel, by decide +kernel⟩, List.mem_of_getElem? (i := 1626) (by decide +kernel), List.mem_of_getElem? (i := 2529) (by decide +kernel), List.mem_of_getElem? (i := 2530) (by decide +kernel)⟩
def lw_privs_11 : List (MethodName × Nat) := [(⟨"SpaceHouseModel", "pointOf", "(III)I"⟩, 115), (⟨"SpaceHouseModel", "stepFrom", "(III)I"⟩, 115), (⟨"SpaceHouseModel", "askWalk", "(IIII)I"⟩, 115), (⟨"SpaceHouseModel", "askRaw", "(II)V"⟩, 115), (⟨"SpaceHouseModel", "drop", "()V"⟩, 115), (⟨"SpaceHouseModel", "askOne", "(III)I"⟩, 115), (⟨"SpaceHouseModel", "dropBelow", "()V"⟩, 115), (⟨"SpaceHouseModel", "goThrough", "(I)I"⟩, 115), (⟨"SpaceHouseModel", "isDirectoryHeld", "(I)Z"⟩, 115), (⟨"SpaceHouseModel", "askOpen", "(III)I"⟩, 115), (⟨"SpaceHouseModel", "askRead", "(IIII)I"⟩, 115), (⟨"SpaceHouseModel", "tell", "(II)V"⟩, 115), (⟨"SpaceHouseModel", "dropAll", "()V"⟩, 115), (⟨"SpaceHouseModel", "command", "(I)I"⟩, 115), (⟨"SpaceHouseModel", "echo", "(I)I"⟩, 115), (⟨"SpaceHouseModel", "create", "(IIJI)I"⟩, 115)]
theorem lw_r11 : ∀ q ∈ lw_privs_11, lw_okq q := List.forall_mem_cons.mpr ⟨lw_p160, List.forall_mem_cons.mpr ⟨lw_p161, List.forall_mem_cons.mpr ⟨lw_p162, List.forall_mem_cons.mpr ⟨lw_p163, List.forall_mem_cons.mpr ⟨lw_p164, List.forall_mem_cons.mpr ⟨lw_p165, List.forall_mem_cons.mpr ⟨lw_p166, List.forall_mem_cons.mpr ⟨lw_p167, List.forall_mem_cons.mpr ⟨lw_p168, List.forall_mem_cons.mpr ⟨lw_p169, List.forall_mem_cons.mpr ⟨lw_p170, List.forall_mem_cons.mpr ⟨lw_p171, List.forall_mem_cons.mpr ⟨lw_p172, List.forall_mem_cons.mpr ⟨lw_p173, List.forall_mem_cons.mpr ⟨lw_p174, List.forall_mem_cons.mpr ⟨lw_p175, fun _ h => absurd h List.not_mem_nil⟩⟩⟩⟩⟩⟩⟩⟩⟩⟩⟩⟩⟩⟩⟩⟩
theorem lw_p176 : lw_okq (⟨"SpaceHouseModel", "beginWrite", "(IJI)V"⟩, 115) := ⟨⟨by decide +kernel, by decide +kernel⟩, List.mem_of_getElem? (i := 1626) (by decide +kernel), List.mem_of_getElem? (i := 2533) (by decide +kernel), List.mem_of_getElem? (i := 2534) (by decide +kernel)⟩
theorem lw_p177 : lw_okq (⟨"SpaceHouseModel", "putWord", "(I)V"⟩, 115) := ⟨⟨by decide +kernel, by decide +kernel⟩, List.mem_of_getElem? (i := 1626) (by decide +kernel), List.mem_of_getElem? (i := 2537) (by decide +kernel), List.mem_of_getElem? (i := 2538) (by decide +kernel)⟩
theorem lw_p178 : lw_okq (⟨"SpaceHouseModel", "bindWords", "(IZ)I"⟩, 115) := ⟨⟨by decide +kernel, by decide +kernel⟩, List.mem_of_getElem? (i := 1626) (by decide +kernel), List.mem_of_getElem? (i := 2545) (by decide +kernel), List.mem_of_getElem? (i := 2546) (by decide +kernel)⟩
theorem lw_p179 : lw_okq (⟨"SpaceHouseModel", "digit", "(II)I"⟩, 115) := ⟨⟨by decide +kernel, by decide +kernel⟩, List.mem_of_getElem? (i := 1626) (by decide +kernel), List.mem_of_getElem? (i := 2549) (by decide +kernel), List.mem_of_getElem? (i := 2550) (by decide +kernel)⟩
theorem lw_p180 : lw_okq (⟨"SpaceHouseModel", "areFlags", "()Z"⟩, 115) := ⟨⟨by decide +kernel, by decide +kernel⟩, List.mem_of_getElem? (i := 1626) (by decide +kernel), List.mem_of_getElem? (i := 2553) (by decide +kernel), List.mem_of_getElem? (i := 2554) (by decide +kernel)⟩
theorem lw_p181 : lw_okq (⟨"SpaceHouseModel", "isFlagged", "(I)Z"⟩, 115) := ⟨⟨by decide +kernel, by decide +kernel⟩, List.mem_of_getElem? (i := 1626) (by decide +kernel), List.mem_of_getElem? (i := 2561) (by decide +kernel), List.mem_of_getElem? (i := 2562) (by decide +kernel)⟩
theorem lw_p182 : lw_okq (⟨"SpaceHouseModel", "join", "(IIIZZZ)V"⟩, 115) := ⟨⟨by decide +kernel, by decide +kernel⟩, List.mem_of_getElem? (i := 1626) (by decide +kernel), List.mem_of_getElem? (i := 2565) (by decide +kernel), List.mem_of_getElem? (i := 2566) (by decide +kernel)⟩
theorem lw_p183 : lw_okq (⟨"SpaceHouseModel", "addHeld", "(IZ)V"⟩, 115) := ⟨⟨by decide +kernel, by decide +kernel⟩, List.mem_of_getElem? (i := 1626) (by decide +kernel), List.mem_of_getElem? (i := 2569) (by decide +kernel), List.mem_of_getElem? (i := 2570) (by decide +kernel)⟩
theorem lw_p184 : lw_okq (⟨"SpaceHouseModel", "addOld", "(I)V"⟩, 115) := ⟨⟨by decide +kernel, by decide +kernel⟩, List.mem_of_getElem? (i := 1626) (by decide +kernel), List.mem_of_getElem? (i := 2573) (by decide +kernel), List.mem_of_getElem? (i := 2574) (by decide +kernel)⟩
theorem lw_p185 : lw_okq (⟨"SpaceHouseModel", "addNews", "(IZ)V"⟩, 115) := ⟨⟨by decide +kernel, by decide +kernel⟩, List.mem_of_getElem? (i := 1626) (by decide +kernel), List.mem_of_getElem? (i := 2577) (by decide +kernel), List.mem_of_getElem? (i := 2578) (by decide +kernel)⟩
theorem lw_p186 : lw_okq (⟨"SpaceHouseModel", "dropMembers", "(I)V"⟩, 115) := ⟨⟨by decide +kernel, by decide +kernel⟩, List.mem_of_getElem? (i := 1626) (by decide +kernel), List.mem_of_getElem? (i := 2581) (by decide +kernel), List.mem_of_getElem? (i := 2582) (by decide +kernel)⟩
theorem lw_p187 : lw_okq (⟨"SpaceHouseModel", "unmount", "(I)I"⟩, 115) := ⟨⟨by decide +kernel, by decide +kernel⟩, List.mem_of_getElem? (i := 1626) (by decide +kernel), List.mem_of_getElem? (i := 2587) (by decide +kernel), List.mem_of_getElem? (i := 2588) (by decide +kernel)⟩
theorem lw_p188 : lw_okq (⟨"SpaceHouseModel", "removePoint", "(II)V"⟩, 115) := ⟨⟨by decide +kernel, by decide +kernel⟩, List.mem_of_getElem? (i := 1626) (by decide +kernel), List.mem_of_getElem? (i := 2591) (by decide +kernel), List.mem_of_getElem? (i := 2592) (by decide +kernel)⟩
theorem lw_p189 : lw_okq (⟨"SpaceHouseModel", "moveMember", "(II)V"⟩, 115) := ⟨⟨by decide +kernel, by decide +kernel⟩, List.mem_of_getElem? (i := 1626) (by decide +kernel), List.mem_of_getElem? (i := 2595) (by decide +kernel), List.mem_of_getElem? (i := 2596) (by decide +kernel)⟩
theorem lw_p190 : lw_okq (⟨"SpaceHouseModel", "set", "(I)I"⟩, 115) := ⟨⟨by decide +kernel, by decide +kernel⟩, List.mem_of_getElem? (i := 1626) (by decide +kernel), List.mem_of_getElem? (i := 2600) (by decide +kernel), List.mem_of_getElem? (i := 2601) (by decide +kernel)⟩
theorem lw_p191 : lw_okq (⟨"SpaceHouseModel", "assign", "(III)V"⟩, 115) := ⟨⟨by decide +kernel, by decide +kernel⟩, List.mem_of_getElem? (i := 1626) (by decide +kernel), List.mem_of_getElem? (i := 2605) (by decide +kernel), List.mem_of_getElem? (i := 2606) (by decide +kernel)⟩
def lw_privs_12 : List (MethodName × Nat) := [(⟨"SpaceHouseModel", "beginWrite", "(IJI)V"⟩, 115), (⟨"SpaceHouseModel", "putWord", "(I)V"⟩, 115), (⟨"SpaceHouseModel", "bindWords", "(IZ)I"⟩, 115), (⟨"SpaceHouseModel", "digit", "(II)I"⟩, 115), (⟨"SpaceHouseModel", "areFlags", "()Z"⟩, 115), (⟨"SpaceHouseModel", "isFlagged", "(I)Z"⟩, 115), (⟨"SpaceHouseModel", "join", "(IIIZZZ)V"⟩, 115), (⟨"SpaceHouseModel", "addHeld", "(IZ)V"⟩, 115), (⟨"SpaceHouseModel", "addOld", "(I)V"⟩, 115), (⟨"SpaceHouseModel", "addNews", "(IZ)V"⟩, 115), (⟨"SpaceHouseModel", "dropMembers", "(I)V"⟩, 115), (⟨"SpaceHouseModel", "unmount", "(I)I"⟩, 115), (⟨"SpaceHouseModel", "removePoint", "(II)V"⟩, 115), (⟨"SpaceHouseModel", "moveMember", "(II)V"⟩, 115), (⟨"SpaceHouseModel", "set", "(I)I"⟩, 115), (⟨"SpaceHouseModel", "assign", "(III)V"⟩, 115)]
theorem lw_r12 : ∀ q ∈ lw_privs_12, lw_okq q := List.forall_mem_cons.mpr ⟨lw_p176, List.forall_mem_cons.mpr ⟨lw_p177, List.forall_mem_cons.mpr ⟨lw_p178, List.forall_mem_cons.mpr ⟨lw_p179, List.forall_mem_cons.mpr ⟨lw_p180, List.forall_mem_cons.mpr ⟨lw_p181, List.forall_mem_cons.mpr ⟨lw_p182, List.forall_mem_cons.mpr ⟨lw_p183, List.forall_mem_cons.mpr ⟨lw_p184, List.forall_mem_cons.mpr ⟨lw_p185, List.forall_mem_cons.mpr ⟨lw_p186, List.forall_mem_cons.mpr ⟨lw_p187, List.forall_mem_cons.mpr ⟨lw_p188, List.forall_mem_cons.mpr ⟨lw_p189, List.forall_mem_cons.mpr ⟨lw_p190, List.forall_mem_cons.mpr ⟨lw_p191, fun _ h => absurd h List.not_mem_nil⟩⟩⟩⟩⟩⟩⟩⟩⟩⟩⟩⟩⟩⟩⟩⟩
theorem lw_p192 : lw_okq (⟨"SpaceHouseModel", "commandOne", "(IJ)I"⟩, 115) := ⟨⟨by decide +kernel, by decide +kernel⟩, List.mem_of_getElem? (i := 1626) (by decide +kernel), List.mem_of_getElem? (i := 2610) (by decide +kernel), List.mem_of_getElem? (i := 2611) (by decide +kernel)⟩
theorem lw_p193 : lw_okq (⟨"SpaceHouseModel", "cd", "(I)I"⟩, 115) := ⟨⟨by decide +kernel, by decide +kernel⟩, List.mem_of_getElem? (i := 1626) (by decide +kernel), List.mem_of_getElem? (i := 2615) (by decide +kernel), List.mem_of_getElem? (i := 2616) (by decide +kernel)⟩
theorem lw_p194 : lw_okq (⟨"SpaceHouseModel", "ls", "(I)I"⟩, 115) := ⟨⟨by decide +kernel, by decide +kernel⟩, List.mem_of_getElem? (i := 1626) (by decide +kernel), List.mem_of_getElem? (i := 2621) (by decide +kernel), List.mem_of_getElem? (i := 2622) (by decide +kernel)⟩
theorem lw_p195 : lw_okq (⟨"SpaceHouseModel", "list", "(I)I"⟩, 115) := ⟨⟨by decide +kernel, by decide +kernel⟩, List.mem_of_getElem? (i := 1626) (by decide +kernel), List.mem_of_getElem? (i := 2625) (by decide +kernel), List.mem_of_getElem? (i := 2626) (by decide +kernel)⟩
theorem lw_p196 : lw_okq (⟨"SpaceHouseModel", "rm", "(I)I"⟩, 115) := ⟨⟨by decide +kernel, by decide +kernel⟩, List.mem_of_getElem? (i := 1626) (by decide +kernel), List.mem_of_getElem? (i := 2632) (by decide +kernel), List.mem_of_getElem? (i := 2633) (by decide +kernel)⟩
theorem lw_p197 : lw_okq (⟨"SpaceHouseModel", "stat", "(I)I"⟩, 115) := ⟨⟨by decide +kernel, by decide +kernel⟩, List.mem_of_getElem? (i := 1626) (by decide +kernel), List.mem_of_getElem? (i := 2637) (by decide +kernel), List.mem_of_getElem? (i := 2638) (by decide +kernel)⟩
theorem lw_p198 : lw_okq (⟨"SpaceHouseModel", "tellNumber", "(IJ)V"⟩, 115) := ⟨⟨by decide +kernel, by decide +kernel⟩, List.mem_of_getElem? (i := 1626) (by decide +kernel), List.mem_of_getElem? (i := 2641) (by decide +kernel), List.mem_of_getElem? (i := 2642) (by decide +kernel)⟩
theorem lw_p199 : lw_okq (⟨"SpaceHouseModel", "close", "(II)I"⟩, 115) := ⟨⟨by decide +kernel, by decide +kernel⟩, List.mem_of_getElem? (i := 1626) (by decide +kernel), List.mem_of_getElem? (i := 2646) (by decide +kernel), List.mem_of_getElem? (i := 2647) (by decide +kernel)⟩
theorem lw_p200 : lw_okq (⟨"SpaceHouseModel", "usersOf", "(I)I"⟩, 115) := ⟨⟨by decide +kernel, by decide +kernel⟩, List.mem_of_getElem? (i := 1626) (by decide +kernel), List.mem_of_getElem? (i := 2650) (by decide +kernel), List.mem_of_getElem? (i := 2651) (by decide +kernel)⟩
theorem lw_p201 : lw_okq (⟨"SpaceHouseModel", "fork", "(I)I"⟩, 115) := ⟨⟨by decide +kernel, by decide +kernel⟩, List.mem_of_getElem? (i := 1626) (by decide +kernel), List.mem_of_getElem? (i := 2655) (by decide +kernel), List.mem_of_getElem? (i := 2656) (by decide +kernel)⟩
theorem lw_p202 : lw_okq (⟨"SpaceHouseModel", "freeProcess", "()I"⟩, 115) := ⟨⟨by decide +kernel, by decide +kernel⟩, List.mem_of_getElem? (i := 1626) (by decide +kernel), List.mem_of_getElem? (i := 2659) (by decide +kernel), List.mem_of_getElem? (i := 2660) (by decide +kernel)⟩
theorem lw_p203 : lw_okq (⟨"SpaceHouseModel", "freeGroup", "()I"⟩, 115) := ⟨⟨by decide +kernel, by decide +kernel⟩, List.mem_of_getElem? (i := 1626) (by decide +kernel), List.mem_of_getElem? (i := 2663) (by decide +kernel), List.mem_of_getElem? (i := 2664) (by decide +kernel)⟩
theorem lw_p204 : lw_okq (⟨"SpaceHouseModel", "processesOf", "(I)I"⟩, 115) := ⟨⟨by decide +kernel, by decide +kernel⟩, List.mem_of_getElem? (i := 1626) (by decide +kernel), List.mem_of_getElem? (i := 2667) (by decide +kernel), List.mem_of_getElem? (i := 2668) (by decide +kernel)⟩
theorem lw_p205 : lw_okq (⟨"SpaceHouseModel", "start", "(IIII)V"⟩, 115) := ⟨⟨by decide +kernel, by decide +kernel⟩, List.mem_of_getElem? (i := 1626) (by decide +kernel), List.mem_of_getElem? (i := 2671) (by decide +kernel), List.mem_of_getElem? (i := 2672) (by decide +kernel)⟩
theorem lw_p206 : lw_okq (⟨"SpaceHouseModel", "copyGroup", "(II)V"⟩, 115) := ⟨⟨by decide +kernel, by decide +kernel⟩, List.mem_of_getElem? (i := 1626) (by decide +kernel), List.mem_of_getElem? (i := 2675) (by decide +kernel), List.mem_of_getElem? (i := 2676) (by decide +kernel)⟩
theorem lw_p207 : lw_okq (⟨"SpaceHouseModel", "commandTwo", "(IJ)I"⟩, 115) := ⟨⟨by decide +kernel, by decide +kernel⟩, List.mem_of_getElem? (i := 1626) (by decide +kernel), List.mem_of_getElem? (i := 2679) (by decide +kernel), List.mem_of_getElem? (i := 2680) (by decide +kernel)⟩
def lw_privs_13 : List (MethodName × Nat) := [(⟨"SpaceHouseModel", "commandOne", "(IJ)I"⟩, 115), (⟨"SpaceHouseModel", "cd", "(I)I"⟩, 115), (⟨"SpaceHouseModel", "ls", "(I)I"⟩, 115), (⟨"SpaceHouseModel", "list", "(I)I"⟩, 115), (⟨"SpaceHouseModel", "rm", "(I)I"⟩, 115), (⟨"SpaceHouseModel", "stat", "(I)I"⟩, 115), (⟨"SpaceHouseModel", "tellNumber", "(IJ)V"⟩, 115), (⟨"SpaceHouseModel", "close", "(II)I"⟩, 115), (⟨"SpaceHouseModel", "usersOf", "(I)I"⟩, 115), (⟨"SpaceHouseModel", "fork", "(I)I"⟩, 115), (⟨"SpaceHouseModel", "freeProcess", "()I"⟩, 115), (⟨"SpaceHouseModel", "freeGroup", "()I"⟩, 115), (⟨"SpaceHouseModel", "processesOf", "(I)I"⟩, 115), (⟨"SpaceHouseModel", "start", "(IIII)V"⟩, 115), (⟨"SpaceHouseModel", "copyGroup", "(II)V"⟩, 115), (⟨"SpaceHouseModel", "commandTwo", "(IJ)I"⟩, 115)]
theorem lw_r13 : ∀ q ∈ lw_privs_13, lw_okq q := List.forall_mem_cons.mpr ⟨lw_p192, List.forall_mem_cons.mpr ⟨lw_p193, List.forall_mem_cons.mpr ⟨lw_p194, List.forall_mem_cons.mpr ⟨lw_p195, List.forall_mem_cons.mpr ⟨lw_p196, List.forall_mem_cons.mpr ⟨lw_p197, List.forall_mem_cons.mpr ⟨lw_p198, List.forall_mem_cons.mpr ⟨lw_p199, List.forall_mem_cons.mpr ⟨lw_p200, List.forall_mem_cons.mpr ⟨lw_p201, List.forall_mem_cons.mpr ⟨lw_p202, List.forall_mem_cons.mpr ⟨lw_p203, List.forall_mem_cons.mpr ⟨lw_p204, List.forall_mem_cons.mpr ⟨lw_p205, List.forall_mem_cons.mpr ⟨lw_p206, List.forall_mem_cons.mpr ⟨lw_p207, fun _ h => absurd h List.not_mem_nil⟩⟩⟩⟩⟩⟩⟩⟩⟩⟩⟩⟩⟩⟩⟩⟩
theorem lw_p208 : lw_okq (⟨"SpaceHouseModel", "askWstat", "(IIIIJJ)I"⟩, 115) := ⟨⟨by decide +kernel, by decide +kernel⟩, List.mem_of_getElem? (i := 1626) (by decide +kernel), List.mem_of_getElem? (i := 2684) (by decide +kernel), List.mem_of_getElem? (i := 2685) (by decide +kernel)⟩
theorem lw_p209 : lw_okq (⟨"SpaceHouseModel", "numberOf", "(III)I"⟩, 115) := ⟨⟨by decide +kernel, by decide +kernel⟩, List.mem_of_getElem? (i := 1626) (by decide +kernel), List.mem_of_getElem? (i := 2689) (by decide +kernel), List.mem_of_getElem? (i := 2690) (by decide +kernel)⟩
theorem lw_p210 : lw_okq (⟨"SpaceHouseModel", "chmod", "(I)I"⟩, 115) := ⟨⟨by decide +kernel, by decide +kernel⟩, List.mem_of_getElem? (i := 1626) (by decide +kernel), List.mem_of_getElem? (i := 2694) (by decide +kernel), List.mem_of_getElem? (i := 2695) (by decide +kernel)⟩
theorem lw_p211 : lw_okq (⟨"SpaceHouseModel", "openWords", "(I)I"⟩, 115) := ⟨⟨by decide +kernel, by decide +kernel⟩, List.mem_of_getElem? (i := 1626) (by decide +kernel), List.mem_of_getElem? (i := 2699) (by decide +kernel), List.mem_of_getElem? (i := 2700) (by decide +kernel)⟩
theorem lw_p212 : lw_okq (⟨"SpaceHouseModel", "freeDescriptor", "(I)I"⟩, 115) := ⟨⟨by decide +kernel, by decide +kernel⟩, List.mem_of_getElem? (i := 1626) (by decide +kernel), List.mem_of_getElem? (i := 2703) (by decide +kernel), List.mem_of_getElem? (i := 2704) (by decide +kernel)⟩
theorem lw_p213 : lw_okq (⟨"SpaceHouseModel", "keep", "(I)V"⟩, 115) := ⟨⟨by decide +kernel, by decide +kernel⟩, List.mem_of_getElem? (i := 1626) (by decide +kernel), List.mem_of_getElem? (i := 2707) (by decide +kernel), List.mem_of_getElem? (i := 2708) (by decide +kernel)⟩
theorem lw_p214 : lw_okq (⟨"SpaceHouseModel", "readWords", "(I)I"⟩, 115) := ⟨⟨by decide +kernel, by decide +kernel⟩, List.mem_of_getElem? (i := 1626) (by decide +kernel), List.mem_of_getElem? (i := 2712) (by decide +kernel), List.mem_of_getElem? (i := 2713) (by decide +kernel)⟩
theorem lw_p215 : lw_okq (⟨"SpaceHouseModel", "writeWords", "(I)I"⟩, 115) := ⟨⟨by decide +kernel, by decide +kernel⟩, List.mem_of_getElem? (i := 1626) (by decide +kernel), List.mem_of_getElem? (i := 2718) (by decide +kernel), List.mem_of_getElem? (i := 2719) (by decide +kernel)⟩
theorem lw_p216 : lw_okq (⟨"SpaceHouseModel", "createWords", "(I)I"⟩, 115) := ⟨⟨by decide +kernel, by decide +kernel⟩, List.mem_of_getElem? (i := 1626) (by decide +kernel), List.mem_of_getElem? (i := 2724) (by decide +kernel), List.mem_of_getElem? (i := 2725) (by decide +kernel)⟩
theorem lw_p217 : lw_okq (⟨"SpaceHouseModel", "next", "(I)I"⟩, 115) := ⟨⟨by decide +kernel, by decide +kernel⟩, List.mem_of_getElem? (i := 1626) (by decide +kernel), List.mem_of_getElem? (i := 2728) (by decide +kernel), List.mem_of_getElem? (i := 2729) (by decide +kernel)⟩
theorem lw_p218 : lw_okq (⟨"SpaceHouseModel", "returned", "(II)I"⟩, 115) := ⟨⟨by decide +kernel, by decide +kernel⟩, List.mem_of_getElem? (i := 1626) (by decide +kernel), List.mem_of_getElem? (i := 2732) (by decide +kernel), List.mem_of_getElem? (i := 2733) (by decide +kernel)⟩
theorem lw_p219 : lw_okq (⟨"SpaceHouseModel", "nextLine", "(I)I"⟩, 115) := ⟨⟨by decide +kernel, by decide +kernel⟩, List.mem_of_getElem? (i := 1626) (by decide +kernel), List.mem_of_getElem? (i := 2736) (by decide +kernel), List.mem_of_getElem? (i := 2737) (by decide +kernel)⟩
theorem lw_p220 : lw_okq (⟨"SpaceHouseModel", "endAll", "()V"⟩, 115) := ⟨⟨by decide +kernel, by decide +kernel⟩, List.mem_of_getElem? (i := 1626) (by decide +kernel), List.mem_of_getElem? (i := 2740) (by decide +kernel), List.mem_of_getElem? (i := 2741) (by decide +kernel)⟩
theorem lw_p221 : lw_okq (⟨"SpaceHouseModel", "end", "(I)V"⟩, 115) := ⟨⟨by decide +kernel, by decide +kernel⟩, List.mem_of_getElem? (i := 1626) (by decide +kernel), List.mem_of_getElem? (i := 2744) (by decide +kernel), List.mem_of_getElem? (i := 2745) (by decide +kernel)⟩
theorem lw_p222 : lw_okq (⟨"SpaceHouseModel", "fidsOf", "(II)I"⟩, 115) := ⟨⟨by decide +kernel, by decide +kernel⟩, List.mem_of_getElem? (i := 1626) (by decide +kernel), List.mem_of_getElem? (i := 2821) (by decide +kernel), List.mem_of_getElem? (i := 2822) (by decide +kernel)⟩
def lw_privs_14 : List (MethodName × Nat) := [(⟨"SpaceHouseModel", "askWstat", "(IIIIJJ)I"⟩, 115), (⟨"SpaceHouseModel", "numberOf", "(III)I"⟩, 115), (⟨"SpaceHouseModel", "chmod", "(I)I"⟩, 115), (⟨"SpaceHouseModel", "openWords", "(I)I"⟩, 115), (⟨"SpaceHouseModel", "freeDescriptor", "(I)I"⟩, 115), (⟨"SpaceHouseModel", "keep", "(I)V"⟩, 115), (⟨"SpaceHouseModel", "readWords", "(I)I"⟩, 115), (⟨"SpaceHouseModel", "writeWords", "(I)I"⟩, 115), (⟨"SpaceHouseModel", "createWords", "(I)I"⟩, 115), (⟨"SpaceHouseModel", "next", "(I)I"⟩, 115), (⟨"SpaceHouseModel", "returned", "(II)I"⟩, 115), (⟨"SpaceHouseModel", "nextLine", "(I)I"⟩, 115), (⟨"SpaceHouseModel", "endAll", "()V"⟩, 115), (⟨"SpaceHouseModel", "end", "(I)V"⟩, 115), (⟨"SpaceHouseModel", "fidsOf", "(II)I"⟩, 115)]
theorem lw_r14 : ∀ q ∈ lw_privs_14, lw_okq q := List.forall_mem_cons.mpr ⟨lw_p208, List.forall_mem_cons.mpr ⟨lw_p209, List.forall_mem_cons.mpr ⟨lw_p210, List.forall_mem_cons.mpr ⟨lw_p211, List.forall_mem_cons.mpr ⟨lw_p212, List.forall_mem_cons.mpr ⟨lw_p213, List.forall_mem_cons.mpr ⟨lw_p214, List.forall_mem_cons.mpr ⟨lw_p215, List.forall_mem_cons.mpr ⟨lw_p216, List.forall_mem_cons.mpr ⟨lw_p217, List.forall_mem_cons.mpr ⟨lw_p218, List.forall_mem_cons.mpr ⟨lw_p219, List.forall_mem_cons.mpr ⟨lw_p220, List.forall_mem_cons.mpr ⟨lw_p221, List.forall_mem_cons.mpr ⟨lw_p222, fun _ h => absurd h List.not_mem_nil⟩⟩⟩⟩⟩⟩⟩⟩⟩⟩⟩⟩⟩⟩⟩
def lw_privs : List (MethodName × Nat) := lw_privs_1 ++ (lw_privs_2 ++ (lw_privs_3 ++ (lw_privs_4 ++ (lw_privs_5 ++ (lw_privs_6 ++ (lw_privs_7 ++ (lw_privs_8 ++ (lw_privs_9 ++ (lw_privs_10 ++ (lw_privs_11 ++ (lw_privs_12 ++ (lw_privs_13 ++ (lw_privs_14)))))))))))))
def lw_tbl : List Cond := k2_sels lw_privs ++ tables_1
theorem lw_privs_ok : ∀ q ∈ lw_privs, lw_okq q := by
  show ∀ q ∈ lw_privs_1 ++ (lw_privs_2 ++ (lw_privs_3 ++ (lw_privs_4 ++ (lw_privs_5 ++ (lw_privs_6 ++ (lw_privs_7 ++ (lw_privs_8 ++ (lw_privs_9 ++ (lw_privs_10 ++ (lw_privs_11 ++ (lw_privs_12 ++ (lw_privs_13 ++ (lw_privs_14))))))))))))), lw_okq q
  exact List.forall_mem_append.mpr ⟨lw_r1, List.forall_mem_append.mpr ⟨lw_r2, List.forall_mem_append.mpr ⟨lw_r3, List.forall_mem_append.mpr ⟨lw_r4, List.forall_mem_append.mpr ⟨lw_r5, List.forall_mem_append.mpr ⟨lw_r6, List.forall_mem_append.mpr ⟨lw_r7, List.forall_mem_append.mpr ⟨lw_r8, List.forall_mem_append.mpr ⟨lw_r9, List.forall_mem_append.mpr ⟨lw_r10, List.forall_mem_append.mpr ⟨lw_r11, List.forall_mem_append.mpr ⟨lw_r12, List.forall_mem_append.mpr ⟨lw_r13, lw_r14⟩⟩⟩⟩⟩⟩⟩⟩⟩⟩⟩⟩⟩
end
section
/-! Names and tables of this claim, printed by wip/gen/gen.py out of the task folder. -/
def hBig : List Cond := lw_tbl.filter goodWord
theorem hBig_in {w : Cond} (h : w ∈ lw_tbl) (g : goodWord w = true) : w ∈ hBig := List.mem_filter.mpr ⟨h, g⟩
theorem hBig_ok : ∀ w ∈ hBig, w ∈ lw_tbl ∧ goodWord w = true := fun _ h => List.mem_filter.mp h
def hOwn : List String := ["SpaceHouse", "SpaceHouse$Kernel", "SpaceHouse$Bytes", "SpaceHouse$Group", "SpaceHouse$Point", "SpaceHouse$Channel", "SpaceHouse$Process", "SpaceHouse$Server", "SpaceHouse$Node", "SpaceHouse$Fid", "java/lang/String", "java/lang/StringLatin1", "jdk/internal/util/Preconditions", "java/lang/Math", "SpaceHouse$Commands", "SpaceHouse$Shell", "SpaceHouse$Command", "SpaceHouseModel", "SpaceHouseLaw"]
def hName (o : Nat) : String := hOwn.getD o ""
/-- the fields of a class: name, descriptor, kind (0 int, 1 byte, 2 boolean, 3 long, 4 a reference), final -/
def hFs : List (List (String × String × Nat × Bool)) := [[("kernel", "LSpaceHouse$Kernel;", 4, true), ("commands", "LSpaceHouse$Commands;", 4, true), ("shell", "LSpaceHouse$Shell;", 4, true), ("line", "LSpaceHouse$Bytes;", 4, true), ("tape", "LSpaceHouse$Bytes;", 4, true), ("told", "LSpaceHouse$Bytes;", 4, true)],
  [("input", "LSpaceHouse$Bytes;", 4, true), ("console", "LSpaceHouse$Bytes;", 4, true), ("reply", "LSpaceHouse$Bytes;", 4, true), ("messages", "I", 0, false), ("sum", "J", 3, false), ("fresh", "I", 0, false), ("names", "I", 0, false), ("plain", "LSpaceHouse$Bytes;", 4, true), ("request", "LSpaceHouse$Bytes;", 4, true), ("latest", "[LSpaceHouse$Bytes;", 4, true), ("servers", "[LSpaceHouse$Server;", 4, true), ("processes", "[LSpaceHouse$Process;", 4, true), ("groups", "[LSpaceHouse$Group;", 4, true), ("openings", "[LSpaceHouse$Channel;", 4, true), ("whole", "LSpaceHouse$Bytes;", 4, true), ("nameStarts", "[I", 4, true), ("nameEnds", "[I", 4, true), ("home", "I", 0, false)],
  [("row", "[B", 4, true), ("size", "I", 0, false)],
  [("points", "[LSpaceHouse$Point;", 4, true), ("count", "I", 0, false), ("holders", "I", 0, false)],
  [("members", "[LSpaceHouse$Channel;", 4, true), ("server", "I", 0, false), ("path", "I", 0, false), ("count", "I", 0, false)],
  [("server", "I", 0, false), ("fid", "I", 0, false), ("path", "I", 0, false), ("directory", "Z", 2, false), ("point", "LSpaceHouse$Point;", 4, false), ("create", "Z", 2, false), ("offset", "I", 0, false), ("holders", "I", 0, false)],
  [("number", "I", 0, true), ("dot", "LSpaceHouse$Bytes;", 4, true), ("out", "LSpaceHouse$Bytes;", 4, true), ("variables", "[LSpaceHouse$Bytes;", 4, true), ("openings", "[LSpaceHouse$Channel;", 4, true), ("living", "Z", 2, false), ("leaving", "Z", 2, false), ("user", "I", 0, false), ("root", "I", 0, false), ("group", "LSpaceHouse$Group;", 4, false)],
  [("kernel", "LSpaceHouse$Kernel;", 4, true), ("shows", "Z", 2, true), ("nodes", "[LSpaceHouse$Node;", 4, true), ("fids", "[LSpaceHouse$Fid;", 4, true), ("mostSize", "[I", 4, true), ("text", "LSpaceHouse$Bytes;", 4, true), ("count", "I", 0, false), ("total", "I", 0, false), ("lastPath", "I", 0, false), ("asked", "LSpaceHouse$Bytes;", 4, false), ("reply", "LSpaceHouse$Bytes;", 4, false), ("connection", "I", 0, false)],
  [("name", "LSpaceHouse$Bytes;", 4, true), ("parent", "LSpaceHouse$Node;", 4, false), ("shown", "LSpaceHouse$Process;", 4, false), ("device", "I", 0, false), ("path", "I", 0, false), ("version", "I", 0, false), ("mode", "I", 0, false), ("uid", "I", 0, false), ("gid", "I", 0, false), ("muid", "I", 0, false), ("length", "I", 0, false), ("content", "[B", 4, false)],
  [("used", "Z", 2, false), ("number", "J", 3, false), ("user", "I", 0, false), ("node", "LSpaceHouse$Node;", 4, false), ("path", "I", 0, false), ("mode", "I", 0, false), ("removes", "Z", 2, false), ("readEnd", "J", 3, false), ("entriesRead", "I", 0, false)],
  [("value", "[B", 4, true), ("coder", "B", 1, true)],
  [],
  [],
  [],
  [("kernel", "LSpaceHouse$Kernel;", 4, true), ("text", "LSpaceHouse$Bytes;", 4, true), ("one", "LSpaceHouse$Channel;", 4, true), ("two", "LSpaceHouse$Channel;", 4, true), ("copies", "[LSpaceHouse$Channel;", 4, true), ("copied", "I", 0, false)],
  [("open", "[LSpaceHouse$Command;", 4, true), ("waiting", "LSpaceHouse$Bytes;", 4, true), ("depth", "I", 0, false), ("begun", "I", 0, false), ("error", "I", 0, false), ("waits", "Z", 2, false), ("expands", "Z", 2, false)],
  [("text", "LSpaceHouse$Bytes;", 4, true), ("script", "LSpaceHouse$Bytes;", 4, true), ("starts", "[I", 4, true), ("ends", "[I", 4, true), ("words", "I", 0, false), ("doing", "I", 0, false), ("next", "I", 0, false), ("body", "I", 0, false), ("forgives", "Z", 2, false)],
  [("errorBytes", "[I", 4, true), ("errorEnds", "[I", 4, true), ("userBytes", "[I", 4, true), ("ask", "[I", 4, true), ("askSize", "I", 0, false), ("ans", "[I", 4, true), ("ansSize", "I", 0, false), ("fault", "I", 0, false), ("at", "I", 0, false), ("isBad", "Z", 2, false), ("stringAt", "[I", 4, true), ("stringSize", "[I", 4, true), ("strings", "I", 0, false), ("isFile", "[Z", 4, true), ("above", "[I", 4, true), ("pathOf", "[I", 4, true), ("versions", "[I", 4, true), ("modes", "[I", 4, true), ("uids", "[I", 4, true), ("gids", "[I", 4, true), ("muids", "[I", 4, true), ("lengths", "[I", 4, true), ("names", "[I", 4, true), ("nameSizes", "[I", 4, true), ("bytes", "[I", 4, true), ("treeBytes", "[I", 4, true), ("treeFiles", "[I", 4, true), ("lastPath", "[I", 4, true), ("isFid", "[Z", 4, true), ("fidNumber", "[J", 4, true), ("fidNode", "[I", 4, true), ("fidPath", "[I", 4, true), ("fidUser", "[I", 4, true), ("fidMode", "[I", 4, true), ("fidGone", "[Z", 4, true), ("readTo", "[J", 4, true), ("readMany", "[I", 4, true), ("sizes", "[I", 4, true), ("input", "[I", 4, true), ("inputs", "I", 0, false), ("console", "[I", 4, true), ("printed", "I", 0, false), ("messages", "I", 0, false), ("ring", "[I", 4, true), ("ringSize", "[I", 4, true), ("sum", "J", 3, false), ("tape", "[I", 4, true), ("taped", "I", 0, false), ("last", "[I", 4, true), ("lastSize", "I", 0, false), ("isProcess", "[Z", 4, true), ("isDying", "[Z", 4, true), ("userOf", "[I", 4, true), ("groupOf", "[I", 4, true), ("rootOf", "[I", 4, true), ("dots", "[I", 4, true), ("dotSizes", "[I", 4, true), ("opened", "[I", 4, true), ("outs", "[I", 4, true), ("outSizes", "[I", 4, true), ("isOpening", "[Z", 4, true), ("openServer", "[I", 4, true), ("openFid", "[I", 4, true), ("openOffset", "[I", 4, true), ("points", "[I", 4, true), ("pointServer", "[I", 4, true), ("pointPath", "[I", 4, true), ("memberMany", "[I", 4, true), ("memberServer", "[I", 4, true), ("memberFid", "[I", 4, true), ("memberPath", "[I", 4, true), ("memberKind", "[I", 4, true), ("memberMakes", "[Z", 4, true), ("line", "[I", 4, true), ("lineSize", "I", 0, false), ("wordFrom", "[I", 4, true), ("wordTo", "[I", 4, true), ("words", "I", 0, false), ("raw", "[I", 4, true), ("rawSize", "I", 0, false), ("origin", "I", 0, false), ("nameFrom", "[I", 4, true), ("nameTo", "[I", 4, true), ("nameMany", "I", 0, false), ("plain", "[I", 4, true), ("plainSize", "I", 0, false), ("heldServer", "[I", 4, true), ("heldFid", "[I", 4, true), ("heldPath", "[I", 4, true), ("heldKind", "[I", 4, true), ("heldPoint", "[I", 4, true), ("held", "I", 0, false), ("stepped", "I", 0, false), ("keptName", "[I", 4, true), ("newServer", "[I", 4, true), ("newFids", "[I", 4, true), ("newPath", "[I", 4, true), ("newKind", "[I", 4, true), ("newMakes", "[Z", 4, true), ("newMany", "I", 0, false), ("variables", "[I", 4, true), ("variableSize", "[I", 4, true), ("entered", "[I", 4, true), ("enteredSize", "I", 0, false), ("source", "[I", 4, true), ("sourceSize", "I", 0, false), ("frames", "[I", 4, true), ("frameSizes", "[I", 4, true), ("frameKinds", "[I", 4, true), ("framePlaces", "[I", 4, true), ("isMuted", "[Z", 4, true), ("scripts", "[I", 4, true), ("scriptSizes", "[I", 4, true), ("depth", "I", 0, false), ("done", "I", 0, false)],
  []]
def hFd (c k : Nat) : String × String × Nat × Bool := (hFs.getD c []).getD k ("", "", 0, false)
def hFn (c : Nat) : Nat := (hFs.getD c []).length
def hMs_0 : List (Nat × String × String × ByteArray × Nat × Option FieldType × Nat × Nat) := [(0, "<init>", "()V", prog_1_method_1_code, 2, (Option.none : Option FieldType), 2, 1),
  (1, "<init>", "()V", prog_8_method_1_code, 2, (Option.none : Option FieldType), 2, 1),
  (2, "<init>", "(I)V", prog_2_method_1_code, 2, (Option.none : Option FieldType), 2, 2),
  (3, "<init>", "()V", prog_7_method_1_code, 2, (Option.none : Option FieldType), 2, 1),
  (4, "<init>", "()V", prog_10_method_1_code, 2, (Option.none : Option FieldType), 2, 1),
  (5, "<init>", "()V", prog_3_method_1_code, 1, (Option.none : Option FieldType), 2, 1),
  (6, "<init>", "(ILSpaceHouse$Group;)V", prog_11_method_1_code, 4, (Option.none : Option FieldType), 2, 3),
  (7, "<init>", "(LSpaceHouse$Kernel;Z)V", prog_12_method_1_code, 4, (Option.none : Option FieldType), 2, 3),
  (8, "<init>", "()V", prog_9_method_1_code, 1, (Option.none : Option FieldType), 2, 1),
  (9, "<init>", "()V", prog_6_method_1_code, 1, (Option.none : Option FieldType), 2, 1),
  (8, "become", "(ILSpaceHouse$Node;II)V", prog_9_method_2_code, 5, (Option.none : Option FieldType), 1, 5),
  (2, "takeText", "(Ljava/lang/String;)V", prog_2_method_8_code, 2, (Option.none : Option FieldType), 1, 2),
  (2, "addText", "(Ljava/lang/String;)V", prog_2_method_9_code, 3, (Option.none : Option FieldType), 1, 2),
  (10, "length", "()I", prog_17_method_54_code, 1, (Option.some FieldType.int), 1, 1),
  (10, "coder", "()B", prog_17_method_152_code, 1, (Option.some FieldType.byte), 1, 1),
  (10, "charAt", "(I)C", prog_17_method_56_code, 2, (Option.some FieldType.char), 1, 2),
  (10, "isLatin1", "()Z", prog_17_method_154_code, 1, (Option.some FieldType.boolean), 1, 1),
  (11, "charAt", "([BI)C", prog_18_method_2_code, 2, (Option.some FieldType.char), 0, 2),
  (10, "checkIndex", "(II)V", prog_17_method_155_code, 2, (Option.none : Option FieldType), 0, 2),
  (12, "checkIndex", "(IILjava/util/function/BiFunction;)I", prog_20_method_11_code, 3, (Option.some FieldType.int), 0, 3),
  (1, "meet", "(LSpaceHouse$Server;LSpaceHouse$Server;LSpaceHouse$Server;)V", prog_8_method_2_code, 5, (Option.none : Option FieldType), 1, 4),
  (2, "start", "(IJ)V", prog_2_method_21_code, 4, (Option.none : Option FieldType), 1, 3),
  (2, "put", "(JI)V", prog_2_method_11_code, 7, (Option.none : Option FieldType), 1, 3),
  (2, "putString", "(Ljava/lang/String;)V", prog_2_method_22_code, 2, (Option.none : Option FieldType), 1, 2),
  (2, "finish", "()V", prog_2_method_23_code, 1, (Option.none : Option FieldType), 1, 1),
  (2, "replace", "(IJI)V", prog_2_method_12_code, 8, (Option.none : Option FieldType), 1, 4),
  (7, "serve", "(ILSpaceHouse$Bytes;LSpaceHouse$Bytes;)I", prog_12_method_8_code, 9, (Option.some FieldType.int), 1, 4),
  (2, "clear", "()V", prog_2_method_3_code, 1, (Option.none : Option FieldType), 1, 1),
  (2, "size", "()I", prog_2_method_2_code, 1, (Option.some FieldType.int), 1, 1),
  (2, "number", "(II)J", prog_2_method_13_code, 6, (Option.some FieldType.long), 1, 3),
  (1, "note", "(LSpaceHouse$Bytes;)V", prog_8_method_4_code, 6, (Option.none : Option FieldType), 1, 2),
  (2, "take", "(LSpaceHouse$Bytes;II)Z", prog_2_method_7_code, 4, (Option.some FieldType.boolean), 1, 4),
  (2, "addAll", "(LSpaceHouse$Bytes;II)Z", prog_2_method_6_code, 5, (Option.some FieldType.boolean), 1, 4),
  (2, "at", "(I)I", prog_2_method_4_code, 2, (Option.some FieldType.int), 1, 2),
  (7, "sizeOf", "(I)I", prog_12_method_3_code, 2, (Option.some FieldType.int), 1, 2),
  (7, "isWhole", "(I)Z", prog_12_method_9_code, 3, (Option.some FieldType.boolean), 1, 2),
  (2, "stringEnd", "(I)I", prog_2_method_14_code, 3, (Option.some FieldType.int), 1, 2),
  (7, "areNames", "()Z", prog_12_method_10_code, 4, (Option.some FieldType.boolean), 1, 1),
  (7, "isStat", "()Z", prog_12_method_11_code, 4, (Option.some FieldType.boolean), 1, 1),
  (7, "find", "(IJ)LSpaceHouse$Fid;", prog_12_method_5_code, 6, (Option.some (FieldType.object "SpaceHouse$Fid")), 1, 3)]
def hMs_1 : List (Nat × String × String × ByteArray × Nat × Option FieldType × Nat × Nat) := [(7, "doVersion", "()I", prog_12_method_12_code, 5, (Option.some FieldType.int), 1, 1),
  (7, "leastFid", "()LSpaceHouse$Fid;", prog_12_method_7_code, 4, (Option.some (FieldType.object "SpaceHouse$Fid")), 1, 1),
  (7, "refusal", "(LSpaceHouse$Fid;)I", prog_12_method_33_code, 4, (Option.some FieldType.int), 1, 2),
  (8, "lets", "(II)Z", prog_9_method_6_code, 4, (Option.some FieldType.boolean), 1, 3),
  (7, "delete", "(LSpaceHouse$Fid;)V", prog_12_method_34_code, 3, (Option.none : Option FieldType), 1, 2),
  (8, "grew", "(I)V", prog_9_method_7_code, 2, (Option.none : Option FieldType), 1, 2),
  (7, "takeOut", "(LSpaceHouse$Node;)V", prog_12_method_35_code, 4, (Option.none : Option FieldType), 1, 2),
  (2, "spells", "(IILjava/lang/String;)Z", prog_2_method_17_code, 5, (Option.some FieldType.boolean), 1, 4),
  (7, "doAttach", "()I", prog_12_method_13_code, 5, (Option.some FieldType.int), 1, 1),
  (7, "userTold", "()I", prog_12_method_14_code, 2, (Option.some FieldType.int), 1, 1),
  (7, "spareFid", "()LSpaceHouse$Fid;", prog_12_method_6_code, 3, (Option.some (FieldType.object "SpaceHouse$Fid")), 1, 1),
  (9, "become", "(JILSpaceHouse$Node;)V", prog_6_method_2_code, 5, (Option.none : Option FieldType), 1, 4),
  (7, "putQid", "(LSpaceHouse$Node;)V", prog_12_method_17_code, 2, (Option.none : Option FieldType), 1, 2),
  (8, "kind", "()I", prog_9_method_5_code, 1, (Option.some FieldType.int), 1, 1),
  (7, "doWalk", "(LSpaceHouse$Fid;)I", prog_12_method_15_code, 13, (Option.some FieldType.int), 1, 2),
  (8, "isDirectory", "()Z", prog_9_method_3_code, 1, (Option.some FieldType.boolean), 1, 1),
  (7, "entry", "(LSpaceHouse$Node;II)LSpaceHouse$Node;", prog_12_method_16_code, 5, (Option.some (FieldType.object "SpaceHouse$Node")), 1, 4),
  (2, "areDots", "(III)Z", prog_2_method_18_code, 5, (Option.some FieldType.boolean), 1, 4),
  (2, "matches", "(IILSpaceHouse$Bytes;)Z", prog_2_method_16_code, 5, (Option.some FieldType.boolean), 1, 4),
  (7, "doOpen", "(LSpaceHouse$Fid;)I", prog_12_method_18_code, 4, (Option.some FieldType.int), 1, 2),
  (7, "openRefusal", "(LSpaceHouse$Node;II)I", prog_12_method_19_code, 6, (Option.some FieldType.int), 1, 4),
  (8, "onlyGrows", "()Z", prog_9_method_4_code, 1, (Option.some FieldType.boolean), 1, 1),
  (7, "resize", "(LSpaceHouse$Node;I)V", prog_12_method_30_code, 4, (Option.none : Option FieldType), 1, 3),
  (9, "open", "(IZ)V", prog_6_method_3_code, 3, (Option.none : Option FieldType), 1, 3),
  (7, "doCreate", "(LSpaceHouse$Fid;)I", prog_12_method_20_code, 9, (Option.some FieldType.int), 1, 2),
  (2, "isName", "(II)Z", prog_2_method_19_code, 6, (Option.some FieldType.boolean), 1, 3),
  (7, "permRefusal", "(JI)I", prog_12_method_21_code, 5, (Option.some FieldType.int), 0, 2),
  (7, "insert", "(ILSpaceHouse$Node;II)LSpaceHouse$Node;", prog_12_method_22_code, 7, (Option.some (FieldType.object "SpaceHouse$Node")), 1, 5),
  (7, "doRead", "(LSpaceHouse$Fid;)I", prog_12_method_23_code, 10, (Option.some FieldType.int), 1, 2),
  (7, "tellBytes", "(LSpaceHouse$Node;JI)V", prog_12_method_24_code, 7, (Option.none : Option FieldType), 1, 4),
  (13, "min", "(II)I", prog_16_method_69_code, 2, (Option.some FieldType.int), 0, 2),
  (2, "drop", "(I)V", prog_2_method_20_code, 4, (Option.none : Option FieldType), 1, 2),
  (0, "userName", "(I)I", prog_1_method_24_code, 1, (Option.some FieldType.int), 0, 1),
  (2, "add", "(I)Z", prog_2_method_5_code, 2, (Option.some FieldType.boolean), 1, 2),
  (6, "openCount", "()I", prog_11_method_8_code, 3, (Option.some FieldType.int), 1, 1),
  (2, "addNumber", "(J)V", prog_2_method_10_code, 7, (Option.none : Option FieldType), 1, 2),
  (8, "statSize", "()I", prog_9_method_8_code, 1, (Option.some FieldType.int), 1, 1),
  (7, "putStat", "(LSpaceHouse$Node;)V", prog_12_method_25_code, 2, (Option.none : Option FieldType), 1, 2),
  (7, "doWrite", "(LSpaceHouse$Fid;)I", prog_12_method_26_code, 4, (Option.some FieldType.int), 1, 2),
  (7, "writeBytes", "(LSpaceHouse$Node;I)I", prog_12_method_27_code, 8, (Option.some FieldType.int), 1, 3)]
def hMs_2 : List (Nat × String × String × ByteArray × Nat × Option FieldType × Nat × Nat) := [(13, "max", "(II)I", prog_16_method_65_code, 2, (Option.some FieldType.int), 0, 2),
  (7, "exceeds", "(LSpaceHouse$Node;J)Z", prog_12_method_29_code, 4, (Option.some FieldType.boolean), 1, 3),
  (7, "writeDevice", "(LSpaceHouse$Node;)I", prog_12_method_28_code, 4, (Option.some FieldType.int), 1, 2),
  (7, "doClunk", "(LSpaceHouse$Fid;)I", prog_12_method_31_code, 2, (Option.some FieldType.int), 1, 2),
  (7, "doRemove", "(LSpaceHouse$Fid;)I", prog_12_method_32_code, 3, (Option.some FieldType.int), 1, 2),
  (7, "doStat", "(LSpaceHouse$Fid;)I", prog_12_method_36_code, 2, (Option.some FieldType.int), 1, 2),
  (7, "doWstat", "(LSpaceHouse$Fid;)I", prog_12_method_37_code, 14, (Option.some FieldType.int), 1, 2),
  (2, "allOnes", "(II)Z", prog_2_method_15_code, 4, (Option.some FieldType.boolean), 1, 3),
  (7, "nameRefusal", "(LSpaceHouse$Node;IZLSpaceHouse$Node;)I", prog_12_method_38_code, 5, (Option.some FieldType.int), 1, 5),
  (7, "lengthRefusal", "(LSpaceHouse$Node;IJ)I", prog_12_method_39_code, 5, (Option.some FieldType.int), 1, 4),
  (7, "modeRefusal", "(LSpaceHouse$Node;II)I", prog_12_method_40_code, 4, (Option.some FieldType.int), 0, 3),
  (0, "errorText", "(I)Ljava/lang/String;", prog_1_method_25_code, 1, (Option.some (FieldType.object "java/lang/String")), 0, 1),
  (14, "<init>", "(LSpaceHouse$Kernel;)V", prog_5_method_1_code, 3, (Option.none : Option FieldType), 2, 2),
  (15, "<init>", "()V", prog_13_method_1_code, 2, (Option.none : Option FieldType), 2, 1),
  (16, "<init>", "()V", prog_4_method_1_code, 1, (Option.none : Option FieldType), 2, 1),
  (0, "type", "(JI)I", prog_1_method_2_code, 4, (Option.some FieldType.int), 1, 3),
  (0, "enter", "(I)I", prog_1_method_3_code, 6, (Option.some FieldType.int), 1, 2),
  (1, "living", "(I)LSpaceHouse$Process;", prog_8_method_23_code, 3, (Option.some (FieldType.object "SpaceHouse$Process")), 1, 2),
  (15, "begin", "(LSpaceHouse$Bytes;)V", prog_13_method_2_code, 2, (Option.none : Option FieldType), 1, 2),
  (15, "goesOn", "()Z", prog_13_method_3_code, 1, (Option.some FieldType.boolean), 1, 1),
  (15, "next", "(LSpaceHouse$Process;)LSpaceHouse$Command;", prog_13_method_5_code, 5, (Option.some (FieldType.object "SpaceHouse$Command")), 1, 2),
  (15, "resume", "(LSpaceHouse$Process;)V", prog_13_method_9_code, 4, (Option.none : Option FieldType), 1, 2),
  (15, "nextWord", "(LSpaceHouse$Process;LSpaceHouse$Command;)Z", prog_13_method_10_code, 4, (Option.some FieldType.boolean), 1, 3),
  (16, "variableAt", "(I)I", prog_4_method_13_code, 3, (Option.some FieldType.int), 1, 2),
  (16, "startOf", "(I)I", prog_4_method_3_code, 2, (Option.some FieldType.int), 1, 2),
  (16, "lengthOf", "(I)I", prog_4_method_5_code, 2, (Option.some FieldType.int), 1, 2),
  (16, "endOf", "(I)I", prog_4_method_4_code, 2, (Option.some FieldType.int), 1, 2),
  (6, "variableOf", "(I)LSpaceHouse$Bytes;", prog_11_method_4_code, 2, (Option.some (FieldType.object "SpaceHouse$Bytes")), 1, 2),
  (16, "join", "(LSpaceHouse$Bytes;II)V", prog_4_method_15_code, 5, (Option.none : Option FieldType), 1, 4),
  (15, "nextLine", "(LSpaceHouse$Command;)Z", prog_13_method_11_code, 4, (Option.some FieldType.boolean), 1, 2),
  (15, "innermostScript", "()LSpaceHouse$Command;", prog_13_method_6_code, 2, (Option.some (FieldType.object "SpaceHouse$Command")), 1, 1),
  (15, "expand", "(LSpaceHouse$Process;LSpaceHouse$Bytes;LSpaceHouse$Command;)Z", prog_13_method_7_code, 10, (Option.some FieldType.boolean), 1, 4),
  (16, "split", "()V", prog_4_method_2_code, 3, (Option.none : Option FieldType), 1, 1),
  (15, "end", "(I)V", prog_13_method_8_code, 2, (Option.none : Option FieldType), 1, 2),
  (16, "verb", "()I", prog_4_method_8_code, 1, (Option.some FieldType.int), 1, 1),
  (16, "is", "(ILjava/lang/String;)Z", prog_4_method_6_code, 3, (Option.some FieldType.boolean), 1, 3),
  (14, "cd", "(LSpaceHouse$Process;LSpaceHouse$Command;)I", prog_5_method_3_code, 4, (Option.some FieldType.int), 1, 3),
  (1, "reach", "(LSpaceHouse$Process;LSpaceHouse$Command;ILSpaceHouse$Channel;Z)I", prog_8_method_22_code, 7, (Option.some FieldType.int), 1, 6),
  (1, "readPath", "(LSpaceHouse$Process;LSpaceHouse$Command;I)I", prog_8_method_18_code, 9, (Option.some FieldType.int), 1, 4),
  (1, "takeName", "(II)V", prog_8_method_19_code, 3, (Option.none : Option FieldType), 1, 3)]
def hMs_3 : List (Nat × String × String × ByteArray × Nat × Option FieldType × Nat × Nat) := [(1, "makePlain", "()Z", prog_8_method_20_code, 3, (Option.some FieldType.boolean), 1, 1),
  (1, "walk", "(LSpaceHouse$Process;LSpaceHouse$Channel;IZ)I", prog_8_method_21_code, 14, (Option.some FieldType.int), 1, 5),
  (1, "host", "(I)LSpaceHouse$Server;", prog_8_method_3_code, 2, (Option.some (FieldType.object "SpaceHouse$Server")), 1, 2),
  (1, "walking", "(III)LSpaceHouse$Bytes;", prog_8_method_9_code, 4, (Option.some (FieldType.object "SpaceHouse$Bytes")), 1, 4),
  (7, "spareNumber", "()I", prog_12_method_4_code, 4, (Option.some FieldType.int), 1, 1),
  (1, "start", "(II)V", prog_8_method_6_code, 3, (Option.none : Option FieldType), 1, 3),
  (1, "putName", "(I)V", prog_8_method_10_code, 2, (Option.none : Option FieldType), 1, 2),
  (1, "attaching", "(II)LSpaceHouse$Bytes;", prog_8_method_8_code, 3, (Option.some (FieldType.object "SpaceHouse$Bytes")), 1, 3),
  (5, "become", "(IIIZ)V", prog_3_method_2_code, 5, (Option.none : Option FieldType), 1, 5),
  (3, "pointAt", "(II)LSpaceHouse$Point;", prog_7_method_3_code, 4, (Option.some (FieldType.object "SpaceHouse$Point")), 1, 3),
  (4, "memberOf", "(I)LSpaceHouse$Channel;", prog_10_method_2_code, 2, (Option.some (FieldType.object "SpaceHouse$Channel")), 1, 2),
  (1, "about", "(II)LSpaceHouse$Bytes;", prog_8_method_7_code, 3, (Option.some (FieldType.object "SpaceHouse$Bytes")), 1, 3),
  (1, "clunk", "(LSpaceHouse$Channel;)I", prog_8_method_16_code, 2, (Option.some FieldType.int), 1, 2),
  (14, "cat", "(LSpaceHouse$Process;LSpaceHouse$Command;)I", prog_5_method_4_code, 4, (Option.some FieldType.int), 1, 3),
  (14, "pour", "(LSpaceHouse$Bytes;)I", prog_5_method_5_code, 7, (Option.some FieldType.int), 1, 2),
  (1, "opening", "(II)LSpaceHouse$Bytes;", prog_8_method_11_code, 3, (Option.some (FieldType.object "SpaceHouse$Bytes")), 1, 3),
  (14, "send", "(LSpaceHouse$Channel;LSpaceHouse$Bytes;)I", prog_5_method_2_code, 3, (Option.some FieldType.int), 1, 3),
  (1, "reading", "(IJI)LSpaceHouse$Bytes;", prog_8_method_13_code, 5, (Option.some (FieldType.object "SpaceHouse$Bytes")), 1, 4),
  (14, "ls", "(LSpaceHouse$Process;LSpaceHouse$Command;)I", prog_5_method_6_code, 7, (Option.some FieldType.int), 1, 3),
  (14, "list", "(LSpaceHouse$Bytes;)I", prog_5_method_7_code, 7, (Option.some FieldType.int), 1, 2),
  (14, "listStats", "(LSpaceHouse$Bytes;I)V", prog_5_method_8_code, 6, (Option.none : Option FieldType), 1, 3),
  (1, "copy", "(LSpaceHouse$Channel;LSpaceHouse$Channel;)I", prog_8_method_17_code, 4, (Option.some FieldType.int), 1, 3),
  (14, "echo", "(LSpaceHouse$Process;LSpaceHouse$Command;)I", prog_5_method_9_code, 12, (Option.some FieldType.int), 1, 3),
  (14, "make", "(LSpaceHouse$Process;LSpaceHouse$Command;IJI)I", prog_5_method_10_code, 9, (Option.some FieldType.int), 1, 6),
  (4, "memberToCreate", "()LSpaceHouse$Channel;", prog_10_method_4_code, 2, (Option.some (FieldType.object "SpaceHouse$Channel")), 1, 1),
  (1, "creating", "(IJI)LSpaceHouse$Bytes;", prog_8_method_12_code, 5, (Option.some (FieldType.object "SpaceHouse$Bytes")), 1, 4),
  (1, "writing", "(IJLSpaceHouse$Bytes;II)LSpaceHouse$Bytes;", prog_8_method_14_code, 7, (Option.some (FieldType.object "SpaceHouse$Bytes")), 1, 6),
  (14, "mkdir", "(LSpaceHouse$Process;LSpaceHouse$Command;)I", prog_5_method_11_code, 4, (Option.some FieldType.int), 1, 3),
  (14, "create", "(LSpaceHouse$Process;LSpaceHouse$Command;)I", prog_5_method_12_code, 6, (Option.some FieldType.int), 1, 3),
  (16, "octal", "(I)I", prog_4_method_10_code, 2, (Option.some FieldType.int), 1, 2),
  (16, "numberOf", "(III)I", prog_4_method_9_code, 8, (Option.some FieldType.int), 1, 4),
  (16, "digit", "(I)I", prog_4_method_12_code, 2, (Option.some FieldType.int), 1, 2),
  (6, "spareDescriptor", "()I", prog_11_method_7_code, 2, (Option.some FieldType.int), 1, 1),
  (14, "settle", "(LSpaceHouse$Process;)V", prog_5_method_14_code, 4, (Option.none : Option FieldType), 1, 2),
  (1, "spareOpening", "()LSpaceHouse$Channel;", prog_8_method_26_code, 2, (Option.some (FieldType.object "SpaceHouse$Channel")), 1, 1),
  (6, "setOpening", "(ILSpaceHouse$Channel;)V", prog_11_method_6_code, 3, (Option.none : Option FieldType), 1, 3),
  (14, "rm", "(LSpaceHouse$Process;LSpaceHouse$Command;)I", prog_5_method_15_code, 4, (Option.some FieldType.int), 1, 3),
  (14, "mv", "(LSpaceHouse$Process;LSpaceHouse$Command;)I", prog_5_method_16_code, 4, (Option.some FieldType.int), 1, 3),
  (1, "telling", "(IJJLSpaceHouse$Bytes;II)LSpaceHouse$Bytes;", prog_8_method_15_code, 10, (Option.some (FieldType.object "SpaceHouse$Bytes")), 1, 7),
  (14, "size", "(LSpaceHouse$Process;LSpaceHouse$Command;)I", prog_5_method_17_code, 5, (Option.some FieldType.int), 1, 3)]
def hMs_4 : List (Nat × String × String × ByteArray × Nat × Option FieldType × Nat × Nat) := [(16, "decimal", "(I)I", prog_4_method_11_code, 2, (Option.some FieldType.int), 1, 2),
  (14, "chmod", "(LSpaceHouse$Process;LSpaceHouse$Command;)I", prog_5_method_18_code, 7, (Option.some FieldType.int), 1, 3),
  (14, "stat", "(LSpaceHouse$Process;LSpaceHouse$Command;)I", prog_5_method_19_code, 4, (Option.some FieldType.int), 1, 3),
  (14, "tellStat", "(LSpaceHouse$Bytes;)V", prog_5_method_20_code, 6, (Option.none : Option FieldType), 1, 2),
  (14, "open", "(LSpaceHouse$Process;LSpaceHouse$Command;)I", prog_5_method_13_code, 5, (Option.some FieldType.int), 1, 3),
  (14, "read", "(LSpaceHouse$Process;LSpaceHouse$Command;)I", prog_5_method_21_code, 8, (Option.some FieldType.int), 1, 3),
  (6, "openingOf", "(I)LSpaceHouse$Channel;", prog_11_method_5_code, 2, (Option.some (FieldType.object "SpaceHouse$Channel")), 1, 2),
  (14, "write", "(LSpaceHouse$Process;LSpaceHouse$Command;)I", prog_5_method_22_code, 6, (Option.some FieldType.int), 1, 3),
  (14, "seek", "(LSpaceHouse$Process;LSpaceHouse$Command;)I", prog_5_method_23_code, 6, (Option.some FieldType.int), 1, 3),
  (14, "close", "(LSpaceHouse$Process;LSpaceHouse$Command;)I", prog_5_method_24_code, 4, (Option.some FieldType.int), 1, 3),
  (1, "close", "(LSpaceHouse$Process;I)V", prog_8_method_30_code, 4, (Option.none : Option FieldType), 1, 3),
  (14, "bind", "(LSpaceHouse$Process;LSpaceHouse$Command;)I", prog_5_method_25_code, 5, (Option.some FieldType.int), 1, 3),
  (16, "flags", "(I)I", prog_4_method_14_code, 7, (Option.some FieldType.int), 1, 2),
  (14, "reachTwo", "(LSpaceHouse$Process;LSpaceHouse$Command;)I", prog_5_method_27_code, 4, (Option.some FieldType.int), 1, 3),
  (14, "place", "(LSpaceHouse$Group;I)I", prog_5_method_28_code, 10, (Option.some FieldType.int), 1, 3),
  (14, "placeRefusal", "(LSpaceHouse$Group;LSpaceHouse$Point;LSpaceHouse$Point;I)I", prog_5_method_29_code, 8, (Option.some FieldType.int), 1, 5),
  (14, "gather", "(LSpaceHouse$Point;Z)I", prog_5_method_30_code, 6, (Option.some FieldType.int), 1, 3),
  (3, "add", "(II)LSpaceHouse$Point;", prog_7_method_4_code, 4, (Option.some (FieldType.object "SpaceHouse$Point")), 1, 3),
  (1, "clunkMembers", "(LSpaceHouse$Point;)V", prog_8_method_31_code, 4, (Option.none : Option FieldType), 1, 2),
  (4, "insert", "(ILSpaceHouse$Channel;IZ)V", prog_10_method_3_code, 7, (Option.none : Option FieldType), 1, 5),
  (14, "mount", "(LSpaceHouse$Process;LSpaceHouse$Command;)I", prog_5_method_26_code, 6, (Option.some FieldType.int), 1, 3),
  (14, "unmount", "(LSpaceHouse$Process;LSpaceHouse$Command;)I", prog_5_method_31_code, 5, (Option.some FieldType.int), 1, 3),
  (14, "unmountOne", "(LSpaceHouse$Group;)I", prog_5_method_32_code, 5, (Option.some FieldType.int), 1, 2),
  (4, "remove", "(I)V", prog_10_method_5_code, 4, (Option.none : Option FieldType), 1, 2),
  (3, "remove", "(LSpaceHouse$Point;)V", prog_7_method_5_code, 4, (Option.none : Option FieldType), 1, 2),
  (14, "fork", "(LSpaceHouse$Process;LSpaceHouse$Command;)I", prog_5_method_33_code, 10, (Option.some FieldType.int), 1, 3),
  (1, "spareProcess", "()LSpaceHouse$Process;", prog_8_method_24_code, 2, (Option.some (FieldType.object "SpaceHouse$Process")), 1, 1),
  (1, "spareGroup", "()LSpaceHouse$Group;", prog_8_method_25_code, 2, (Option.some (FieldType.object "SpaceHouse$Group")), 1, 1),
  (1, "copyGroup", "(LSpaceHouse$Group;LSpaceHouse$Group;)I", prog_8_method_32_code, 9, (Option.some FieldType.int), 1, 3),
  (3, "pointOf", "(I)LSpaceHouse$Point;", prog_7_method_2_code, 2, (Option.some (FieldType.object "SpaceHouse$Point")), 1, 2),
  (1, "clunkBack", "(LSpaceHouse$Point;)V", prog_8_method_33_code, 4, (Option.none : Option FieldType), 1, 2),
  (6, "begin", "(IILSpaceHouse$Group;)V", prog_11_method_2_code, 5, (Option.none : Option FieldType), 1, 4),
  (6, "follow", "(LSpaceHouse$Process;)V", prog_11_method_3_code, 3, (Option.none : Option FieldType), 1, 2),
  (7, "show", "(LSpaceHouse$Process;)V", prog_12_method_41_code, 6, (Option.none : Option FieldType), 1, 2),
  (14, "exit", "(LSpaceHouse$Process;LSpaceHouse$Command;)I", prog_5_method_34_code, 3, (Option.some FieldType.int), 1, 3),
  (14, "set", "(LSpaceHouse$Process;LSpaceHouse$Command;)I", prog_5_method_35_code, 4, (Option.some FieldType.int), 1, 3),
  (15, "choose", "(LSpaceHouse$Command;)I", prog_13_method_12_code, 3, (Option.some FieldType.int), 1, 2),
  (16, "areAlike", "(II)Z", prog_4_method_7_code, 6, (Option.some FieldType.boolean), 1, 3),
  (15, "repeat", "(LSpaceHouse$Command;)I", prog_13_method_13_code, 3, (Option.some FieldType.int), 1, 2),
  (14, "run", "(LSpaceHouse$Process;LSpaceHouse$Command;)I", prog_5_method_36_code, 4, (Option.some FieldType.int), 1, 3)]
def hMs_5 : List (Nat × String × String × ByteArray × Nat × Option FieldType × Nat × Nat) := [(1, "letGo", "()V", prog_8_method_28_code, 2, (Option.none : Option FieldType), 1, 1),
  (1, "end", "(LSpaceHouse$Process;)V", prog_8_method_29_code, 3, (Option.none : Option FieldType), 1, 2),
  (7, "hide", "(LSpaceHouse$Process;)V", prog_12_method_42_code, 3, (Option.none : Option FieldType), 1, 2),
  (15, "error", "()I", prog_13_method_4_code, 1, (Option.some FieldType.int), 1, 1),
  (0, "login", "(I)I", prog_1_method_4_code, 2, (Option.some FieldType.int), 1, 2),
  (1, "admit", "(I)I", prog_8_method_27_code, 4, (Option.some FieldType.int), 1, 2),
  (0, "out", "(II)I", prog_1_method_5_code, 4, (Option.some FieldType.int), 1, 3),
  (0, "wipe", "(I)I", prog_1_method_6_code, 4, (Option.some FieldType.int), 1, 2),
  (0, "input", "(I)I", prog_1_method_7_code, 2, (Option.some FieldType.int), 1, 2),
  (0, "append", "(LSpaceHouse$Bytes;I)I", prog_1_method_13_code, 2, (Option.some FieldType.int), 0, 2),
  (0, "console", "(I)I", prog_1_method_8_code, 2, (Option.some FieldType.int), 1, 2),
  (0, "messages", "()I", prog_1_method_9_code, 1, (Option.some FieldType.int), 1, 1),
  (0, "message", "(II)I", prog_1_method_10_code, 4, (Option.some FieldType.int), 1, 3),
  (1, "kept", "(I)LSpaceHouse$Bytes;", prog_8_method_5_code, 2, (Option.some (FieldType.object "SpaceHouse$Bytes")), 1, 2),
  (0, "sum", "()J", prog_1_method_11_code, 1, (Option.some FieldType.long), 1, 1),
  (0, "feed", "(I)I", prog_1_method_12_code, 2, (Option.some FieldType.int), 1, 2),
  (0, "ask", "(I)I", prog_1_method_14_code, 2, (Option.some FieldType.int), 1, 2),
  (0, "answer", "(I)I", prog_1_method_15_code, 2, (Option.some FieldType.int), 1, 2),
  (0, "process", "(II)I", prog_1_method_16_code, 5, (Option.some FieldType.int), 1, 3),
  (0, "variable", "(III)I", prog_1_method_17_code, 6, (Option.some FieldType.int), 1, 4),
  (0, "dot", "(II)I", prog_1_method_18_code, 4, (Option.some FieldType.int), 1, 3),
  (0, "point", "(III)I", prog_1_method_19_code, 6, (Option.some FieldType.int), 1, 4),
  (0, "member", "(IIII)I", prog_1_method_20_code, 8, (Option.some FieldType.int), 1, 5),
  (0, "descriptor", "(III)I", prog_1_method_21_code, 6, (Option.some FieldType.int), 1, 4),
  (0, "server", "(II)I", prog_1_method_22_code, 4, (Option.some FieldType.int), 1, 3),
  (7, "fidCount", "(I)I", prog_12_method_2_code, 4, (Option.some FieldType.int), 1, 2),
  (0, "fid", "(III)I", prog_1_method_23_code, 5, (Option.some FieldType.int), 1, 4),
  (17, "<init>", "()V", prog_15_method_1_code, 3, (Option.none : Option FieldType), 2, 1),
  (17, "begin", "(II)V", prog_15_method_76_code, 3, (Option.none : Option FieldType), 1, 3),
  (17, "askPut", "(IJ)V", prog_15_method_77_code, 5, (Option.none : Option FieldType), 1, 3),
  (17, "askWord", "(JI)V", prog_15_method_78_code, 5, (Option.none : Option FieldType), 1, 3),
  (17, "transact", "(I)I", prog_15_method_80_code, 3, (Option.some FieldType.int), 1, 2),
  (17, "keepByte", "(II)V", prog_15_method_79_code, 3, (Option.none : Option FieldType), 1, 3),
  (17, "serve", "(II)V", prog_15_method_44_code, 4, (Option.none : Option FieldType), 1, 3),
  (17, "number", "(I)J", prog_15_method_7_code, 5, (Option.some FieldType.long), 1, 2),
  (17, "refuse", "(I)V", prog_15_method_6_code, 3, (Option.none : Option FieldType), 1, 2),
  (17, "reply", "(I)V", prog_15_method_4_code, 2, (Option.none : Option FieldType), 1, 2),
  (17, "put", "(IJ)V", prog_15_method_3_code, 5, (Option.none : Option FieldType), 1, 3),
  (17, "serveFirst", "(III)V", prog_15_method_46_code, 4, (Option.none : Option FieldType), 1, 4),
  (17, "serveVersion", "(II)V", prog_15_method_48_code, 7, (Option.none : Option FieldType), 1, 3)]
def hMs_6 : List (Nat × String × String × ByteArray × Nat × Option FieldType × Nat × Nat) := [(17, "string", "()V", prog_15_method_8_code, 2, (Option.none : Option FieldType), 1, 1),
  (17, "isWhole", "()Z", prog_15_method_45_code, 1, (Option.some FieldType.boolean), 1, 1),
  (17, "leastFid", "(II)I", prog_15_method_49_code, 5, (Option.some FieldType.int), 1, 3),
  (17, "base", "(II)I", prog_15_method_34_code, 2, (Option.some FieldType.int), 0, 2),
  (17, "clunk", "(II)V", prog_15_method_39_code, 4, (Option.none : Option FieldType), 1, 3),
  (17, "removal", "(III)I", prog_15_method_28_code, 4, (Option.some FieldType.int), 1, 4),
  (17, "aboveOf", "(II)I", prog_15_method_18_code, 3, (Option.some FieldType.int), 1, 3),
  (17, "place", "(II)I", prog_15_method_9_code, 2, (Option.some FieldType.int), 0, 2),
  (17, "may", "(IIII)Z", prog_15_method_26_code, 7, (Option.some FieldType.boolean), 1, 5),
  (17, "modeOf", "(II)I", prog_15_method_10_code, 3, (Option.some FieldType.int), 1, 3),
  (17, "uidOf", "(II)I", prog_15_method_12_code, 3, (Option.some FieldType.int), 1, 3),
  (17, "gidOf", "(II)I", prog_15_method_13_code, 3, (Option.some FieldType.int), 1, 3),
  (17, "isDirectory", "(II)Z", prog_15_method_11_code, 3, (Option.some FieldType.boolean), 1, 3),
  (17, "entry", "(III)I", prog_15_method_23_code, 10, (Option.some FieldType.int), 1, 4),
  (17, "remove", "(III)V", prog_15_method_29_code, 6, (Option.none : Option FieldType), 1, 4),
  (17, "grow", "(III)V", prog_15_method_27_code, 4, (Option.none : Option FieldType), 1, 4),
  (17, "isPacked", "(IJI)Z", prog_15_method_50_code, 7, (Option.some FieldType.boolean), 1, 4),
  (17, "putPacked", "(JI)V", prog_15_method_51_code, 5, (Option.none : Option FieldType), 1, 3),
  (17, "serveAttach", "(II)V", prog_15_method_53_code, 10, (Option.none : Option FieldType), 1, 3),
  (17, "userNamed", "(II)I", prog_15_method_52_code, 6, (Option.some FieldType.int), 1, 3),
  (17, "freeFid", "(II)I", prog_15_method_36_code, 4, (Option.some FieldType.int), 1, 3),
  (17, "findFid", "(IIJ)I", prog_15_method_35_code, 6, (Option.some FieldType.int), 1, 4),
  (17, "makeFid", "(IJII)V", prog_15_method_37_code, 6, (Option.none : Option FieldType), 1, 5),
  (17, "pathNumber", "(II)I", prog_15_method_15_code, 3, (Option.some FieldType.int), 1, 3),
  (17, "putQid", "(II)V", prog_15_method_40_code, 4, (Option.none : Option FieldType), 1, 3),
  (17, "versionOf", "(II)I", prog_15_method_16_code, 3, (Option.some FieldType.int), 1, 3),
  (17, "serveWalk", "(II)V", prog_15_method_54_code, 16, (Option.none : Option FieldType), 1, 3),
  (17, "step", "(IIII)I", prog_15_method_55_code, 6, (Option.some FieldType.int), 1, 5),
  (17, "find", "(IIII)I", prog_15_method_25_code, 7, (Option.some FieldType.int), 1, 5),
  (17, "isNamed", "(IIII)Z", prog_15_method_24_code, 7, (Option.some FieldType.boolean), 1, 5),
  (17, "nameSize", "(II)I", prog_15_method_21_code, 3, (Option.some FieldType.int), 1, 3),
  (17, "nameOf", "(I)J", prog_15_method_19_code, 1, (Option.some FieldType.long), 0, 1),
  (17, "sizeOf", "(J)I", prog_15_method_20_code, 3, (Option.some FieldType.int), 0, 1),
  (17, "nameByte", "(III)I", prog_15_method_22_code, 4, (Option.some FieldType.int), 1, 4),
  (17, "serveOpen", "(II)V", prog_15_method_58_code, 9, (Option.none : Option FieldType), 1, 3),
  (17, "opening", "(IIII)I", prog_15_method_56_code, 10, (Option.some FieldType.int), 1, 5),
  (17, "resize", "(III)V", prog_15_method_30_code, 6, (Option.none : Option FieldType), 1, 4),
  (17, "open", "(II)V", prog_15_method_57_code, 3, (Option.none : Option FieldType), 1, 3),
  (17, "serveMore", "(III)V", prog_15_method_47_code, 4, (Option.none : Option FieldType), 1, 4),
  (17, "serveCreate", "(II)V", prog_15_method_60_code, 17, (Option.none : Option FieldType), 1, 3)]
def hMs_7 : List (Nat × String × String × ByteArray × Nat × Option FieldType × Nat × Nat) := [(17, "creation", "(IIJI)I", prog_15_method_59_code, 11, (Option.some FieldType.int), 1, 5),
  (17, "isName", "(II)Z", prog_15_method_32_code, 5, (Option.some FieldType.boolean), 1, 3),
  (17, "in", "(JJJ)Z", prog_15_method_2_code, 6, (Option.some FieldType.boolean), 0, 3),
  (17, "isNameSign", "(I)Z", prog_15_method_31_code, 1, (Option.some FieldType.boolean), 0, 1),
  (17, "setName", "(IIII)V", prog_15_method_33_code, 7, (Option.none : Option FieldType), 1, 5),
  (17, "serveRead", "(II)V", prog_15_method_61_code, 12, (Option.none : Option FieldType), 1, 3),
  (17, "readEntries", "(IIJI)V", prog_15_method_62_code, 9, (Option.none : Option FieldType), 1, 5),
  (17, "statSize", "(II)I", prog_15_method_42_code, 3, (Option.some FieldType.int), 1, 3),
  (17, "putStat", "(II)V", prog_15_method_43_code, 4, (Option.none : Option FieldType), 1, 3),
  (17, "lengthOf", "(II)I", prog_15_method_17_code, 3, (Option.some FieldType.int), 1, 3),
  (17, "putUser", "(I)V", prog_15_method_41_code, 3, (Option.none : Option FieldType), 1, 2),
  (17, "muidOf", "(II)I", prog_15_method_14_code, 3, (Option.some FieldType.int), 1, 3),
  (17, "readFile", "(IIJI)V", prog_15_method_63_code, 8, (Option.none : Option FieldType), 1, 5),
  (17, "readConsole", "(I)V", prog_15_method_64_code, 4, (Option.none : Option FieldType), 1, 2),
  (17, "readStatus", "(IJI)V", prog_15_method_66_code, 6, (Option.none : Option FieldType), 1, 4),
  (17, "statusByte", "(II)I", prog_15_method_65_code, 5, (Option.some FieldType.int), 1, 3),
  (17, "descriptorsOf", "(I)I", prog_15_method_67_code, 4, (Option.some FieldType.int), 1, 2),
  (17, "serveWrite", "(II)V", prog_15_method_68_code, 15, (Option.none : Option FieldType), 1, 3),
  (17, "writing", "(IIJI)I", prog_15_method_70_code, 10, (Option.some FieldType.int), 1, 5),
  (17, "isKill", "(II)Z", prog_15_method_69_code, 3, (Option.some FieldType.boolean), 1, 3),
  (17, "writeFile", "(IIJII)V", prog_15_method_71_code, 11, (Option.none : Option FieldType), 1, 6),
  (17, "serveOne", "(III)V", prog_15_method_72_code, 8, (Option.none : Option FieldType), 1, 4),
  (17, "serveWstat", "(II)V", prog_15_method_73_code, 15, (Option.none : Option FieldType), 1, 3),
  (17, "change", "(IIIJJ)I", prog_15_method_74_code, 11, (Option.some FieldType.int), 1, 6),
  (17, "doChange", "(IIIJJ)V", prog_15_method_75_code, 9, (Option.none : Option FieldType), 1, 6),
  (17, "finish", "()V", prog_15_method_5_code, 2, (Option.none : Option FieldType), 1, 1),
  (17, "type", "(JI)I", prog_15_method_175_code, 5, (Option.some FieldType.int), 1, 3),
  (17, "enter", "(I)I", prog_15_method_177_code, 3, (Option.some FieldType.int), 1, 2),
  (17, "hasProcess", "(I)Z", prog_15_method_176_code, 2, (Option.some FieldType.boolean), 1, 2),
  (17, "perform", "(I)I", prog_15_method_165_code, 3, (Option.some FieldType.int), 1, 2),
  (17, "begin", "(IZ)I", prog_15_method_162_code, 7, (Option.some FieldType.int), 1, 3),
  (17, "addArgument", "(I)Z", prog_15_method_160_code, 8, (Option.some FieldType.boolean), 1, 2),
  (17, "add", "(I)Z", prog_15_method_159_code, 2, (Option.some FieldType.boolean), 1, 2),
  (17, "addVariable", "(II)Z", prog_15_method_161_code, 5, (Option.some FieldType.boolean), 1, 3),
  (17, "load", "()V", prog_15_method_163_code, 2, (Option.none : Option FieldType), 1, 1),
  (17, "split", "()V", prog_15_method_110_code, 2, (Option.none : Option FieldType), 1, 1),
  (17, "first", "(I)I", prog_15_method_166_code, 5, (Option.some FieldType.int), 1, 2),
  (17, "packed", "(I)J", prog_15_method_113_code, 5, (Option.some FieldType.long), 1, 2),
  (17, "size", "(I)I", prog_15_method_111_code, 2, (Option.some FieldType.int), 1, 2),
  (17, "sign", "(II)I", prog_15_method_112_code, 3, (Option.some FieldType.int), 1, 3)]
def hMs_8 : List (Nat × String × String × ByteArray × Nat × Option FieldType × Nat × Nat) := [(17, "choose", "(I)I", prog_15_method_168_code, 5, (Option.some FieldType.int), 1, 2),
  (17, "isAlike", "(II)Z", prog_15_method_167_code, 5, (Option.some FieldType.boolean), 1, 3),
  (17, "join", "(I)V", prog_15_method_164_code, 4, (Option.none : Option FieldType), 1, 2),
  (17, "repeat", "()I", prog_15_method_170_code, 3, (Option.some FieldType.int), 1, 1),
  (17, "placeOfDo", "()I", prog_15_method_169_code, 2, (Option.some FieldType.int), 1, 1),
  (17, "script", "(I)I", prog_15_method_171_code, 3, (Option.some FieldType.int), 1, 2),
  (17, "cat", "(II)I", prog_15_method_120_code, 9, (Option.some FieldType.int), 1, 3),
  (17, "walkWord", "(IIZ)I", prog_15_method_106_code, 5, (Option.some FieldType.int), 1, 4),
  (17, "parse", "(II)I", prog_15_method_92_code, 7, (Option.some FieldType.int), 1, 3),
  (17, "rawAt", "(I)I", prog_15_method_91_code, 2, (Option.some FieldType.int), 1, 2),
  (17, "cut", "(I)V", prog_15_method_93_code, 6, (Option.none : Option FieldType), 1, 2),
  (17, "lay", "(I)Z", prog_15_method_94_code, 5, (Option.some FieldType.boolean), 1, 2),
  (17, "walk", "(IIZ)I", prog_15_method_104_code, 9, (Option.some FieldType.int), 1, 4),
  (17, "copy", "(IIII)I", prog_15_method_103_code, 7, (Option.some FieldType.int), 1, 5),
  (17, "newFid", "(I)I", prog_15_method_81_code, 3, (Option.some FieldType.int), 1, 2),
  (17, "askCopy", "(III)I", prog_15_method_83_code, 4, (Option.some FieldType.int), 1, 4),
  (17, "hold", "(IIII)V", prog_15_method_95_code, 5, (Option.none : Option FieldType), 1, 5),
  (17, "attach", "(II)I", prog_15_method_102_code, 5, (Option.some FieldType.int), 1, 3),
  (17, "askAttach", "(III)I", prog_15_method_82_code, 5, (Option.some FieldType.int), 1, 4),
  (17, "told", "(II)J", prog_15_method_90_code, 6, (Option.some FieldType.long), 1, 3),
  (17, "pointOf", "(III)I", prog_15_method_99_code, 6, (Option.some FieldType.int), 1, 4),
  (17, "stepFrom", "(III)I", prog_15_method_100_code, 6, (Option.some FieldType.int), 1, 4),
  (17, "askWalk", "(IIII)I", prog_15_method_85_code, 5, (Option.some FieldType.int), 1, 5),
  (17, "askRaw", "(II)V", prog_15_method_84_code, 4, (Option.none : Option FieldType), 1, 3),
  (17, "drop", "()V", prog_15_method_96_code, 1, (Option.none : Option FieldType), 1, 1),
  (17, "askOne", "(III)I", prog_15_method_88_code, 4, (Option.some FieldType.int), 1, 4),
  (17, "dropBelow", "()V", prog_15_method_101_code, 2, (Option.none : Option FieldType), 1, 1),
  (17, "goThrough", "(I)I", prog_15_method_105_code, 6, (Option.some FieldType.int), 1, 2),
  (17, "isDirectoryHeld", "(I)Z", prog_15_method_98_code, 2, (Option.some FieldType.boolean), 1, 2),
  (17, "askOpen", "(III)I", prog_15_method_86_code, 4, (Option.some FieldType.int), 1, 4),
  (17, "askRead", "(IIII)I", prog_15_method_87_code, 5, (Option.some FieldType.int), 1, 5),
  (17, "tell", "(II)V", prog_15_method_108_code, 3, (Option.none : Option FieldType), 1, 3),
  (17, "dropAll", "()V", prog_15_method_97_code, 1, (Option.none : Option FieldType), 1, 1),
  (17, "command", "(I)I", prog_15_method_116_code, 4, (Option.some FieldType.int), 1, 2),
  (17, "echo", "(I)I", prog_15_method_123_code, 10, (Option.some FieldType.int), 1, 2),
  (17, "create", "(IIJI)I", prog_15_method_107_code, 10, (Option.some FieldType.int), 1, 5),
  (17, "beginWrite", "(IJI)V", prog_15_method_124_code, 5, (Option.none : Option FieldType), 1, 4),
  (17, "putWord", "(I)V", prog_15_method_125_code, 3, (Option.none : Option FieldType), 1, 2),
  (17, "bindWords", "(IZ)I", prog_15_method_140_code, 17, (Option.some FieldType.int), 1, 3),
  (17, "digit", "(II)I", prog_15_method_115_code, 3, (Option.some FieldType.int), 1, 3)]
def hMs_9 : List (Nat × String × String × ByteArray × Nat × Option FieldType × Nat × Nat) := [(17, "areFlags", "()Z", prog_15_method_139_code, 3, (Option.some FieldType.boolean), 1, 1),
  (17, "isFlag", "(I)Z", prog_15_method_137_code, 1, (Option.some FieldType.boolean), 0, 1),
  (17, "isFlagged", "(I)Z", prog_15_method_138_code, 4, (Option.some FieldType.boolean), 1, 2),
  (17, "join", "(IIIZZZ)V", prog_15_method_144_code, 12, (Option.none : Option FieldType), 1, 7),
  (17, "addHeld", "(IZ)V", prog_15_method_141_code, 3, (Option.none : Option FieldType), 1, 3),
  (17, "addOld", "(I)V", prog_15_method_143_code, 4, (Option.none : Option FieldType), 1, 2),
  (17, "addNews", "(IZ)V", prog_15_method_142_code, 4, (Option.none : Option FieldType), 1, 3),
  (17, "dropMembers", "(I)V", prog_15_method_145_code, 3, (Option.none : Option FieldType), 1, 2),
  (17, "unmount", "(I)I", prog_15_method_148_code, 10, (Option.some FieldType.int), 1, 2),
  (17, "removePoint", "(II)V", prog_15_method_147_code, 5, (Option.none : Option FieldType), 1, 3),
  (17, "moveMember", "(II)V", prog_15_method_146_code, 3, (Option.none : Option FieldType), 1, 3),
  (17, "set", "(I)I", prog_15_method_157_code, 3, (Option.some FieldType.int), 1, 2),
  (17, "assign", "(III)V", prog_15_method_158_code, 6, (Option.none : Option FieldType), 1, 4),
  (17, "commandOne", "(IJ)I", prog_15_method_117_code, 5, (Option.some FieldType.int), 1, 3),
  (17, "cd", "(I)I", prog_15_method_119_code, 4, (Option.some FieldType.int), 1, 2),
  (17, "ls", "(I)I", prog_15_method_121_code, 6, (Option.some FieldType.int), 1, 2),
  (17, "list", "(I)I", prog_15_method_122_code, 10, (Option.some FieldType.int), 1, 2),
  (17, "rm", "(I)I", prog_15_method_126_code, 3, (Option.some FieldType.int), 1, 2),
  (17, "stat", "(I)I", prog_15_method_128_code, 15, (Option.some FieldType.int), 1, 2),
  (17, "tellNumber", "(IJ)V", prog_15_method_109_code, 6, (Option.none : Option FieldType), 1, 3),
  (17, "close", "(II)I", prog_15_method_136_code, 4, (Option.some FieldType.int), 1, 3),
  (17, "usersOf", "(I)I", prog_15_method_135_code, 4, (Option.some FieldType.int), 1, 2),
  (17, "fork", "(I)I", prog_15_method_153_code, 9, (Option.some FieldType.int), 1, 2),
  (17, "freeProcess", "()I", prog_15_method_149_code, 2, (Option.some FieldType.int), 1, 1),
  (17, "freeGroup", "()I", prog_15_method_151_code, 2, (Option.some FieldType.int), 1, 1),
  (17, "processesOf", "(I)I", prog_15_method_150_code, 4, (Option.some FieldType.int), 1, 2),
  (17, "start", "(IIII)V", prog_15_method_152_code, 6, (Option.none : Option FieldType), 1, 5),
  (17, "copyGroup", "(II)V", prog_15_method_154_code, 8, (Option.none : Option FieldType), 1, 3),
  (17, "commandTwo", "(IJ)I", prog_15_method_118_code, 7, (Option.some FieldType.int), 1, 3),
  (17, "askWstat", "(IIIIJJ)I", prog_15_method_89_code, 11, (Option.some FieldType.int), 1, 7),
  (17, "numberOf", "(III)I", prog_15_method_114_code, 7, (Option.some FieldType.int), 1, 4),
  (17, "chmod", "(I)I", prog_15_method_127_code, 5, (Option.some FieldType.int), 1, 2),
  (17, "openWords", "(I)I", prog_15_method_131_code, 4, (Option.some FieldType.int), 1, 2),
  (17, "freeDescriptor", "(I)I", prog_15_method_129_code, 3, (Option.some FieldType.int), 1, 2),
  (17, "keep", "(I)V", prog_15_method_130_code, 4, (Option.none : Option FieldType), 1, 2),
  (17, "readWords", "(I)I", prog_15_method_133_code, 8, (Option.some FieldType.int), 1, 2),
  (17, "writeWords", "(I)I", prog_15_method_134_code, 5, (Option.some FieldType.int), 1, 2),
  (17, "createWords", "(I)I", prog_15_method_132_code, 5, (Option.some FieldType.int), 1, 2),
  (17, "next", "(I)I", prog_15_method_172_code, 5, (Option.some FieldType.int), 1, 2),
  (17, "returned", "(II)I", prog_15_method_174_code, 3, (Option.some FieldType.int), 1, 3)]
def hMs_10 : List (Nat × String × String × ByteArray × Nat × Option FieldType × Nat × Nat) := [(17, "nextLine", "(I)I", prog_15_method_173_code, 7, (Option.some FieldType.int), 1, 2),
  (17, "endAll", "()V", prog_15_method_156_code, 2, (Option.none : Option FieldType), 1, 1),
  (17, "end", "(I)V", prog_15_method_155_code, 4, (Option.none : Option FieldType), 1, 2),
  (17, "login", "(I)I", prog_15_method_178_code, 4, (Option.some FieldType.int), 1, 2),
  (17, "out", "(II)I", prog_15_method_179_code, 3, (Option.some FieldType.int), 1, 3),
  (17, "wipe", "(I)I", prog_15_method_180_code, 3, (Option.some FieldType.int), 1, 2),
  (17, "input", "(I)I", prog_15_method_181_code, 2, (Option.some FieldType.int), 1, 2),
  (17, "console", "(I)I", prog_15_method_182_code, 2, (Option.some FieldType.int), 1, 2),
  (17, "messages", "()I", prog_15_method_183_code, 1, (Option.some FieldType.int), 1, 1),
  (17, "message", "(II)I", prog_15_method_184_code, 4, (Option.some FieldType.int), 1, 3),
  (17, "sum", "()J", prog_15_method_185_code, 1, (Option.some FieldType.long), 1, 1),
  (17, "feed", "(I)I", prog_15_method_186_code, 2, (Option.some FieldType.int), 1, 2),
  (17, "ask", "(I)I", prog_15_method_187_code, 3, (Option.some FieldType.int), 1, 2),
  (17, "answer", "(I)I", prog_15_method_188_code, 2, (Option.some FieldType.int), 1, 2),
  (17, "process", "(II)I", prog_15_method_189_code, 3, (Option.some FieldType.int), 1, 3),
  (17, "variable", "(III)I", prog_15_method_190_code, 5, (Option.some FieldType.int), 1, 4),
  (17, "dot", "(II)I", prog_15_method_191_code, 3, (Option.some FieldType.int), 1, 3),
  (17, "point", "(III)I", prog_15_method_192_code, 5, (Option.some FieldType.int), 1, 4),
  (17, "member", "(IIII)I", prog_15_method_193_code, 7, (Option.some FieldType.int), 1, 5),
  (17, "descriptor", "(III)I", prog_15_method_194_code, 5, (Option.some FieldType.int), 1, 4),
  (17, "server", "(II)I", prog_15_method_195_code, 5, (Option.some FieldType.int), 1, 3),
  (17, "fidsOf", "(II)I", prog_15_method_38_code, 5, (Option.some FieldType.int), 1, 3),
  (17, "fid", "(III)I", prog_15_method_196_code, 5, (Option.some FieldType.int), 1, 4),
  (18, "law", "([I)Z", code, 4, (Option.some FieldType.boolean), 0, 1)]
def hMs : List (Nat × String × String × ByteArray × Nat × Option FieldType × Nat × Nat) := hMs_0 ++ (hMs_1 ++ (hMs_2 ++ (hMs_3 ++ (hMs_4 ++ (hMs_5 ++ (hMs_6 ++ (hMs_7 ++ (hMs_8 ++ (hMs_9 ++ (hMs_10))))))))))
def hM0 : Nat × String × String × ByteArray × Nat × Option FieldType × Nat × Nat := (0, "", "", ⟨#[]⟩, 0, none, 9, 0)
def hm (y : Nat) : Nat × String × String × ByteArray × Nat × Option FieldType × Nat × Nat := hMs.getD y hM0
def hmO (y : Nat) : Nat := (hm y).1
def hmY (y : Nat) : MethodName := ⟨hName (hm y).1, (hm y).2.1, (hm y).2.2.1⟩
def hmB (y : Nat) : ByteArray := (hm y).2.2.2.1
def hmL (y : Nat) : Nat := (hm y).2.2.2.2.1
def hmR (y : Nat) : Option FieldType := (hm y).2.2.2.2.2.1
def hmK (y : Nat) : Nat := (hm y).2.2.2.2.2.2.1
def hmN (y : Nat) : Nat := (hm y).2.2.2.2.2.2.2
def hNM : Nat := 423
def hMp : List (Nat × Nat × Nat × Nat) := [(247, 224, 246, 0), (255, 225, 254, 0), (261, 226, 260, 0), (284, 227, 283, 0), (291, 228, 290, 0), (297, 229, 296, 0), (391, 230, 390, 0), (521, 231, 520, 0), (532, 232, 531, 0), (588, 233, 587, 0), (633, 232, 631, 632), (638, 226, 636, 637), (642, 226, 640, 641), (646, 234, 644, 645), (650, 234, 648, 649), (656, 234, 654, 655), (660, 234, 658, 659), (663, 235, 662, 0), (666, 234, 665, 0), (671, 236, 670, 0), (734, 225, 732, 733), (739, 226, 737, 738), (743, 226, 741, 742), (750, 226, 748, 749), (754, 226, 752, 753), (758, 226, 756, 757), (762, 231, 760, 761), (766, 226, 764, 765), (770, 226, 768, 769), (774, 226, 772, 773), (778, 225, 776, 777), (783, 226, 781, 782), (787, 226, 785, 786), (791, 226, 789, 790), (798, 231, 796, 797), (802, 231, 801, 0), (806, 226, 804, 805), (810, 231, 809, 1), (814, 231, 813, 2), (818, 231, 816, 817), (822, 231, 821, 3), (827, 231, 826, 4), (831, 231, 830, 5), (835, 232, 833, 834), (839, 231, 838, 6), (843, 232, 841, 842), (847, 231, 846, 7), (854, 226, 852, 853), (860, 231, 859, 8), (865, 231, 864, 9), (872, 231, 871, 10), (876, 233, 874, 875), (880, 231, 879, 11), (884, 232, 882, 883), (890, 231, 889, 12), (894, 232, 892, 893), (898, 231, 897, 13), (902, 226, 900, 901), (906, 226, 904, 905), (911, 231, 910, 14), (915, 231, 914, 15), (921, 232, 919, 920), (925, 231, 924, 16), (929, 233, 927, 928), (933, 231, 932, 17), (937, 226, 935, 936), (940, 231, 939, 0), (945, 231, 944, 18), (950, 231, 949, 19), (954, 231, 953, 20), (957, 238, 956, 0), (962, 226, 960, 961), (965, 224, 964, 0), (970, 226, 968, 969), (974, 230, 972, 973), (978, 226, 976, 977), (984, 232, 982, 983), (989, 231, 988, 21), (994, 231, 993, 22), (998, 231, 997, 23), (1001, 238, 1000, 0), (1005, 231, 1004, 24), (1011, 231, 1010, 25), (1016, 231, 1015, 26), (1020, 231, 1019, 27), (1024, 231, 1023, 28), (1028, 231, 1027, 29), (1032, 226, 1030, 1031), (1036, 231, 1035, 30), (1040, 231, 1039, 31), (1043, 231, 1042, 0), (1047, 224, 1046, 0), (1069, 239, 1068, 0), (1098, 240, 1097, 0), (1107, 241, 1106, 0), (1196, 224, 1194, 1195), (1202, 224, 1200, 1201), (1206, 225, 1204, 1205), (1210, 240, 1208, 1209), (1218, 240, 1216, 1217), (1222, 240, 1220, 1221), (1226, 240, 1225, 32), (1230, 240, 1229, 33), (1234, 241, 1232, 1233), (1238, 241, 1236, 1237), (1243, 241, 1241, 1242), (1247, 241, 1245, 1246), (1251, 230, 1249, 1250), (1259, 241, 1257, 1258), (1265, 240, 1264, 34), (1270, 240, 1269, 35), (1274, 240, 1273, 36), (1280, 241, 1278, 1279), (1285, 240, 1283, 1284), (1289, 241, 1287, 1288), (1294, 241, 1292, 1293), (1323, 239, 1321, 1322), (1327, 225, 1325, 1326), (1331, 225, 1329, 1330), (1340, 225, 1339, 37), (1345, 225, 1344, 38), (1349, 225, 1347, 1348), (1353, 225, 1351, 1352), (1357, 225, 1355, 1356), (1361, 231, 1359, 1360), (1365, 225, 1364, 39), (1369, 225, 1368, 40), (1373, 225, 1371, 1372), (1380, 229, 1378, 1379), (1384, 227, 1382, 1383), (1388, 228, 1386, 1387), (1393, 225, 1391, 1392), (1397, 225, 1395, 1396), (1403, 239, 1401, 1402), (1407, 239, 1406, 41), (1411, 225, 1409, 1410), (1415, 239, 1414, 42), (1422, 225, 1420, 1421), (1428, 239, 1426, 1427), (1432, 239, 1431, 43), (1436, 239, 1435, 44), (1443, 225, 1441, 1442), (1447, 239, 1445, 1446), (1457, 239, 1456, 45), (1463, 228, 1461, 1462), (1467, 225, 1465, 1466), (1473, 225, 1471, 1472), (1477, 239, 1475, 1476), (1482, 239, 1480, 1481), (1486, 241, 1484, 1485), (1490, 241, 1489, 46), (1494, 241, 1492, 1493), (1498, 230, 1496, 1497), (1502, 239, 1501, 47), (1506, 225, 1504, 1505), (1511, 230, 1509, 1510), (1516, 239, 1514, 1515), (1520, 239, 1518, 1519), (1527, 225, 1525, 1526), (1532, 239, 1530, 1531), (1536, 241, 1534, 1535), (1540, 239, 1538, 1539), (1545, 239, 1543, 1544), (1549, 239, 1548, 48), (1555, 239, 1553, 1554), (1559, 239, 1557, 1558), (1563, 230, 1561, 1562), (1567, 239, 1565, 1566), (1571, 239, 1569, 1570), (1575, 239, 1573, 1574), (1579, 225, 1577, 1578), (1585, 239, 1583, 1584), (1589, 241, 1587, 1588), (1593, 239, 1592, 49), (1597, 239, 1596, 50), (1602, 239, 1601, 51), (1606, 239, 1605, 52), (1611, 227, 1609, 1610), (1615, 225, 1613, 1614), (1619, 228, 1617, 1618), (1624, 239, 1622, 1623), (1629, 239, 1627, 1628), (1633, 239, 1632, 53), (1637, 228, 1635, 1636), (1641, 227, 1639, 1640), (1645, 239, 1643, 1644), (1652, 225, 1650, 1651), (1656, 225, 1654, 1655), (1660, 225, 1658, 1659), (1664, 227, 1662, 1663), (1670, 225, 1669, 54), (1674, 230, 1672, 1673), (1680, 230, 1678, 1679), (1687, 231, 1685, 1686), (1694, 239, 1692, 1693), (1698, 239, 1696, 1697), (1705, 240, 1703, 1704), (1712, 241, 1710, 1711), (1716, 240, 1714, 1715), (1722, 239, 1720, 1721), (1727, 225, 1725, 1726), (1731, 225, 1730, 55), (1737, 231, 1735, 1736), (1741, 240, 1739, 1740), (1745, 224, 1743, 1744), (1749, 225, 1747, 1748), (1757, 224, 1755, 1756), (1762, 224, 1760, 1761), (1766, 224, 1764, 1765), (1769, 224, 1768, 0), (1774, 224, 1772, 1773), (1778, 224, 1776, 1777), (1782, 224, 1780, 1781), (1786, 225, 1784, 1785), (1790, 224, 1788, 1789), (1794, 224, 1792, 1793), (1798, 224, 1796, 1797), (1804, 224, 1802, 1803), (1808, 224, 1806, 1807), (1814, 224, 1812, 1813), (1818, 224, 1816, 1817), (1822, 224, 1820, 1821), (1827, 224, 1825, 1826), (1832, 224, 1830, 1831), (1837, 224, 1835, 1836), (1841, 231, 1839, 1840), (1846, 224, 1844, 1845), (1852, 242, 1851, 0), (1861, 242, 1860, 56), (1865, 242, 1864, 57), (1873, 242, 1872, 58), (1877, 242, 1876, 59), (1881, 242, 1880, 60), (1886, 242, 1885, 61), (1890, 242, 1889, 62), (1894, 242, 1893, 63), (1898, 242, 1897, 64), (1902, 242, 1901, 65), (1906, 242, 1905, 66), (1910, 242, 1909, 67), (1914, 242, 1913, 68), (1918, 242, 1917, 69), (1923, 242, 1922, 70), (1926, 242, 1925, 0), (1930, 242, 1929, 71), (1934, 242, 1933, 72), (1938, 242, 1937, 73), (1941, 242, 1940, 0), (1945, 242, 1944, 74), (1949, 242, 1948, 75), (1954, 242, 1953, 76), (1958, 242, 1957, 77), (1962, 242, 1961, 78), (1966, 242, 1965, 79), (1970, 242, 1969, 80), (1974, 242, 1973, 81), (1979, 242, 1978, 82), (1984, 242, 1983, 83), (1988, 242, 1987, 84), (1992, 242, 1991, 85), (1996, 242, 1995, 86), (2000, 242, 1999, 87), (2005, 242, 2004, 88), (2009, 242, 2008, 89), (2013, 242, 2012, 90), (2019, 242, 2018, 91), (2023, 242, 2022, 92), (2027, 242, 2026, 93), (2031, 242, 2030, 94), (2035, 242, 2034, 95), (2039, 242, 2038, 96), (2042, 242, 2041, 0), (2049, 242, 2048, 0), (2053, 242, 2052, 97), (2057, 242, 2056, 98), (2061, 242, 2060, 99), (2065, 242, 2064, 100), (2069, 242, 2068, 101), (2073, 242, 2072, 102), (2077, 242, 2076, 103), (2081, 242, 2080, 104), (2085, 242, 2084, 105), (2089, 242, 2088, 0), (2092, 242, 2091, 0), (2101, 242, 2100, 106), (2105, 242, 2104, 107), (2109, 242, 2108, 108), (2113, 242, 2112, 109), (2117, 242, 2116, 110), (2121, 242, 2120, 111), (2125, 242, 2124, 112), (2130, 242, 2129, 113), (2134, 242, 2133, 114), (2138, 242, 2137, 115), (2142, 242, 2141, 116), (2148, 242, 2147, 117), (2152, 242, 2151, 118), (2156, 242, 2155, 119), (2161, 242, 2160, 120), (2165, 242, 2164, 121), (2170, 242, 2169, 122), (2174, 242, 2173, 123), (2178, 242, 2177, 124), (2184, 242, 2183, 125), (2191, 242, 2190, 126), (2195, 242, 2194, 127), (2547, 242, 2545, 2546), (2551, 242, 2549, 2550), (2555, 242, 2554, 128), (2559, 242, 2558, 129), (2563, 242, 2562, 130), (2569, 242, 2568, 131), (2573, 242, 2572, 132), (2579, 242, 2578, 133), (2583, 242, 2582, 134), (2587, 242, 2586, 135), (2591, 242, 2590, 136), (2595, 242, 2594, 137), (2599, 242, 2598, 138), (2603, 242, 2602, 139), (2608, 242, 2607, 140), (2612, 242, 2611, 141), (2616, 242, 2615, 142), (2621, 242, 2620, 143), (2625, 242, 2624, 144), (2630, 242, 2629, 145), (2635, 242, 2634, 146), (2639, 242, 2638, 147), (2643, 242, 2642, 148), (2647, 242, 2646, 149), (2652, 242, 2651, 150), (2656, 242, 2655, 151), (2660, 242, 2659, 152), (2664, 242, 2663, 153), (2668, 242, 2667, 154), (2672, 242, 2671, 155), (2676, 242, 2675, 156), (2680, 242, 2679, 157), (2684, 242, 2683, 158), (2688, 242, 2687, 159), (2692, 242, 2691, 160), (2696, 242, 2695, 161), (2700, 242, 2699, 162), (2704, 242, 2703, 163), (2708, 242, 2707, 164), (2712, 242, 2711, 165), (2716, 242, 2715, 166), (2720, 242, 2719, 167), (2724, 242, 2723, 168), (2728, 242, 2727, 169), (2732, 242, 2731, 170), (2736, 242, 2735, 171), (2740, 242, 2739, 172), (2744, 242, 2743, 173), (2749, 242, 2748, 174), (2754, 242, 2753, 175), (2758, 242, 2757, 176), (2762, 242, 2761, 177), (2770, 242, 2769, 178), (2774, 242, 2773, 179), (2778, 242, 2777, 180), (2781, 242, 2780, 0), (2786, 242, 2785, 181), (2790, 242, 2789, 182), (2794, 242, 2793, 183), (2798, 242, 2797, 184), (2802, 242, 2801, 185), (2806, 242, 2805, 186), (2812, 242, 2811, 187), (2816, 242, 2815, 188), (2820, 242, 2819, 189), (2825, 242, 2824, 190), (2830, 242, 2829, 191), (2835, 242, 2834, 192), (2840, 242, 2839, 193), (2846, 242, 2845, 194), (2850, 242, 2849, 195), (2857, 242, 2856, 196), (2862, 242, 2861, 197), (2866, 242, 2865, 198), (2871, 242, 2870, 199), (2875, 242, 2874, 200), (2880, 242, 2879, 201), (2884, 242, 2883, 202), (2888, 242, 2887, 203), (2892, 242, 2891, 204), (2896, 242, 2895, 205), (2900, 242, 2899, 206), (2904, 242, 2903, 207), (2909, 242, 2908, 208), (2914, 242, 2913, 209), (2919, 242, 2918, 210), (2924, 242, 2923, 211), (2928, 242, 2927, 212), (2932, 242, 2931, 213), (2937, 242, 2936, 214), (2943, 242, 2942, 215), (2949, 242, 2948, 216), (2953, 242, 2952, 217), (2957, 242, 2956, 218), (2961, 242, 2960, 219), (2965, 242, 2964, 220), (2969, 242, 2968, 221), (2973, 242, 2971, 2972), (2977, 242, 2975, 2976), (2981, 242, 2979, 2980), (2985, 242, 2983, 2984), (2989, 242, 2987, 2988), (2993, 242, 2991, 2992), (2997, 242, 2995, 2996), (3001, 242, 2999, 3000), (3005, 242, 3003, 3004), (3009, 242, 3007, 3008), (3013, 242, 3011, 3012), (3017, 242, 3015, 3016), (3021, 242, 3019, 3020), (3025, 242, 3023, 3024), (3029, 242, 3027, 3028), (3033, 242, 3031, 3032), (3037, 242, 3035, 3036), (3041, 242, 3039, 3040), (3046, 242, 3045, 222), (3050, 242, 3048, 3049)]
def hLF : List (Nat × Nat × Nat × Nat × Nat × Nat × String) := [(2, 9, 2, 0, 0, 263, ""), (2, 15, 2, 1, 0, 264, ""), (5, 7, 5, 0, 0, 299, ""), (14, 38, 5, 0, 0, 300, ""), (4, 22, 5, 0, 0, 301, ""), (1, 155, 5, 0, 0, 302, ""), (0, 264, 5, 0, 0, 303, ""), (5, 13, 5, 1, 0, 304, ""), (14, 97, 5, 1, 0, 305, ""), (1, 158, 5, 1, 0, 306, ""), (0, 267, 5, 1, 0, 307, ""), (5, 16, 5, 2, 0, 308, ""), (4, 25, 5, 2, 0, 309, ""), (14, 222, 5, 2, 0, 310, ""), (1, 169, 5, 2, 0, 311, ""), (0, 270, 5, 2, 0, 312, ""), (5, 19, 5, 3, 0, 313, ""), (14, 70, 5, 3, 0, 314, ""), (4, 28, 5, 3, 0, 315, ""), (1, 172, 5, 3, 0, 316, ""), (5, 23, 5, 4, 0, 317, ""), (14, 120, 5, 4, 0, 318, ""), (1, 245, 5, 4, 0, 319, ""), (5, 27, 5, 5, 0, 320, ""), (4, 36, 5, 5, 0, 321, ""), (0, 271, 5, 5, 0, 322, ""), (14, 325, 5, 5, 0, 323, ""), (1, 315, 5, 5, 0, 324, ""), (5, 30, 5, 6, 0, 325, ""), (14, 267, 5, 6, 0, 326, ""), (0, 277, 5, 6, 0, 327, ""), (5, 33, 5, 7, 0, 328, ""), (6, 77, 5, 7, 0, 329, ""), (14, 229, 5, 7, 0, 330, ""), (0, 280, 5, 7, 0, 331, ""), (1, 264, 5, 7, 0, 332, ""), (4, 11, 4, 0, 0, 351, ""), (3, 22, 4, 1, 0, 352, ""), (0, 251, 4, 1, 0, 353, ""), (1, 311, 4, 1, 0, 354, ""), (3, 25, 4, 2, 0, 355, ""), (0, 256, 4, 2, 0, 356, ""), (1, 312, 4, 2, 0, 357, ""), (4, 18, 4, 3, 0, 358, ""), (3, 28, 4, 3, 0, 359, ""), (14, 127, 4, 3, 0, 360, ""), (0, 259, 4, 3, 0, 361, ""), (1, 232, 4, 3, 0, 362, ""), (3, 11, 3, 0, 0, 372, ""), (3, 18, 3, 1, 0, 373, ""), (0, 230, 3, 1, 0, 374, ""), (7, 371, 3, 1, 0, 375, ""), (1, 263, 3, 1, 0, 376, ""), (14, 328, 3, 1, 0, 377, ""), (6, 54, 3, 2, 0, 378, ""), (0, 235, 3, 2, 0, 379, ""), (1, 260, 3, 2, 0, 380, ""), (6, 33, 6, 0, 0, 396, ""), (1, 281, 6, 0, 0, 397, ""), (14, 373, 6, 0, 0, 398, ""), (7, 435, 6, 0, 0, 399, ""), (6, 14, 6, 1, 0, 400, ""), (14, 74, 6, 1, 0, 401, ""), (0, 241, 6, 1, 0, 402, ""), (1, 197, 6, 1, 0, 403, ""), (6, 20, 6, 2, 0, 404, ""), (14, 90, 6, 2, 0, 405, ""), (0, 178, 6, 2, 0, 406, ""), (6, 23, 6, 3, 0, 407, ""), (6, 29, 6, 4, 0, 408, ""), (6, 41, 6, 5, 0, 409, ""), (1, 257, 6, 5, 0, 410, ""), (6, 45, 6, 6, 0, 411, ""), (15, 105, 6, 6, 0, 412, ""), (1, 283, 6, 6, 0, 413, ""), (7, 407, 6, 6, 0, 414, ""), (14, 375, 6, 6, 0, 415, ""), (6, 48, 6, 7, 0, 416, ""), (0, 220, 6, 7, 0, 417, ""), (1, 218, 6, 7, 0, 418, ""), (7, 351, 6, 7, 0, 419, ""), (14, 289, 6, 7, 0, 420, ""), (6, 51, 6, 8, 0, 421, ""), (0, 238, 6, 8, 0, 422, ""), (1, 215, 6, 8, 0, 423, ""), (14, 352, 6, 8, 0, 424, ""), (6, 37, 6, 9, 0, 425, ""), (0, 226, 6, 9, 0, 426, ""), (1, 224, 6, 9, 0, 427, ""), (7, 367, 6, 9, 0, 428, ""), (14, 281, 6, 9, 0, 429, ""), (1, 14, 1, 0, 0, 452, ""), (0, 186, 1, 0, 0, 453, ""), (7, 332, 1, 0, 0, 454, ""), (1, 20, 1, 1, 0, 455, ""), (0, 193, 1, 1, 0, 456, ""), (7, 402, 1, 1, 0, 457, ""), (1, 23, 1, 2, 0, 458, ""), (14, 48, 1, 2, 0, 459, ""), (1, 106, 1, 3, 0, 460, ""), (0, 196, 1, 3, 0, 461, ""), (1, 28, 1, 4, 0, 462, ""), (0, 204, 1, 4, 0, 463, ""), (1, 134, 1, 5, 0, 464, ""), (14, 295, 1, 5, 0, 465, ""), (1, 147, 1, 6, 0, 466, ""), (14, 190, 1, 6, 0, 467, ""), (1, 32, 1, 7, 0, 468, ""), (14, 79, 1, 7, 0, 469, ""), (1, 35, 1, 8, 0, 470, ""), (1, 38, 1, 9, 0, 471, ""), (1, 44, 1, 10, 0, 472, ""), (1, 50, 1, 11, 0, 473, ""), (1, 56, 1, 12, 0, 474, ""), (1, 62, 1, 13, 0, 475, ""), (1, 66, 1, 14, 0, 476, ""), (1, 69, 1, 15, 0, 477, ""), (1, 73, 1, 16, 0, 478, ""), (1, 191, 1, 17, 0, 479, ""), (8, 14, 8, 0, 0, 536, ""), (7, 57, 8, 0, 0, 537, ""), (8, 24, 8, 1, 0, 538, ""), (7, 253, 8, 1, 0, 539, ""), (8, 49, 8, 2, 0, 540, ""), (7, 347, 8, 2, 0, 541, ""), (7, 72, 8, 3, 0, 542, ""), (8, 46, 8, 3, 0, 543, ""), (8, 20, 8, 4, 0, 544, ""), (9, 27, 8, 4, 0, 545, ""), (7, 266, 8, 4, 0, 546, ""), (8, 40, 8, 5, 0, 547, ""), (7, 263, 8, 5, 0, 548, ""), (8, 28, 8, 6, 0, 549, ""), (7, 297, 8, 6, 0, 550, ""), (8, 31, 8, 7, 0, 551, ""), (7, 381, 8, 7, 0, 552, ""), (8, 34, 8, 8, 0, 553, ""), (7, 309, 8, 8, 0, 554, ""), (8, 37, 8, 9, 0, 555, ""), (7, 384, 8, 9, 0, 556, ""), (8, 43, 8, 10, 0, 557, ""), (7, 378, 8, 10, 0, 558, ""), (7, 374, 8, 11, 0, 559, ""), (9, 9, 9, 0, 0, 590, ""), (7, 75, 9, 0, 0, 591, ""), (9, 15, 9, 1, 0, 592, ""), (7, 78, 9, 1, 0, 593, ""), (9, 19, 9, 2, 0, 594, ""), (7, 234, 9, 2, 0, 595, ""), (0, 298, 9, 2, 0, 596, ""), (9, 23, 9, 3, 0, 597, ""), (7, 227, 9, 3, 0, 598, ""), (9, 32, 9, 4, 0, 599, ""), (0, 295, 9, 4, 0, 600, ""), (9, 33, 9, 5, 0, 601, ""), (7, 224, 9, 5, 0, 602, ""), (0, 299, 9, 5, 0, 603, ""), (9, 36, 9, 6, 0, 604, ""), (7, 180, 9, 6, 0, 605, ""), (9, 39, 9, 7, 0, 606, ""), (7, 318, 9, 7, 0, 607, ""), (9, 42, 9, 8, 0, 608, ""), (7, 321, 9, 8, 0, 609, ""), (7, 36, 7, 0, 0, 692, ""), (7, 40, 7, 1, 0, 693, ""), (7, 11, 7, 2, 0, 694, ""), (7, 19, 7, 3, 0, 695, ""), (7, 23, 7, 4, 0, 696, ""), (7, 32, 7, 5, 0, 697, ""), (7, 66, 7, 6, 0, 698, ""), (0, 281, 7, 6, 1, 699, "SpaceHouse"), (0, 282, 7, 7, 1, 700, "SpaceHouse"), (7, 412, 7, 7, 0, 701, ""), (7, 298, 7, 8, 0, 702, ""), (7, 44, 7, 9, 0, 703, ""), (7, 47, 7, 10, 0, 704, ""), (7, 82, 7, 11, 0, 705, ""), (14, 34, 14, 0, 0, 1075, ""), (14, 14, 14, 1, 0, 1076, ""), (14, 23, 14, 2, 0, 1077, ""), (14, 27, 14, 3, 0, 1078, ""), (14, 30, 14, 4, 0, 1079, ""), (14, 322, 14, 5, 0, 1080, ""), (16, 14, 16, 0, 0, 1111, ""), (15, 60, 16, 0, 0, 1112, ""), (14, 242, 16, 0, 0, 1113, ""), (1, 188, 16, 0, 0, 1114, ""), (16, 20, 16, 1, 0, 1115, ""), (15, 135, 16, 1, 0, 1116, ""), (14, 388, 16, 1, 0, 1117, ""), (16, 23, 16, 2, 0, 1118, ""), (16, 27, 16, 3, 0, 1119, ""), (16, 30, 16, 4, 0, 1120, ""), (14, 57, 16, 4, 0, 1121, ""), (15, 128, 16, 4, 0, 1122, ""), (16, 34, 16, 5, 0, 1123, ""), (15, 73, 16, 5, 0, 1124, ""), (14, 391, 16, 5, 0, 1125, ""), (15, 116, 16, 6, 0, 1126, ""), (14, 394, 16, 6, 0, 1127, ""), (15, 119, 16, 7, 0, 1128, ""), (16, 37, 16, 8, 0, 1129, ""), (15, 102, 16, 8, 0, 1130, ""), (15, 11, 15, 0, 0, 1150, ""), (15, 22, 15, 1, 0, 1151, ""), (15, 27, 15, 2, 0, 1152, ""), (15, 31, 15, 3, 0, 1153, ""), (15, 34, 15, 4, 0, 1154, ""), (15, 45, 15, 5, 0, 1155, ""), (15, 49, 15, 6, 0, 1156, ""), (0, 21, 0, 0, 0, 1174, ""), (0, 30, 0, 1, 0, 1175, ""), (0, 37, 0, 2, 0, 1176, ""), (0, 46, 0, 3, 0, 1177, ""), (0, 50, 0, 4, 0, 1178, ""), (0, 53, 0, 5, 0, 1179, ""), (17, 7, 17, 0, 0, 2196, ""), (17, 13, 17, 1, 0, 2197, ""), (17, 16, 17, 2, 0, 2198, ""), (17, 19, 17, 3, 0, 2199, ""), (17, 332, 17, 4, 0, 2200, ""), (17, 22, 17, 5, 0, 2201, ""), (17, 313, 17, 6, 0, 2202, ""), (17, 322, 17, 7, 0, 2203, ""), (17, 329, 17, 8, 0, 2204, ""), (17, 335, 17, 9, 0, 2205, ""), (17, 25, 17, 10, 0, 2206, ""), (17, 28, 17, 11, 0, 2207, ""), (17, 343, 17, 12, 0, 2208, ""), (17, 31, 17, 13, 0, 2209, ""), (17, 35, 17, 14, 0, 2210, ""), (17, 38, 17, 15, 0, 2211, ""), (17, 41, 17, 16, 0, 2212, ""), (17, 44, 17, 17, 0, 2213, ""), (17, 47, 17, 18, 0, 2214, ""), (17, 50, 17, 19, 0, 2215, ""), (17, 53, 17, 20, 0, 2216, ""), (17, 56, 17, 21, 0, 2217, ""), (17, 59, 17, 22, 0, 2218, ""), (17, 62, 17, 23, 0, 2219, ""), (17, 66, 17, 24, 0, 2220, ""), (17, 69, 17, 25, 0, 2221, ""), (17, 72, 17, 26, 0, 2222, ""), (17, 75, 17, 27, 0, 2223, ""), (17, 78, 17, 28, 0, 2224, ""), (17, 81, 17, 29, 0, 2225, ""), (17, 85, 17, 30, 0, 2226, ""), (17, 88, 17, 31, 0, 2227, ""), (17, 91, 17, 32, 0, 2228, ""), (17, 94, 17, 33, 0, 2229, ""), (17, 97, 17, 34, 0, 2230, ""), (17, 100, 17, 35, 0, 2231, ""), (17, 103, 17, 36, 0, 2232, ""), (17, 106, 17, 37, 0, 2233, ""), (17, 109, 17, 38, 0, 2234, ""), (17, 586, 17, 39, 0, 2235, ""), (17, 112, 17, 40, 0, 2236, ""), (17, 611, 17, 41, 0, 2237, ""), (17, 635, 17, 42, 0, 2238, ""), (17, 115, 17, 43, 0, 2239, ""), (17, 118, 17, 44, 0, 2240, ""), (17, 123, 17, 45, 0, 2241, ""), (17, 127, 17, 46, 0, 2242, ""), (17, 1049, 17, 47, 0, 2243, ""), (17, 130, 17, 48, 0, 2244, ""), (17, 1052, 17, 49, 0, 2245, ""), (17, 133, 17, 50, 0, 2246, ""), (17, 136, 17, 51, 0, 2247, ""), (17, 139, 17, 52, 0, 2248, ""), (17, 142, 17, 53, 0, 2249, ""), (17, 145, 17, 54, 0, 2250, ""), (17, 148, 17, 55, 0, 2251, ""), (17, 151, 17, 56, 0, 2252, ""), (17, 154, 17, 57, 0, 2253, ""), (17, 157, 17, 58, 0, 2254, ""), (17, 160, 17, 59, 0, 2255, ""), (17, 163, 17, 60, 0, 2256, ""), (17, 166, 17, 61, 0, 2257, ""), (17, 169, 17, 62, 0, 2258, ""), (17, 172, 17, 63, 0, 2259, ""), (17, 175, 17, 64, 0, 2260, ""), (17, 178, 17, 65, 0, 2261, ""), (17, 181, 17, 66, 0, 2262, ""), (17, 184, 17, 67, 0, 2263, ""), (17, 187, 17, 68, 0, 2264, ""), (17, 190, 17, 69, 0, 2265, ""), (17, 193, 17, 70, 0, 2266, ""), (17, 196, 17, 71, 0, 2267, ""), (17, 199, 17, 72, 0, 2268, ""), (17, 202, 17, 73, 0, 2269, ""), (17, 733, 17, 74, 0, 2270, ""), (17, 205, 17, 75, 0, 2271, ""), (17, 208, 17, 76, 0, 2272, ""), (17, 730, 17, 77, 0, 2273, ""), (17, 211, 17, 78, 0, 2274, ""), (17, 647, 17, 79, 0, 2275, ""), (17, 650, 17, 80, 0, 2276, ""), (17, 214, 17, 81, 0, 2277, ""), (17, 217, 17, 82, 0, 2278, ""), (17, 663, 17, 83, 0, 2279, ""), (17, 220, 17, 84, 0, 2280, ""), (17, 669, 17, 85, 0, 2281, ""), (17, 223, 17, 86, 0, 2282, ""), (17, 226, 17, 87, 0, 2283, ""), (17, 229, 17, 88, 0, 2284, ""), (17, 232, 17, 89, 0, 2285, ""), (17, 235, 17, 90, 0, 2286, ""), (17, 672, 17, 91, 0, 2287, ""), (17, 537, 17, 92, 0, 2288, ""), (17, 238, 17, 93, 0, 2289, ""), (17, 241, 17, 94, 0, 2290, ""), (17, 244, 17, 95, 0, 2291, ""), (17, 247, 17, 96, 0, 2292, ""), (17, 250, 17, 97, 0, 2293, ""), (17, 253, 17, 98, 0, 2294, ""), (17, 918, 17, 99, 0, 2295, ""), (17, 256, 17, 100, 0, 2296, ""), (17, 259, 17, 101, 0, 2297, ""), (17, 262, 17, 102, 0, 2298, ""), (17, 1037, 17, 103, 0, 2299, ""), (17, 265, 17, 104, 0, 2300, ""), (17, 976, 17, 105, 0, 2301, ""), (17, 268, 17, 106, 0, 2302, ""), (17, 271, 17, 107, 0, 2303, ""), (17, 274, 17, 108, 0, 2304, ""), (17, 277, 17, 109, 0, 2305, ""), (17, 280, 17, 110, 0, 2306, ""), (17, 283, 17, 111, 0, 2307, ""), (17, 286, 17, 112, 0, 2308, ""), (17, 967, 17, 113, 0, 2309, ""), (17, 973, 17, 114, 0, 2310, ""), (10, 9, 10, 0, 0, 3052, ""), (10, 15, 10, 1, 0, 3053, "")]
def hLM : List (Nat × Nat × Nat × Nat × Nat × String) := [(18, 9, 0, 0, 245, ""), (0, 3, 9999, 0, 248, ""), (0, 11, 1, 0, 253, ""), (1, 3, 9999, 0, 256, ""), (1, 11, 2, 0, 259, ""), (2, 3, 9999, 0, 262, ""), (1, 76, 3, 0, 282, ""), (3, 3, 9999, 0, 285, ""), (3, 17, 4, 0, 289, ""), (4, 3, 9999, 0, 292, ""), (4, 17, 5, 1, 295, "SpaceHouse"), (5, 1, 9999, 0, 298, ""), (1, 77, 6, 0, 389, ""), (6, 3, 9999, 0, 392, ""), (6, 11, 2, 0, 394, ""), (1, 80, 5, 1, 451, "SpaceHouse"), (0, 14, 7, 0, 519, ""), (7, 3, 9999, 0, 522, ""), (7, 29, 2, 0, 528, ""), (7, 50, 8, 1, 530, "SpaceHouse"), (8, 3, 9999, 0, 533, ""), (8, 11, 2, 0, 535, ""), (7, 51, 9, 1, 586, "SpaceHouse"), (9, 3, 9999, 0, 589, ""), (7, 53, 10, 0, 630, ""), (7, 62, 11, 0, 635, ""), (2, 23, 12, 0, 639, ""), (2, 27, 13, 0, 643, ""), (10, 335, 14, 0, 647, ""), (2, 33, 15, 0, 653, ""), (10, 492, 16, 0, 657, ""), (10, 495, 17, 0, 661, ""), (11, 9, 18, 0, 664, ""), (10, 1059, 19, 0, 669, ""), (0, 17, 20, 0, 731, ""), (1, 83, 21, 0, 736, ""), (2, 41, 22, 0, 740, ""), (1, 89, 22, 0, 745, ""), (1, 95, 23, 0, 747, ""), (1, 99, 24, 0, 751, ""), (2, 45, 25, 0, 755, ""), (1, 102, 26, 0, 759, ""), (7, 85, 27, 0, 763, ""), (7, 88, 28, 0, 767, ""), (7, 92, 29, 0, 771, ""), (7, 95, 30, 0, 775, ""), (1, 110, 28, 0, 779, ""), (1, 114, 31, 0, 780, ""), (2, 19, 32, 0, 784, ""), (1, 118, 33, 0, 788, ""), (7, 101, 33, 0, 793, ""), (7, 105, 21, 0, 794, ""), (7, 109, 34, 0, 795, ""), (7, 112, 35, 0, 799, ""), (7, 164, 36, 0, 803, ""), (7, 167, 37, 0, 807, ""), (7, 171, 38, 0, 811, ""), (7, 116, 39, 0, 815, ""), (7, 120, 40, 0, 819, ""), (7, 176, 41, 0, 824, ""), (7, 183, 42, 0, 828, ""), (7, 237, 43, 0, 832, ""), (7, 186, 44, 0, 836, ""), (7, 280, 45, 0, 840, ""), (7, 417, 46, 0, 844, ""), (7, 192, 22, 0, 849, ""), (7, 198, 47, 0, 851, ""), (7, 158, 23, 0, 856, ""), (7, 123, 48, 0, 857, ""), (7, 206, 49, 0, 862, ""), (7, 209, 50, 0, 869, ""), (7, 212, 51, 0, 873, ""), (7, 215, 52, 0, 877, ""), (7, 260, 53, 0, 881, ""), (7, 126, 54, 0, 887, ""), (7, 231, 55, 0, 891, ""), (7, 241, 56, 0, 895, ""), (7, 249, 57, 0, 899, ""), (7, 256, 58, 0, 903, ""), (7, 245, 25, 0, 907, ""), (7, 130, 59, 0, 908, ""), (7, 269, 60, 0, 912, ""), (7, 273, 61, 0, 918, ""), (7, 276, 62, 0, 922, ""), (7, 283, 63, 0, 926, ""), (7, 133, 64, 0, 930, ""), (7, 290, 65, 0, 934, ""), (7, 293, 66, 0, 938, ""), (7, 301, 67, 0, 942, ""), (7, 305, 31, 0, 946, ""), (7, 136, 68, 0, 947, ""), (7, 314, 69, 0, 951, ""), (7, 335, 70, 0, 955, ""), (7, 341, 32, 0, 958, ""), (7, 344, 71, 0, 959, ""), (7, 354, 72, 1, 963, "SpaceHouse"), (7, 357, 73, 0, 967, ""), (7, 360, 74, 0, 971, ""), (7, 363, 75, 0, 975, ""), (7, 324, 76, 0, 981, ""), (8, 55, 28, 0, 985, ""), (7, 327, 77, 0, 986, ""), (7, 139, 78, 0, 991, ""), (7, 387, 79, 0, 995, ""), (7, 395, 80, 0, 999, ""), (7, 398, 81, 0, 1002, ""), (7, 391, 82, 0, 1008, ""), (7, 142, 83, 0, 1013, ""), (7, 145, 84, 0, 1017, ""), (7, 148, 85, 0, 1021, ""), (7, 151, 86, 0, 1025, ""), (7, 420, 87, 0, 1029, ""), (7, 423, 88, 0, 1033, ""), (7, 427, 89, 0, 1037, ""), (7, 431, 90, 0, 1041, ""), (7, 154, 91, 1, 1045, "SpaceHouse"), (7, 161, 24, 0, 1064, ""), (0, 27, 92, 0, 1067, ""), (14, 3, 9999, 0, 1070, ""), (14, 11, 2, 0, 1072, ""), (14, 22, 5, 1, 1074, "SpaceHouse"), (0, 36, 93, 0, 1096, ""), (15, 3, 9999, 0, 1099, ""), (15, 19, 2, 0, 1103, ""), (15, 26, 94, 1, 1105, "SpaceHouse"), (16, 3, 9999, 0, 1108, ""), (16, 11, 2, 0, 1110, ""), (0, 43, 2, 0, 1173, ""), (18, 15, 95, 0, 1193, ""), (0, 56, 28, 0, 1197, ""), (0, 60, 22, 0, 1198, ""), (18, 20, 96, 0, 1199, ""), (0, 64, 97, 0, 1203, ""), (0, 68, 98, 0, 1207, ""), (15, 37, 28, 0, 1211, ""), (15, 41, 31, 0, 1212, ""), (0, 72, 27, 0, 1213, ""), (0, 76, 99, 0, 1215, ""), (0, 80, 100, 0, 1219, ""), (15, 52, 101, 0, 1223, ""), (15, 108, 102, 0, 1227, ""), (15, 122, 103, 0, 1231, ""), (16, 52, 104, 0, 1235, ""), (16, 45, 33, 0, 1239, ""), (16, 59, 105, 0, 1240, ""), (16, 49, 106, 0, 1244, ""), (15, 83, 107, 0, 1248, ""), (15, 125, 105, 0, 1252, ""), (15, 89, 104, 0, 1253, ""), (15, 92, 106, 0, 1254, ""), (15, 76, 27, 0, 1255, ""), (15, 131, 108, 0, 1256, ""), (16, 119, 73, 0, 1260, ""), (16, 123, 32, 0, 1261, ""), (15, 112, 109, 0, 1262, ""), (15, 79, 33, 0, 1266, ""), (15, 56, 110, 0, 1267, ""), (15, 63, 111, 0, 1271, ""), (15, 95, 32, 0, 1275, ""), (15, 98, 73, 0, 1276, ""), (15, 67, 112, 0, 1277, ""), (16, 41, 28, 0, 1281, ""), (15, 70, 113, 0, 1282, ""), (0, 84, 114, 0, 1286, ""), (16, 64, 115, 0, 1291, ""), (16, 55, 47, 0, 1295, ""), (0, 89, 116, 0, 1320, ""), (14, 62, 117, 0, 1324, ""), (1, 249, 118, 0, 1328, ""), (1, 180, 104, 0, 1332, ""), (1, 185, 106, 0, 1333, ""), (1, 194, 27, 0, 1334, ""), (1, 150, 32, 0, 1335, ""), (1, 200, 73, 0, 1336, ""), (1, 204, 119, 0, 1337, ""), (1, 211, 57, 0, 1341, ""), (1, 207, 120, 0, 1342, ""), (1, 253, 121, 0, 1346, ""), (1, 127, 122, 0, 1350, ""), (1, 165, 123, 0, 1354, ""), (1, 131, 124, 0, 1358, ""), (1, 124, 125, 0, 1362, ""), (1, 144, 126, 0, 1366, ""), (1, 221, 127, 0, 1370, ""), (1, 141, 72, 1, 1376, "SpaceHouse"), (1, 176, 128, 0, 1377, ""), (1, 228, 129, 0, 1381, ""), (1, 237, 130, 0, 1385, ""), (1, 241, 29, 0, 1389, ""), (1, 161, 131, 0, 1390, ""), (14, 66, 132, 0, 1394, ""), (14, 82, 28, 0, 1398, ""), (14, 86, 31, 0, 1399, ""), (0, 93, 133, 0, 1400, ""), (14, 93, 134, 0, 1404, ""), (14, 100, 135, 0, 1408, ""), (14, 104, 136, 0, 1412, ""), (14, 42, 122, 0, 1416, ""), (14, 51, 26, 0, 1417, ""), (14, 109, 137, 0, 1419, ""), (14, 113, 29, 0, 1423, ""), (14, 117, 32, 0, 1424, ""), (0, 96, 138, 0, 1425, ""), (14, 124, 139, 0, 1429, ""), (14, 140, 140, 0, 1433, ""), (14, 144, 36, 0, 1437, ""), (14, 148, 73, 0, 1438, ""), (14, 132, 130, 0, 1439, ""), (14, 136, 141, 0, 1440, ""), (0, 99, 142, 0, 1444, ""), (14, 154, 115, 0, 1449, ""), (14, 160, 27, 0, 1451, ""), (14, 163, 108, 0, 1452, ""), (14, 169, 143, 0, 1454, ""), (14, 186, 118, 0, 1458, ""), (14, 193, 121, 0, 1459, ""), (14, 197, 144, 0, 1460, ""), (14, 201, 145, 0, 1464, ""), (14, 173, 131, 0, 1468, ""), (14, 176, 70, 0, 1469, ""), (14, 182, 146, 0, 1470, ""), (0, 102, 147, 0, 1474, ""), (0, 105, 148, 0, 1479, ""), (14, 206, 149, 0, 1483, ""), (16, 115, 150, 0, 1487, ""), (14, 209, 151, 0, 1491, ""), (14, 212, 152, 0, 1495, ""), (14, 215, 153, 0, 1499, ""), (14, 219, 154, 0, 1503, ""), (14, 225, 128, 0, 1507, ""), (14, 232, 155, 0, 1508, ""), (14, 236, 75, 0, 1512, ""), (0, 108, 156, 0, 1513, ""), (0, 111, 157, 0, 1517, ""), (14, 243, 104, 0, 1522, ""), (14, 246, 106, 0, 1523, ""), (14, 249, 158, 0, 1524, ""), (0, 114, 159, 0, 1529, ""), (14, 253, 160, 0, 1533, ""), (0, 116, 161, 0, 1537, ""), (0, 119, 162, 0, 1542, ""), (14, 258, 163, 0, 1546, ""), (0, 122, 164, 0, 1552, ""), (0, 125, 165, 0, 1556, ""), (14, 264, 166, 0, 1560, ""), (0, 128, 167, 0, 1564, ""), (0, 131, 168, 0, 1568, ""), (0, 134, 169, 0, 1572, ""), (14, 270, 170, 0, 1576, ""), (1, 304, 166, 0, 1580, ""), (1, 307, 155, 0, 1581, ""), (0, 137, 171, 0, 1582, ""), (14, 274, 172, 0, 1586, ""), (14, 277, 173, 0, 1590, ""), (14, 285, 174, 0, 1594, ""), (14, 298, 129, 0, 1598, ""), (14, 304, 175, 0, 1599, ""), (14, 308, 176, 0, 1603, ""), (14, 329, 123, 0, 1607, ""), (14, 312, 177, 0, 1608, ""), (14, 314, 178, 0, 1612, ""), (14, 318, 179, 0, 1616, ""), (4, 32, 128, 0, 1620, ""), (0, 140, 180, 0, 1621, ""), (14, 292, 127, 0, 1625, ""), (0, 143, 181, 0, 1626, ""), (14, 333, 182, 0, 1630, ""), (14, 340, 183, 0, 1634, ""), (14, 337, 184, 0, 1638, ""), (0, 146, 185, 0, 1642, ""), (14, 348, 186, 0, 1649, ""), (14, 355, 187, 0, 1653, ""), (14, 359, 188, 0, 1657, ""), (1, 293, 189, 0, 1661, ""), (1, 313, 177, 0, 1665, ""), (1, 318, 179, 0, 1666, ""), (1, 322, 190, 0, 1667, ""), (14, 363, 191, 0, 1671, ""), (6, 59, 27, 0, 1675, ""), (6, 62, 73, 0, 1676, ""), (14, 367, 192, 0, 1677, ""), (6, 66, 28, 0, 1681, ""), (6, 70, 31, 0, 1682, ""), (6, 74, 32, 0, 1683, ""), (14, 370, 193, 0, 1684, ""), (0, 149, 194, 0, 1691, ""), (0, 152, 195, 0, 1695, ""), (14, 378, 103, 0, 1699, ""), (14, 381, 107, 0, 1700, ""), (14, 385, 105, 0, 1701, ""), (0, 155, 196, 0, 1702, ""), (15, 140, 115, 0, 1707, ""), (15, 146, 197, 0, 1709, ""), (0, 159, 198, 0, 1713, ""), (0, 162, 199, 0, 1719, ""), (0, 165, 113, 0, 1723, ""), (0, 168, 200, 0, 1724, ""), (1, 286, 201, 0, 1728, ""), (1, 289, 170, 0, 1732, ""), (1, 297, 178, 0, 1733, ""), (1, 301, 202, 0, 1734, ""), (0, 171, 203, 0, 1738, ""), (18, 25, 204, 0, 1742, ""), (0, 174, 205, 0, 1746, ""), (1, 265, 186, 0, 1750, ""), (1, 269, 187, 0, 1751, ""), (1, 273, 191, 0, 1752, ""), (1, 277, 193, 0, 1753, ""), (18, 29, 206, 0, 1754, ""), (0, 183, 33, 0, 1758, ""), (18, 34, 207, 0, 1759, ""), (18, 38, 208, 0, 1763, ""), (0, 189, 209, 0, 1767, ""), (0, 208, 73, 0, 1770, ""), (18, 42, 210, 0, 1771, ""), (18, 46, 211, 0, 1775, ""), (18, 51, 212, 0, 1779, ""), (0, 200, 213, 0, 1783, ""), (18, 55, 214, 0, 1787, ""), (18, 60, 215, 0, 1791, ""), (18, 64, 216, 0, 1795, ""), (0, 212, 122, 0, 1799, ""), (0, 216, 26, 0, 1800, ""), (18, 68, 217, 0, 1801, ""), (18, 72, 218, 0, 1805, ""), (0, 223, 74, 0, 1809, ""), (0, 244, 107, 0, 1810, ""), (18, 76, 219, 0, 1811, ""), (18, 81, 220, 0, 1815, ""), (18, 85, 221, 0, 1819, ""), (0, 247, 189, 0, 1823, ""), (18, 89, 222, 0, 1824, ""), (0, 260, 130, 0, 1828, ""), (18, 94, 223, 0, 1829, ""), (0, 274, 166, 0, 1833, ""), (18, 98, 224, 0, 1834, ""), (0, 285, 225, 0, 1838, ""), (0, 288, 34, 0, 1842, ""), (18, 102, 226, 0, 1843, ""), (0, 291, 39, 0, 1847, ""), (18, 12, 227, 0, 1850, ""), (17, 1, 9999, 0, 1853, ""), (17, 291, 228, 0, 1858, ""), (17, 297, 229, 0, 1862, ""), (17, 305, 230, 0, 1870, ""), (17, 309, 231, 0, 1874, ""), (17, 638, 232, 0, 1878, ""), (17, 641, 233, 0, 1883, ""), (17, 339, 234, 0, 1887, ""), (17, 454, 235, 0, 1891, ""), (17, 325, 236, 0, 1895, ""), (17, 319, 237, 0, 1899, ""), (17, 457, 238, 0, 1903, ""), (17, 466, 239, 0, 1907, ""), (17, 497, 240, 0, 1911, ""), (17, 472, 241, 0, 1915, ""), (17, 500, 242, 0, 1920, ""), (17, 417, 243, 0, 1924, ""), (17, 503, 244, 0, 1927, ""), (17, 423, 245, 0, 1931, ""), (17, 393, 246, 0, 1935, ""), (17, 346, 247, 0, 1939, ""), (17, 396, 248, 0, 1942, ""), (17, 351, 249, 0, 1946, ""), (17, 354, 250, 0, 1951, ""), (17, 390, 251, 0, 1955, ""), (17, 357, 252, 0, 1959, ""), (17, 387, 253, 0, 1963, ""), (17, 426, 254, 0, 1967, ""), (17, 399, 255, 0, 1971, ""), (17, 508, 256, 0, 1976, ""), (17, 514, 257, 0, 1981, ""), (17, 469, 258, 0, 1985, ""), (17, 517, 259, 0, 1989, ""), (17, 520, 260, 0, 1993, ""), (17, 523, 261, 0, 1997, ""), (17, 529, 262, 0, 2002, ""), (17, 420, 263, 0, 2006, ""), (17, 442, 264, 0, 2010, ""), (17, 434, 265, 0, 2016, ""), (17, 476, 266, 0, 2020, ""), (17, 533, 267, 0, 2024, ""), (17, 540, 268, 0, 2028, ""), (17, 383, 269, 0, 2032, ""), (17, 376, 270, 0, 2036, ""), (17, 369, 271, 0, 2040, ""), (17, 372, 272, 0, 2047, ""), (17, 379, 273, 0, 2050, ""), (17, 479, 274, 0, 2054, ""), (17, 543, 275, 0, 2058, ""), (17, 546, 276, 0, 2062, ""), (17, 549, 277, 0, 2066, ""), (17, 460, 278, 0, 2070, ""), (17, 482, 279, 0, 2074, ""), (17, 561, 280, 0, 2078, ""), (17, 552, 281, 0, 2082, ""), (17, 407, 282, 0, 2087, ""), (17, 413, 283, 0, 2090, ""), (17, 565, 284, 0, 2098, ""), (17, 485, 285, 0, 2102, ""), (17, 569, 286, 0, 2106, ""), (17, 439, 287, 0, 2110, ""), (17, 583, 288, 0, 2114, ""), (17, 445, 289, 0, 2118, ""), (17, 448, 290, 0, 2122, ""), (17, 451, 291, 0, 2127, ""), (17, 573, 292, 0, 2131, ""), (17, 576, 293, 0, 2135, ""), (17, 579, 294, 0, 2139, ""), (17, 596, 295, 0, 2145, ""), (17, 589, 296, 0, 2149, ""), (17, 488, 297, 0, 2153, ""), (17, 601, 298, 0, 2158, ""), (17, 604, 299, 0, 2162, ""), (17, 607, 300, 0, 2167, ""), (17, 491, 301, 0, 2171, ""), (17, 494, 302, 0, 2175, ""), (17, 620, 303, 0, 2181, ""), (17, 624, 304, 0, 2188, ""), (17, 463, 305, 0, 2192, ""), (18, 19, 306, 0, 2544, ""), (18, 24, 307, 0, 2548, ""), (17, 1040, 308, 0, 2552, ""), (17, 1043, 309, 0, 2556, ""), (17, 992, 310, 0, 2560, ""), (17, 981, 311, 0, 2566, ""), (17, 970, 312, 0, 2570, ""), (17, 986, 313, 0, 2576, ""), (17, 994, 314, 0, 2580, ""), (17, 989, 315, 0, 2584, ""), (17, 997, 316, 0, 2588, ""), (17, 742, 317, 0, 2592, ""), (17, 736, 318, 0, 2596, ""), (17, 739, 319, 0, 2600, ""), (17, 1008, 320, 0, 2605, ""), (17, 1024, 321, 0, 2609, ""), (17, 1027, 322, 0, 2613, ""), (17, 1013, 323, 0, 2618, ""), (17, 1029, 324, 0, 2622, ""), (17, 1018, 325, 0, 2627, ""), (17, 791, 326, 0, 2632, ""), (17, 831, 327, 0, 2636, ""), (17, 718, 328, 0, 2640, ""), (17, 653, 329, 0, 2644, ""), (17, 660, 330, 0, 2649, ""), (17, 666, 331, 0, 2653, ""), (17, 721, 332, 0, 2657, ""), (17, 700, 333, 0, 2661, ""), (17, 681, 334, 0, 2665, ""), (17, 697, 335, 0, 2669, ""), (17, 691, 336, 0, 2673, ""), (17, 703, 337, 0, 2677, ""), (17, 694, 338, 0, 2681, ""), (17, 687, 339, 0, 2685, ""), (17, 706, 340, 0, 2689, ""), (17, 709, 341, 0, 2693, ""), (17, 684, 342, 0, 2697, ""), (17, 644, 343, 0, 2701, ""), (17, 678, 344, 0, 2705, ""), (17, 675, 345, 0, 2709, ""), (17, 712, 346, 0, 2713, ""), (17, 715, 347, 0, 2717, ""), (17, 865, 348, 0, 2721, ""), (17, 868, 349, 0, 2725, ""), (17, 871, 350, 0, 2729, ""), (17, 727, 351, 0, 2733, ""), (17, 937, 352, 0, 2737, ""), (17, 1021, 353, 0, 2741, ""), (17, 747, 354, 0, 2746, ""), (17, 803, 355, 0, 2751, ""), (17, 879, 356, 0, 2755, ""), (17, 882, 357, 0, 2759, ""), (17, 754, 358, 0, 2767, ""), (17, 818, 359, 0, 2771, ""), (17, 908, 360, 0, 2775, ""), (17, 905, 361, 0, 2779, ""), (17, 911, 362, 0, 2783, ""), (17, 914, 363, 0, 2787, ""), (17, 921, 364, 0, 2791, ""), (17, 925, 365, 0, 2795, ""), (17, 928, 366, 0, 2799, ""), (17, 931, 367, 0, 2803, ""), (17, 762, 368, 0, 2809, ""), (17, 940, 369, 0, 2813, ""), (17, 934, 370, 0, 2817, ""), (17, 767, 371, 0, 2822, ""), (17, 964, 372, 0, 2827, ""), (17, 772, 373, 0, 2832, ""), (17, 786, 374, 0, 2837, ""), (17, 796, 375, 0, 2843, ""), (17, 874, 376, 0, 2847, ""), (17, 808, 377, 0, 2854, ""), (17, 813, 378, 0, 2859, ""), (17, 887, 379, 0, 2863, ""), (17, 821, 380, 0, 2868, ""), (17, 898, 381, 0, 2872, ""), (17, 826, 382, 0, 2877, ""), (17, 946, 383, 0, 2881, ""), (17, 950, 384, 0, 2885, ""), (17, 943, 385, 0, 2889, ""), (17, 953, 386, 0, 2893, ""), (17, 956, 387, 0, 2897, ""), (17, 776, 388, 0, 2901, ""), (17, 834, 389, 0, 2906, ""), (17, 840, 390, 0, 2911, ""), (17, 845, 391, 0, 2916, ""), (17, 850, 392, 0, 2921, ""), (17, 890, 393, 0, 2925, ""), (17, 893, 394, 0, 2929, ""), (17, 855, 395, 0, 2934, ""), (17, 860, 396, 0, 2940, ""), (17, 781, 397, 0, 2946, ""), (17, 1000, 398, 0, 2950, ""), (17, 1003, 399, 0, 2954, ""), (17, 1034, 400, 0, 2958, ""), (17, 1046, 401, 0, 2962, ""), (17, 959, 402, 0, 2966, ""), (18, 28, 403, 0, 2970, ""), (18, 33, 404, 0, 2974, ""), (18, 37, 405, 0, 2978, ""), (18, 41, 406, 0, 2982, ""), (18, 45, 407, 0, 2986, ""), (18, 50, 408, 0, 2990, ""), (18, 54, 409, 0, 2994, ""), (18, 59, 410, 0, 2998, ""), (18, 63, 411, 0, 3002, ""), (18, 67, 412, 0, 3006, ""), (18, 71, 413, 0, 3010, ""), (18, 75, 414, 0, 3014, ""), (18, 80, 415, 0, 3018, ""), (18, 84, 416, 0, 3022, ""), (18, 88, 417, 0, 3026, ""), (18, 93, 418, 0, 3030, ""), (18, 97, 419, 0, 3034, ""), (18, 101, 420, 0, 3038, ""), (17, 1057, 421, 0, 3043, ""), (18, 105, 422, 0, 3047, "")]
def hLG : List (Nat × Nat × Nat × Nat × Nat × String) := [(10, 38, 0, 0, 651, ""), (10, 1053, 1, 0, 667, ""), (7, 221, 2, 1, 867, "SpaceHouse"), (7, 287, 3, 1, 916, "SpaceHouse"), (0, 302, 2, 0, 966, "")]
def hLN : List (Nat × Nat × Nat × Nat) := [(18, 7, 0, 243), (0, 9, 1, 251), (1, 9, 2, 257), (1, 42, 7, 273), (1, 48, 6, 275), (1, 54, 3, 277), (1, 60, 5, 279), (3, 9, 4, 286), (4, 9, 5, 293), (6, 9, 2, 393), (6, 27, 5, 395), (0, 12, 7, 517), (7, 9, 8, 523), (7, 17, 9, 525), (7, 27, 2, 527), (8, 9, 2, 534), (0, 25, 14, 1065), (14, 9, 2, 1071), (14, 20, 5, 1073), (0, 34, 15, 1094), (15, 9, 16, 1100), (15, 17, 2, 1102), (16, 9, 2, 1109), (0, 41, 2, 1172), (18, 10, 17, 1848)]
def hLS : List (Nat × Nat × Nat × Nat) := [(7, 60, 0, 634), (7, 70, 1, 691), (1, 93, 2, 746), (7, 196, 3, 850), (7, 202, 4, 855), (7, 405, 5, 1012), (0, 306, 6, 1048), (0, 308, 7, 1049), (0, 310, 8, 1050), (0, 312, 9, 1051), (0, 314, 10, 1052), (0, 316, 11, 1053), (0, 318, 12, 1054), (0, 320, 13, 1055), (0, 322, 14, 1056), (0, 324, 15, 1057), (0, 326, 16, 1058), (0, 328, 17, 1059), (0, 330, 18, 1060), (0, 332, 19, 1061), (0, 334, 20, 1062), (0, 336, 21, 1063), (16, 62, 22, 1290), (16, 68, 23, 1296), (16, 70, 24, 1297), (16, 72, 25, 1298), (16, 74, 26, 1299), (16, 76, 27, 1300), (16, 78, 28, 1301), (16, 80, 29, 1302), (16, 82, 30, 1303), (16, 83, 31, 1304), (16, 85, 32, 1305), (16, 87, 33, 1306), (16, 89, 34, 1307), (16, 91, 35, 1308), (16, 93, 36, 1309), (16, 95, 37, 1310), (16, 97, 38, 1311), (16, 99, 39, 1312), (16, 101, 40, 1313), (16, 103, 41, 1314), (16, 105, 42, 1315), (16, 107, 43, 1316), (16, 109, 44, 1317), (16, 111, 45, 1318), (16, 113, 46, 1319), (14, 152, 47, 1448), (14, 158, 48, 1450), (14, 342, 49, 1646), (14, 344, 50, 1647), (14, 346, 51, 1648), (7, 438, 52, 1689), (7, 440, 53, 1690), (15, 138, 54, 1706), (15, 144, 55, 1708), (15, 150, 56, 1717), (15, 152, 57, 1718)]
def hLK : List (Nat × Nat × Int × Nat) := [(7, 52, -2147483648, 629), (8, 53, -2147483648, 885), (8, 54, 1073741824, 886), (7, 434, 1073742335, 1044), (0, 75, 1000000, 1214), (14, 108, 1000000, 1418), (14, 262, -2147483648, 1550), (14, 263, 1073741824, 1551), (7, 437, -2147483283, 1688), (17, 65, 76800, 1854), (17, 289, -2147483137, 1856), (17, 290, 65535, 1857), (17, 350, -2147483283, 1950), (17, 431, 1073741824, 2015), (17, 632, -1073742336, 2187)]
def hLL : List (Nat × Nat × Int × Nat) := [(1, 26, -3750763034362895579, 271), (1, 81, 65535, 735), (1, 87, 256, 744), (1, 122, 1099511628211, 792), (7, 174, 64, 823), (7, 190, 300, 848), (7, 204, 4294967295, 861), (7, 219, 3, 866), (7, 312, 1073741312, 941), (2, 37, 10, 979), (2, 39, 48, 980), (7, 330, 11, 990), (7, 410, 600, 1006), (7, 415, 8192, 1007), (1, 137, 4294967295, 1374), (1, 139, 3, 1375), (14, 167, 438, 1453), (14, 204, -2147483137, 1478), (14, 240, -1, 1521), (1, 153, -1, 1528), (14, 256, -512, 1541), (17, 121, -3750763034362895579, 1855), (17, 317, 255, 1866), (17, 295, 256, 1867), (17, 301, 6, 1868), (17, 303, 63016602185776, 1869), (17, 633, 1099511628211, 1882), (17, 432, 64, 1919), (17, 506, 300, 1975), (17, 512, 33053979968501614, 1980), (17, 527, 4294967295, 2001), (17, 429, 128, 2014), (17, 361, 47, 2043), (17, 363, 1668247155, 2044), (17, 365, 126943688422771, 2045), (17, 367, 6517868, 2046), (17, 411, 12, 2086), (17, 403, 33, 2093), (17, 405, 126, 2094), (17, 555, -512, 2095), (17, 557, 2147483648, 2096), (17, 559, 1073741824, 2097), (17, 437, 3, 2126), (17, 592, 7, 2143), (17, 594, 8, 2144), (17, 599, 2, 2157), (17, 614, 1802071148, 2166), (17, 616, 65535, 2179), (17, 618, -1, 2180), (17, 628, 600, 2185), (17, 630, 8192, 2186), (17, 656, 48, 2564), (17, 979, 57, 2565), (17, 901, 97, 2574), (17, 984, 122, 2575), (17, 1006, 26982, 2604), (17, 1011, 6713202, 2617), (17, 1016, 7501166, 2626), (17, 1032, 11, 2631), (17, 658, 50, 2648), (17, 745, 1701013615, 2745), (17, 877, 438, 2750), (17, 885, 32, 2763), (17, 725, 10, 2764), (17, 750, 1651076708, 2765), (17, 752, 4, 2766), (17, 903, 99, 2782), (17, 758, 470021402228, 2807), (17, 760, 33053988575604340, 2808), (17, 765, 7562612, 2821), (17, 962, 25, 2826), (17, 770, 1702390132, 2831), (17, 784, 25444, 2836), (17, 789, 6513012, 2841), (17, 794, 27763, 2842), (17, 799, 469953177970, 2851), (17, 801, 2147484159, 2852), (17, 806, 29293, 2853), (17, 811, 1937006964, 2858), (17, 816, 427021005669, 2867), (17, 824, 1718579819, 2876), (17, 829, 28022, 2905), (17, 838, 1936292453, 2910), (17, 843, 426953764708, 2915), (17, 848, 1869636974, 2920), (17, 853, 1919246692, 2933), (17, 896, 100, 2938), (17, 858, 513020621925, 2939), (17, 863, 1936024939, 2944), (17, 779, 109342978307173, 2945), (17, 1055, 5, 3042), (18, 13, 4294967295, 3051)]
def hSt : List (String × String × String) := [("java/lang/String", "COMPACT_STRINGS", "Z"), ("jdk/internal/util/Preconditions", "SIOOBE_FORMATTER", "Ljava/util/function/BiFunction;"), ("SpaceHouse", "USER_NAMES", "[I"), ("SpaceHouse", "NEEDS", "[I")]
def hTx : List String := ["/", "cons", "9P2000", "9P2000", "unknown", "kill", "no such file", "not a directory", "permission denied", "file exists", "bad name", "unknown fid", "fid in use", "fid is open", "fid is not open", "is a directory", "not empty", "no room", "bad offset", "bad message", "unknown user", "bad mode", "cd", "cat", "ls", "echo", "mkdir", "create", "rm", "mv", "size", "chmod", "stat", "open", "read", "write", "seek", "close", "bind", "mount", "unmount", "fork", "exit", "set", "if", "for", "run", ">>", ">", "s", "c", "e", "status", "ctl", "=", "!=", "do", "in"]
/-- objects that can be made: class, how many slots, the place of instantiable, of initialized, the places of the fields' words -/
def hLI : List (Nat × Nat × Nat × Nat × List Nat) := [(0, 6, 244, 224, [1180, 1182, 1184, 1186, 1188, 1190]), (1, 18, 252, 225, [480, 482, 484, 486, 488, 490, 492, 494, 496, 498, 500, 502, 504, 506, 508, 510, 512, 514]), (2, 2, 258, 226, [265, 267]), (3, 3, 281, 227, [381, 383, 385]), (4, 4, 288, 228, [363, 365, 367, 369]), (5, 8, 294, 229, [333, 335, 337, 339, 341, 343, 345, 347]), (6, 10, 388, 230, [430, 432, 434, 436, 438, 440, 442, 444, 446, 448]), (7, 12, 518, 231, [706, 708, 710, 712, 714, 716, 718, 720, 722, 724, 726, 728]), (8, 12, 529, 232, [560, 562, 564, 566, 568, 570, 572, 574, 576, 578, 580, 582]), (9, 9, 585, 233, [610, 612, 614, 616, 618, 620, 622, 624, 626]), (14, 6, 1066, 239, [1081, 1083, 1085, 1087, 1089, 1091]), (15, 7, 1095, 240, [1157, 1159, 1161, 1163, 1165, 1167, 1169]), (16, 9, 1104, 241, [1131, 1133, 1135, 1137, 1139, 1141, 1143, 1145, 1147]), (17, 115, 1849, 242, [2311, 2313, 2315, 2317, 2319, 2321, 2323, 2325, 2327, 2329, 2331, 2333, 2335, 2337, 2339, 2341, 2343, 2345, 2347, 2349, 2351, 2353, 2355, 2357, 2359, 2361, 2363, 2365, 2367, 2369, 2371, 2373, 2375, 2377, 2379, 2381, 2383, 2385, 2387, 2389, 2391, 2393, 2395, 2397, 2399, 2401, 2403, 2405, 2407, 2409, 2411, 2413, 2415, 2417, 2419, 2421, 2423, 2425, 2427, 2429, 2431, 2433, 2435, 2437, 2439, 2441, 2443, 2445, 2447, 2449, 2451, 2453, 2455, 2457, 2459, 2461, 2463, 2465, 2467, 2469, 2471, 2473, 2475, 2477, 2479, 2481, 2483, 2485, 2487, 2489, 2491, 2493, 2495, 2497, 2499, 2501, 2503, 2505, 2507, 2509, 2511, 2513, 2515, 2517, 2519, 2521, 2523, 2525, 2527, 2529, 2531, 2533, 2535, 2537, 2539])]
def hIq : List (Nat × Nat) := [(223, 18), (224, 0), (225, 1), (226, 2), (227, 3), (228, 4), (229, 5), (230, 6), (231, 7), (232, 8), (233, 9), (234, 10), (235, 11), (236, 12), (238, 13), (239, 14), (240, 15), (241, 16), (242, 17)]
def hFq : List (Nat × Nat × Nat) := [(265, 2, 0), (267, 2, 1), (333, 5, 0), (335, 5, 1), (337, 5, 2), (339, 5, 3), (341, 5, 4), (343, 5, 5), (345, 5, 6), (347, 5, 7), (363, 4, 0), (365, 4, 1), (367, 4, 2), (369, 4, 3), (381, 3, 0), (383, 3, 1), (385, 3, 2), (430, 6, 0), (432, 6, 1), (434, 6, 2), (436, 6, 3), (438, 6, 4), (440, 6, 5), (442, 6, 6), (444, 6, 7), (446, 6, 8), (448, 6, 9), (480, 1, 0), (482, 1, 1), (484, 1, 2), (486, 1, 3), (488, 1, 4), (490, 1, 5), (492, 1, 6), (494, 1, 7), (496, 1, 8), (498, 1, 9), (500, 1, 10), (502, 1, 11), (504, 1, 12), (506, 1, 13), (508, 1, 14), (510, 1, 15), (512, 1, 16), (514, 1, 17), (560, 8, 0), (562, 8, 1), (564, 8, 2), (566, 8, 3), (568, 8, 4), (570, 8, 5), (572, 8, 6), (574, 8, 7), (576, 8, 8), (578, 8, 9), (580, 8, 10), (582, 8, 11), (610, 9, 0), (612, 9, 1), (614, 9, 2), (616, 9, 3), (618, 9, 4), (620, 9, 5), (622, 9, 6), (624, 9, 7), (626, 9, 8), (706, 7, 0), (708, 7, 1), (710, 7, 2), (712, 7, 3), (714, 7, 4), (716, 7, 5), (718, 7, 6), (720, 7, 7), (722, 7, 8), (724, 7, 9), (726, 7, 10), (728, 7, 11), (1081, 14, 0), (1083, 14, 1), (1085, 14, 2), (1087, 14, 3), (1089, 14, 4), (1091, 14, 5), (1131, 16, 0), (1133, 16, 1), (1135, 16, 2), (1137, 16, 3), (1139, 16, 4), (1141, 16, 5), (1143, 16, 6), (1145, 16, 7), (1147, 16, 8), (1157, 15, 0), (1159, 15, 1), (1161, 15, 2), (1163, 15, 3), (1165, 15, 4), (1167, 15, 5), (1169, 15, 6), (1180, 0, 0), (1182, 0, 1), (1184, 0, 2), (1186, 0, 3), (1188, 0, 4), (1190, 0, 5), (2311, 17, 0), (2313, 17, 1), (2315, 17, 2), (2317, 17, 3), (2319, 17, 4), (2321, 17, 5), (2323, 17, 6), (2325, 17, 7), (2327, 17, 8), (2329, 17, 9), (2331, 17, 10), (2333, 17, 11), (2335, 17, 12), (2337, 17, 13), (2339, 17, 14), (2341, 17, 15), (2343, 17, 16), (2345, 17, 17), (2347, 17, 18), (2349, 17, 19), (2351, 17, 20), (2353, 17, 21), (2355, 17, 22), (2357, 17, 23), (2359, 17, 24), (2361, 17, 25), (2363, 17, 26), (2365, 17, 27), (2367, 17, 28), (2369, 17, 29), (2371, 17, 30), (2373, 17, 31), (2375, 17, 32), (2377, 17, 33), (2379, 17, 34), (2381, 17, 35), (2383, 17, 36), (2385, 17, 37), (2387, 17, 38), (2389, 17, 39), (2391, 17, 40), (2393, 17, 41), (2395, 17, 42), (2397, 17, 43), (2399, 17, 44), (2401, 17, 45), (2403, 17, 46), (2405, 17, 47), (2407, 17, 48), (2409, 17, 49), (2411, 17, 50), (2413, 17, 51), (2415, 17, 52), (2417, 17, 53), (2419, 17, 54), (2421, 17, 55), (2423, 17, 56), (2425, 17, 57), (2427, 17, 58), (2429, 17, 59), (2431, 17, 60), (2433, 17, 61), (2435, 17, 62), (2437, 17, 63), (2439, 17, 64), (2441, 17, 65), (2443, 17, 66), (2445, 17, 67), (2447, 17, 68), (2449, 17, 69), (2451, 17, 70), (2453, 17, 71), (2455, 17, 72), (2457, 17, 73), (2459, 17, 74), (2461, 17, 75), (2463, 17, 76), (2465, 17, 77), (2467, 17, 78), (2469, 17, 79), (2471, 17, 80), (2473, 17, 81), (2475, 17, 82), (2477, 17, 83), (2479, 17, 84), (2481, 17, 85), (2483, 17, 86), (2485, 17, 87), (2487, 17, 88), (2489, 17, 89), (2491, 17, 90), (2493, 17, 91), (2495, 17, 92), (2497, 17, 93), (2499, 17, 94), (2501, 17, 95), (2503, 17, 96), (2505, 17, 97), (2507, 17, 98), (2509, 17, 99), (2511, 17, 100), (2513, 17, 101), (2515, 17, 102), (2517, 17, 103), (2519, 17, 104), (2521, 17, 105), (2523, 17, 106), (2525, 17, 107), (2527, 17, 108), (2529, 17, 109), (2531, 17, 110), (2533, 17, 111), (2535, 17, 112), (2537, 17, 113), (2539, 17, 114)]
def hNq : List (Nat × Nat × Nat) := [(244, 0, 6), (252, 1, 18), (258, 2, 2), (281, 3, 3), (288, 4, 4), (294, 5, 8), (388, 6, 10), (518, 7, 12), (529, 8, 12), (585, 9, 9), (1066, 14, 6), (1095, 15, 7), (1104, 16, 9), (1849, 17, 115)]
def hAq : List (Nat × Nat) := [(272, 2), (274, 7), (276, 6), (278, 3), (280, 5), (287, 4), (524, 8), (526, 9), (1101, 16)]
def hBq : List (Nat × Nat) := [(270, 1), (350, 0), (2542, 2), (2543, 3)]
def hSq : List (Nat × Nat) := [(652, 0), (668, 1), (868, 2), (917, 3)]
end
section
/-! A small machine of my own over a plain memory: what a method does, step by step, as a function. 03.sound shows that the Java machine does the same. -/
abbrev AV : Type := Int ⊕ Int ⊕ Option Nat
abbrev hSh : Type := Option (Nat ⊕ (Nat × Nat))
/-- cells, slots made, what stands at an address, numbers, references -/
abbrev hM : Type := Nat × Nat × (Nat → hSh) × (Nat → Nat → Int) × (Nat → Nat → Option Nat)
abbrev hOp : Type := Nat × Nat × Int × List Int
abbrev hLs : Type := List (Option AV)
abbrev vI (z : Int) : AV := Sum.inl z
abbrev vL (z : Int) : AV := Sum.inr (Sum.inl z)
abbrev vR (r : Option Nat) : AV := Sum.inr (Sum.inr r)
def mT (σ : hM) : Nat → hSh := σ.2.2.1
def mI (σ : hM) : Nat → Nat → Int := σ.2.2.2.1
def mR (σ : hM) : Nat → Nat → Option Nat := σ.2.2.2.2
def up2 {α : Type} (f : Nat → Nat → α) (a k : Nat) (x : α) : Nat → Nat → α := fun b j => if b = a ∧ j = k then x else f b j
def sI (σ : hM) (a k : Nat) (x : Int) : hM := (σ.1, σ.2.1, σ.2.2.1, up2 σ.2.2.2.1 a k x, σ.2.2.2.2)
def sR (σ : hM) (a k : Nat) (x : Option Nat) : hM := (σ.1, σ.2.1, σ.2.2.1, σ.2.2.2.1, up2 σ.2.2.2.2 a k x)
def sN (σ : hM) (sh : Nat ⊕ (Nat × Nat)) (w : Nat) : hM := (σ.1 + 1, σ.2.1 + w, (fun b => if b = σ.1 then some sh else mT σ b), (fun b j => if b = σ.1 then 0 else mI σ b j), (fun b j => if b = σ.1 then none else mR σ b j))
/-! numbers -/
def w32 (z : Int) : Int := z.bmod 4294967296
def w64 (z : Int) : Int := z.bmod 18446744073709551616
def sb8 (z : Int) : Int := (Int32.ofInt z).toInt8.toInt32.toInt
def ch16 (z : Int) : Int := ((Int32.ofInt z).toUInt32 % 65536).toInt32.toInt
def div32 (x y : Int) : Int := (Int32.ofInt x / Int32.ofInt y).toInt
def rem32 (x y : Int) : Int := (Int32.ofInt x - Int32.ofInt x / Int32.ofInt y * Int32.ofInt y).toInt
def and32 (x y : Int) : Int := (Int32.ofInt x &&& Int32.ofInt y).toInt
def or32 (x y : Int) : Int := (Int32.ofInt x ||| Int32.ofInt y).toInt
def xor32 (x y : Int) : Int := (Int32.ofInt x ^^^ Int32.ofInt y).toInt
def shl32 (x y : Int) : Int := (Int32.ofInt x <<< (Int32.ofInt y &&& 31)).toInt
def shr32 (x y : Int) : Int := (Int32.ofInt x >>> (Int32.ofInt y &&& 31)).toInt
def div64 (x y : Int) : Int := (Int64.ofInt x / Int64.ofInt y).toInt
def rem64 (x y : Int) : Int := (Int64.ofInt x - Int64.ofInt x / Int64.ofInt y * Int64.ofInt y).toInt
def and64 (x y : Int) : Int := (Int64.ofInt x &&& Int64.ofInt y).toInt
def or64 (x y : Int) : Int := (Int64.ofInt x ||| Int64.ofInt y).toInt
def xor64 (x y : Int) : Int := (Int64.ofInt x ^^^ Int64.ofInt y).toInt
def shl64 (x y : Int) : Int := (Int64.ofInt x <<< ((Int32.ofInt y).toInt64 &&& 63)).toInt
def shr64 (x y : Int) : Int := (Int64.ofInt x >>> ((Int32.ofInt y).toInt64 &&& 63)).toInt
def cmp64 (x y : Int) : Int := if y < x then 1 else if x = y then 0 else -1
def hIB (k : Nat) (x y : Int) : Int := match k with
  | 0 => w32 (x + y) | 1 => w32 (x - y) | 2 => w32 (x * y) | 3 => div32 x y | 4 => rem32 x y | 5 => and32 x y | 6 => or32 x y | 7 => xor32 x y | 8 => shl32 x y | _ => shr32 x y
def hLB (k : Nat) (x y : Int) : Int := match k with
  | 0 => w64 (x + y) | 1 => w64 (x - y) | 2 => w64 (x * y) | 3 => div64 x y | 4 => rem64 x y | 5 => and64 x y | 6 => or64 x y | _ => xor64 x y
def hLH (k : Nat) (x y : Int) : Int := match k with
  | 0 => shl64 x y | _ => shr64 x y
def hcmp (k : Nat) (x y : Int) : Prop := match k with
  | 0 => x = y | 1 => ¬ x = y | 2 => x < y | 3 => y ≤ x | 4 => y < x | _ => x ≤ y
def hcmpB (k : Nat) (x y : Int) : Bool := match k with
  | 0 => decide (x = y) | 1 => decide (¬ x = y) | 2 => decide (x < y) | 3 => decide (y ≤ x) | 4 => decide (y < x) | _ => decide (x ≤ y)
theorem hcmpB_iff (k : Nat) (x y : Int) : hcmpB k x y = true ↔ hcmp k x y := by
  unfold hcmpB hcmp
  split <;> simp
/-! locals -/
def hkl (la : hLs) (i : Nat) : hLs := match i with
  | 0 => la
  | j + 1 => match la.getD j none with
    | some (Sum.inr (Sum.inl _)) => la.set j none
    | _ => la
def hsto (la : hLs) (i : Nat) (v : AV) : hLs := match v with
  | Sum.inr (Sum.inl _) => ((hkl la i).set i (some v)).set (i + 1) none
  | _ => (hkl la i).set i (some v)
def hwd (v : AV) : Nat := match v with
  | Sum.inr (Sum.inl _) => 2
  | _ => 1
def hent : List AV → hLs
  | [] => []
  | Sum.inr (Sum.inl z) :: l => some (vL z) :: none :: hent l
  | v :: l => some v :: hent l
def hpad (l : hLs) (n : Nat) : hLs := l ++ List.replicate (n - l.length) none
/-! memory checks -/
def hIsO (σ : hM) (r : Option Nat) (c : Nat) : Bool := match r with
  | none => false
  | some a => decide (mT σ a = some (Sum.inl c))
def hak (ty t : Nat) : Bool := if ty = 10 then decide (10 ≤ t) else decide (t = ty)
def hIsA (σ : hM) (r : Option Nat) (ty : Nat) (j : Int) : Bool := match r with
  | none => false
  | some a => match mT σ a with
    | some (Sum.inr (t, len)) => hak ty t && (decide (0 ≤ j) && decide (j < len))
    | _ => false
def hLen (σ : hM) (r : Option Nat) : Nat := match r with
  | none => 0
  | some a => match mT σ a with
    | some (Sum.inr (_, len)) => len
    | _ => 0
def hHas (σ : hM) (r : Option Nat) : Bool := match r with
  | none => false
  | some a => match mT σ a with
    | some (Sum.inr _) => true
    | _ => false
/-- whether a reference may be put into an array of references -/
def hFit (σ : hM) (r v : Option Nat) : Bool := match v with
  | none => true
  | some b => match mT σ (r.getD 0) with
    | some (Sum.inr (t, _)) => decide (mT σ b = some (Sum.inl (t - 10)))
    | _ => false
def hld (σ : hM) (k : Nat) (a j : Nat) : AV := if k = 4 then vR (mR σ a j) else if k = 3 then vL (mI σ a j) else vI (mI σ a j)
/-- a boolean is 0 or 1 -/
def h01 (z : Int) : Bool := decide (z = 0) || decide (z = 1)
abbrev hNx : Type := Nat × hLs × List AV × hM
abbrev hCl : Type := Nat × List AV × Nat × hLs × List AV
def hif {α : Type} (b : Bool) (x : Option α) : Option α := if b = true then x else none
/-- one step: where it goes on, or whom it calls, or what it answers -/
def hstep (N0 : Nat) (E : Nat → AV) (d y : Nat) (op : hOp) (nx : Nat) (ls : hLs) (st : List AV) (σ : hM) : Option (hNx ⊕ (hCl ⊕ Option AV)) :=
  match op with
  | (0, _, b, _) => some (.inl (nx, ls, vI b :: st, σ))
  | (1, _, b, _) => some (.inl (nx, ls, vL b :: st, σ))
  | (2, _, _, _) => some (.inl (nx, ls, vR none :: st, σ))
  | (3, i, k, _) => match ls.getD i none with
    | some (Sum.inl z) => hif (decide (k = 0)) (some (.inl (nx, ls, vI z :: st, σ)))
    | some (Sum.inr (Sum.inl z)) => hif (decide (k = 1)) (some (.inl (nx, ls, vL z :: st, σ)))
    | some (Sum.inr (Sum.inr r)) => hif (decide (k = 2)) (some (.inl (nx, ls, vR r :: st, σ)))
    | none => none
  | (4, i, k, _) => match st with
    | Sum.inl z :: r => hif (decide (k = 0)) (some (.inl (nx, hsto ls i (vI z), r, σ)))
    | Sum.inr (Sum.inl z) :: r => hif (decide (k = 1)) (some (.inl (nx, hsto ls i (vL z), r, σ)))
    | Sum.inr (Sum.inr q) :: r => hif (decide (k = 2)) (some (.inl (nx, hsto ls i (vR q), r, σ)))
    | [] => none
  | (5, i, b, _) => match ls.getD i none with
    | some (Sum.inl z) => some (.inl (nx, hsto ls i (vI (w32 (z + b))), st, σ))
    | _ => none
  | (6, _, _, _) => match st with
    | v :: r => hif (decide (hwd v = 1)) (some (.inl (nx, ls, v :: v :: r, σ)))
    | [] => none
  | (7, _, _, _) => match st with
    | v :: r => hif (decide (hwd v = 1)) (some (.inl (nx, ls, r, σ)))
    | [] => none
  | (8, _, _, _) => match st with
    | u :: v :: r => hif (decide (hwd u = 1) && decide (hwd v = 1)) (some (.inl (nx, ls, u :: v :: u :: v :: r, σ)))
    | _ => none
  | (9, _, _, _) => match st with
    | v :: r => hif (decide (hwd v = 2)) (some (.inl (nx, ls, r, σ)))
    | [] => none
  | (10, k, _, _) => match st with
    | Sum.inl v :: Sum.inl u :: r => hif (decide (¬ ((k = 3 ∨ k = 4) ∧ v = 0))) (some (.inl (nx, ls, vI (hIB k u v) :: r, σ)))
    | _ => none
  | (11, k, _, _) => match st with
    | Sum.inr (Sum.inl v) :: Sum.inr (Sum.inl u) :: r => hif (decide (¬ ((k = 3 ∨ k = 4) ∧ v = 0))) (some (.inl (nx, ls, vL (hLB k u v) :: r, σ)))
    | _ => none
  | (12, k, _, _) => match st with
    | Sum.inl v :: Sum.inr (Sum.inl u) :: r => some (.inl (nx, ls, vL (hLH k u v) :: r, σ))
    | _ => none
  | (13, _, _, _) => match st with
    | Sum.inl u :: r => some (.inl (nx, ls, vI (w32 (-u)) :: r, σ))
    | _ => none
  | (14, _, _, _) => match st with
    | Sum.inl u :: r => some (.inl (nx, ls, vL u :: r, σ))
    | _ => none
  | (15, _, _, _) => match st with
    | Sum.inr (Sum.inl u) :: r => some (.inl (nx, ls, vI (w32 u) :: r, σ))
    | _ => none
  | (16, _, _, _) => match st with
    | Sum.inl u :: r => some (.inl (nx, ls, vI (sb8 u) :: r, σ))
    | _ => none
  | (17, _, _, _) => match st with
    | Sum.inr (Sum.inl v) :: Sum.inr (Sum.inl u) :: r => some (.inl (nx, ls, vI (cmp64 u v) :: r, σ))
    | _ => none
  | (18, k, t, _) => match st with
    | Sum.inl u :: r => some (.inl (bif hcmpB k u 0 then t.toNat else nx, ls, r, σ))
    | _ => none
  | (19, k, t, _) => match st with
    | Sum.inl v :: Sum.inl u :: r => some (.inl (bif hcmpB k u v then t.toNat else nx, ls, r, σ))
    | _ => none
  | (20, k, t, _) => match st with
    | Sum.inr (Sum.inr q) :: r => some (.inl (bif (q.isNone == (k == 0)) then t.toNat else nx, ls, r, σ))
    | _ => none
  | (21, k, t, _) => match st with
    | Sum.inr (Sum.inr q) :: Sum.inr (Sum.inr p) :: r => hif (decide (N0 ≤ q.getD N0) && decide (N0 ≤ p.getD N0)) (some (.inl (bif (decide (p = q) == (k == 0)) then t.toNat else nx, ls, r, σ)))
    | _ => none
  | (22, _, t, _) => some (.inl (t.toNat, ls, st, σ))
  | (23, dflt, low, tg) => match st with
    | Sum.inl u :: r => some (.inl (if u < low ∨ low + tg.length ≤ u then dflt else (tg.getD (u - low).toNat 0).toNat, ls, r, σ))
    | _ => none
  | (24, c, k, _) => match st with
    | Sum.inr (Sum.inr r) :: rest => hif (hIsO σ r c) (some (.inl (nx, ls, hld σ (hFd c k.toNat).2.2.1 (r.getD 0) k.toNat :: rest, σ)))
    | _ => none
  | (25, c, k, _) => match st with
    | Sum.inl z :: Sum.inr (Sum.inr r) :: rest => hif (hIsO σ r c && decide (N0 ≤ r.getD 0) && (decide ((hFd c k.toNat).2.2.1 = 0) || decide ((hFd c k.toNat).2.2.1 = 2) && h01 z)) (some (.inl (nx, ls, rest, sI σ (r.getD 0) k.toNat z)))
    | Sum.inr (Sum.inl z) :: Sum.inr (Sum.inr r) :: rest => hif (hIsO σ r c && decide (N0 ≤ r.getD 0) && decide ((hFd c k.toNat).2.2.1 = 3)) (some (.inl (nx, ls, rest, sI σ (r.getD 0) k.toNat z)))
    | Sum.inr (Sum.inr v) :: Sum.inr (Sum.inr r) :: rest => hif (hIsO σ r c && decide (N0 ≤ r.getD 0) && decide ((hFd c k.toNat).2.2.1 = 4)) (some (.inl (nx, ls, rest, sR σ (r.getD 0) k.toNat v)))
    | _ => none
  | (26, ty, _, _) => match st with
    | Sum.inl j :: Sum.inr (Sum.inr r) :: rest => hif (hIsA σ r ty j) (some (.inl (nx, ls, hld σ (if ty = 10 then 4 else ty) (r.getD 0) j.toNat :: rest, σ)))
    | _ => none
  | (27, ty, _, _) => match st with
    | Sum.inl z :: Sum.inl j :: Sum.inr (Sum.inr r) :: rest => hif (hIsA σ r ty j && decide (N0 ≤ r.getD 0) && (decide (ty = 0) || decide (ty = 1) || decide (ty = 2) && h01 z)) (some (.inl (nx, ls, rest, sI σ (r.getD 0) j.toNat (if ty = 1 then sb8 z else z))))
    | Sum.inr (Sum.inl z) :: Sum.inl j :: Sum.inr (Sum.inr r) :: rest => hif (hIsA σ r ty j && decide (N0 ≤ r.getD 0) && decide (ty = 3)) (some (.inl (nx, ls, rest, sI σ (r.getD 0) j.toNat z)))
    | Sum.inr (Sum.inr v) :: Sum.inl j :: Sum.inr (Sum.inr r) :: rest => hif (hIsA σ r ty j && decide (N0 ≤ r.getD 0) && decide (ty = 10) && hFit σ r v) (some (.inl (nx, ls, rest, sR σ (r.getD 0) j.toNat v)))
    | _ => none
  | (28, _, _, _) => match st with
    | Sum.inr (Sum.inr r) :: rest => hif (hHas σ r) (some (.inl (nx, ls, vI (hLen σ r) :: rest, σ)))
    | _ => none
  | (29, c, w, _) => some (.inl (nx, ls, vR (some σ.1) :: st, sN σ (Sum.inl c) w.toNat))
  | (30, ty, _, _) => match st with
    | Sum.inl z :: r => hif (decide (0 ≤ z) && decide (z ≤ 1000000)) (some (.inl (nx, ls, vR (some σ.1) :: r, sN σ (Sum.inr (ty, z.toNat)) z.toNat)))
    | _ => none
  | (31, y1, _, _) => hif (decide (hmN y1 ≤ st.length) && decide (((st.drop (hmN y1)).map hwd).sum ≤ 8) && decide ((hent (st.take (hmN y1)).reverse).length ≤ hmL y1) && (decide (hmK y1 = 0) || (match (st.take (hmN y1)).reverse with
      | Sum.inr (Sum.inr r) :: _ => hIsO σ r (hmO y1)
      | _ => false))) (some (.inr (.inl (y1, (st.take (hmN y1)).reverse, nx, ls, st.drop (hmN y1)))))
  | (32, _, _, _) => match st with
    | Sum.inr (Sum.inr (some _)) :: r => hif (decide (1 ≤ d) && decide ((r.map hwd).sum ≤ 8)) (some (.inl (nx, ls, r, σ)))
    | _ => none
  | (33, k, _, _) => match st with
    | [] => hif (decide (k = 0)) (some (.inr (.inr none)))
    | [Sum.inl z] => hif (decide (k = 1) || decide (k = 2) && h01 z || decide (k = 5) && (decide (-128 ≤ z) && decide (z ≤ 127)) || decide (k = 6) && (decide (0 ≤ z) && decide (z ≤ 65535))) (some (.inr (.inr (some (vI z)))))
    | [Sum.inr (Sum.inl z)] => hif (decide (k = 3)) (some (.inr (.inr (some (vL z)))))
    | [Sum.inr (Sum.inr r)] => hif (decide (k = 4)) (some (.inr (.inr (some (vR r)))))
    | _ => none
  | (34, j, _, _) => some (.inl (nx, ls, E j :: st, σ))
  | (35, _, _, _) => match st with
    | Sum.inl u :: r => some (.inl (nx, ls, vI (ch16 u) :: r, σ))
    | _ => none
  | _ => none
/-- a method from one place on: what it answers, and the memory then -/
def hx (N0 : Nat) (E : Nat → AV) (T : Nat → Nat → Option (hOp × Nat)) : Nat → Nat → Nat → Nat → hLs → List AV → hM → Option (Option AV × hM)
  | 0, _, _, _, _, _, _ => none
  | n + 1, d, y, pc, ls, st, σ => match T y pc with
    | none => none
    | some (op, nx) => match hstep N0 E d y op nx ls st σ with
      | none => none
      | some (Sum.inl (pc1, ls1, st1, σ1)) => hx N0 E T n d y pc1 ls1 st1 σ1
      | some (Sum.inr (Sum.inl (y1, as, pc1, ls1, st1))) => match d with
        | 0 => none
        | d1 + 1 => match hx N0 E T n d1 y1 0 (hpad (hent as) (hmL y1)) [] σ with
          | none => none
          | some (r, σ1) => hx N0 E T n (d1 + 1) y pc1 ls1 (r.toList ++ st1) σ1
      | some (Sum.inr (Sum.inr r)) => some (r, σ)
end
section
/-! What the tables' words say of the names: each list is compared with lw_tbl at its places, once. -/
def hwalk : Nat → List Cond → List (Nat × Cond) → Bool
  | _, _, [] => true
  | _, [], _ :: _ => false
  | i, w :: t, (p, c) :: r => if p = i then (decide (w = c) && hwalk (i + 1) t r) else hwalk (i + 1) t ((p, c) :: r)
theorem hwalk_in : ∀ (t : List Cond) (i : Nat) (es : List (Nat × Cond)), hwalk i t es = true → ∀ e ∈ es, e.2 ∈ t := by
  intro t
  induction t with
  | nil =>
    intro i es h e he
    cases es with
    | nil => cases he
    | cons a r => cases h
  | cons w t ih =>
    intro i es h e he
    cases es with
    | nil => cases he
    | cons a r =>
      obtain ⟨p, c⟩ := a
      unfold hwalk at h
      by_cases hp : p = i
      · rw [if_pos hp, Bool.and_eq_true, decide_eq_true_eq] at h
        rcases List.mem_cons.mp he with rfl | he
        · exact List.mem_cons.mpr (Or.inl h.1.symm)
        · exact List.mem_cons_of_mem _ (ih (i + 1) r h.2 e he)
      · rw [if_neg hp] at h
        exact List.mem_cons_of_mem _ (ih (i + 1) _ h e he)
theorem hwalk_mem {es : List (Nat × Cond)} (h : hwalk 0 lw_tbl es = true) {p : Nat} {c : Cond} (he : (p, c) ∈ es) : c ∈ lw_tbl := hwalk_in _ _ _ h _ he
/-! the words -/
def hwF (e : Nat × Nat × Nat × Nat × Nat × Nat × String) : Cond :=
  if e.2.2.2.2.1 = 0 then .fieldLink (hName e.1) e.2.1 (hName e.2.2.1) (hFd e.2.2.1 e.2.2.2.1).1 (hFd e.2.2.1 e.2.2.2.1).2.1
  else .fieldLinkNest (hName e.1) e.2.1 (hName e.2.2.1) (hFd e.2.2.1 e.2.2.2.1).1 (hFd e.2.2.1 e.2.2.2.1).2.1 e.2.2.2.2.2.2
def hOb : MethodName := ⟨"java/lang/Object", "<init>", "()V"⟩
def hwL (e : Nat × Nat × Nat × Nat × Nat × String) : Cond :=
  if e.2.2.1 = 9999 then .methodLink (hName e.1) e.2.1 hOb
  else if e.2.2.2.1 = 0 then .methodLink (hName e.1) e.2.1 (hmY e.2.2.1) else .methodLinkNest (hName e.1) e.2.1 (hmY e.2.2.1) e.2.2.2.2.2
def hSn (j : Nat) : String × String × String := hSt.getD j ("", "", "")
def hwG (e : Nat × Nat × Nat × Nat × Nat × String) : Cond :=
  if e.2.2.2.1 = 0 then .fieldLink (hName e.1) e.2.1 (hSn e.2.2.1).1 (hSn e.2.2.1).2.1 (hSn e.2.2.1).2.2
  else .fieldLinkNest (hName e.1) e.2.1 (hSn e.2.2.1).1 (hSn e.2.2.1).2.1 (hSn e.2.2.1).2.2 e.2.2.2.2.2
def hArr (ty : Nat) : FieldType := match ty with
  | 0 => .int | 1 => .byte | 2 => .boolean | 3 => .long | c + 4 => .object (hName (c - 6))
def hwV (c k : Nat) : Cond := if (hFd c k).2.2.2 = true then .laysFinal (hName c) (hName c) (hFd c k).1 (hFd c k).2.1 else .lays (hName c) (hName c) (hFd c k).1 (hFd c k).2.1
set_option maxRecDepth 100000 in
theorem hIq_ok : hwalk 0 lw_tbl (hIq.map fun e => (e.1, .initialized (hName e.2))) = true := by decide +kernel
set_option maxRecDepth 100000 in
theorem hLF_ok : hwalk 0 lw_tbl (hLF.map fun e => (e.2.2.2.2.2.1, hwF e)) = true := by decide +kernel
set_option maxRecDepth 100000 in
theorem hLM_ok : hwalk 0 lw_tbl (hLM.map fun e => (e.2.2.2.2.1, hwL e)) = true := by decide +kernel
set_option maxRecDepth 100000 in
theorem hLG_ok : hwalk 0 lw_tbl (hLG.map fun e => (e.2.2.2.2.1, hwG e)) = true := by decide +kernel
set_option maxRecDepth 100000 in
theorem hLN_ok : hwalk 0 lw_tbl (hLN.map fun e => (e.2.2.2, .classLink (hName e.1) e.2.1 (hName e.2.2.1))) = true := by decide +kernel
set_option maxRecDepth 100000 in
theorem hLS_ok : hwalk 0 lw_tbl (hLS.map fun e => (e.2.2.2, .stringRef (hName e.1) e.2.1 (hTx.getD e.2.2.1 ""))) = true := by decide +kernel
set_option maxRecDepth 100000 in
theorem hLK_ok : hwalk 0 lw_tbl (hLK.map fun e => (e.2.2.2, .constant (hName e.1) e.2.1 (Int32.ofInt e.2.2.1))) = true := by decide +kernel
set_option maxRecDepth 100000 in
theorem hLL_ok : hwalk 0 lw_tbl (hLL.map fun e => (e.2.2.2, .constantLong (hName e.1) e.2.1 (Int64.ofInt e.2.2.1))) = true := by decide +kernel
set_option maxRecDepth 100000 in
theorem hFq_ok : hwalk 0 lw_tbl (hFq.map fun e => (e.1, hwV e.2.1 e.2.2)) = true := by decide +kernel
set_option maxRecDepth 100000 in
theorem hNq_ok : hwalk 0 lw_tbl (hNq.map fun e => (e.1, .instantiable (hName e.2.1) e.2.2)) = true := by decide +kernel
set_option maxRecDepth 100000 in
theorem hAq_ok : hwalk 0 lw_tbl (hAq.map fun e => (e.1, .arrayOver (.object (hName e.2)))) = true := by decide +kernel
set_option maxRecDepth 100000 in
theorem hBq_ok : hwalk 0 lw_tbl (hBq.map fun e => (e.1, .arrayClass (hArr e.2))) = true := by decide +kernel
set_option maxRecDepth 100000 in
theorem hSq_ok : hwalk 0 lw_tbl (hSq.map fun e => (e.1, .laysStatic (hSn e.2).1 (hSn e.2).2.1 (hSn e.2).2.2)) = true := by decide +kernel
/-! what holds of each method -/
def hmOk1 (y : Nat) : Bool := decide ((hmY y).cls ≠ "java/lang/invoke/MethodHandle") && decide ((hmY y).cls ≠ "java/lang/invoke/VarHandle") && plainFor (hmY y)
def hmOk2 (y : Nat) : Bool := decide ((parseMethodDescriptor (hmY y).desc).map (fun d => d.parameters.length) = some (hmN y - (if hmK y = 0 then 0 else 1))) && decide (hmL y ≤ 17) && (decide (hmK y = 0) || decide (1 ≤ hmN y))
def hmOk3 (y : Nat) : Bool := (decide (hmK y ≤ 1) || decide ((hmY y).name = "<init>") && decide (hmR y = none) && decide (hmK y = 2)) && (decide (hmK y = 2) || decide ((hmY y).name ≠ "<init>"))
set_option maxRecDepth 100000 in
theorem hmOk1_all : (List.range hNM).all hmOk1 = true := by decide +kernel
set_option maxRecDepth 100000 in
theorem hmOk2_all : (List.range hNM).all hmOk2 = true := by decide +kernel
set_option maxRecDepth 100000 in
theorem hmOk3_all : (List.range hNM).all hmOk3 = true := by decide +kernel
end
section
/-! each method's words, by their places -/
def hwM (y k : Nat) : Cond := match k with
  | 0 => .code (hmY y) (hmB y) (hmL y) (hmR y)
  | 2 => if hmK y = 0 then .static (hmY y) else .instanceMethod (hmY y)
  | _ => .selects (hName (hmO y)) (hmY y) (hmY y)
def hMw (y : Nat) : Prop := hwM y 0 ∈ lw_tbl ∧ Cond.initialized (hName (hmO y)) ∈ lw_tbl ∧ hwM y 2 ∈ lw_tbl ∧ (hmK y = 1 → hwM y 3 ∈ lw_tbl)
theorem hT_1 {w : Cond} (h : w ∈ tables_1_1) : w ∈ lw_tbl := List.mem_append_right _ (List.mem_append_left _ h)
theorem hT_2 {w : Cond} (h : w ∈ tables_1_2) : w ∈ lw_tbl := List.mem_append_right _ (List.mem_append_right _ (List.mem_append_left _ h))
theorem hT_3 {w : Cond} (h : w ∈ tables_1_3) : w ∈ lw_tbl := List.mem_append_right _ (List.mem_append_right _ (List.mem_append_right _ (List.mem_append_left _ h)))
theorem hT_4 {w : Cond} (h : w ∈ tables_1_4) : w ∈ lw_tbl := List.mem_append_right _ (List.mem_append_right _ (List.mem_append_right _ (List.mem_append_right _ (List.mem_append_left _ h))))
theorem hT_5 {w : Cond} (h : w ∈ tables_1_5) : w ∈ lw_tbl := List.mem_append_right _ (List.mem_append_right _ (List.mem_append_right _ (List.mem_append_right _ (List.mem_append_right _ (List.mem_append_left _ h)))))
theorem hT_6 {w : Cond} (h : w ∈ tables_1_6) : w ∈ lw_tbl := List.mem_append_right _ (List.mem_append_right _ (List.mem_append_right _ (List.mem_append_right _ (List.mem_append_right _ (List.mem_append_right _ (List.mem_append_left _ h))))))
theorem hT_7 {w : Cond} (h : w ∈ tables_1_7) : w ∈ lw_tbl := List.mem_append_right _ (List.mem_append_right _ (List.mem_append_right _ (List.mem_append_right _ (List.mem_append_right _ (List.mem_append_right _ (List.mem_append_right _ (List.mem_append_left _ h)))))))
theorem hT_8 {w : Cond} (h : w ∈ tables_1_8) : w ∈ lw_tbl := List.mem_append_right _ (List.mem_append_right _ (List.mem_append_right _ (List.mem_append_right _ (List.mem_append_right _ (List.mem_append_right _ (List.mem_append_right _ (List.mem_append_right _ (List.mem_append_left _ h))))))))
theorem hT_9 {w : Cond} (h : w ∈ tables_1_9) : w ∈ lw_tbl := List.mem_append_right _ (List.mem_append_right _ (List.mem_append_right _ (List.mem_append_right _ (List.mem_append_right _ (List.mem_append_right _ (List.mem_append_right _ (List.mem_append_right _ (List.mem_append_right _ (List.mem_append_left _ h)))))))))
theorem hT_10 {w : Cond} (h : w ∈ tables_1_10) : w ∈ lw_tbl := List.mem_append_right _ (List.mem_append_right _ (List.mem_append_right _ (List.mem_append_right _ (List.mem_append_right _ (List.mem_append_right _ (List.mem_append_right _ (List.mem_append_right _ (List.mem_append_right _ (List.mem_append_right _ (List.mem_append_left _ h))))))))))
theorem hT_11 {w : Cond} (h : w ∈ tables_1_11) : w ∈ lw_tbl := List.mem_append_right _ (List.mem_append_right _ (List.mem_append_right _ (List.mem_append_right _ (List.mem_append_right _ (List.mem_append_right _ (List.mem_append_right _ (List.mem_append_right _ (List.mem_append_right _ (List.mem_append_right _ (List.mem_append_right _ (List.mem_append_left _ h)))))))))))
theorem hT_12 {w : Cond} (h : w ∈ tables_1_12) : w ∈ lw_tbl := List.mem_append_right _ (List.mem_append_right _ (List.mem_append_right _ (List.mem_append_right _ (List.mem_append_right _ (List.mem_append_right _ (List.mem_append_right _ (List.mem_append_right _ (List.mem_append_right _ (List.mem_append_right _ (List.mem_append_right _ (List.mem_append_right _ h)))))))))))
set_option maxRecDepth 20000 in
theorem hwc_0 : hwM 0 0 ∈ lw_tbl := hT_1 (List.mem_of_getElem? (i := 24) rfl)
set_option maxRecDepth 20000 in
theorem hwc_1 : hwM 1 0 ∈ lw_tbl := hT_1 (List.mem_of_getElem? (i := 32) rfl)
set_option maxRecDepth 20000 in
theorem hwc_2 : hwM 2 0 ∈ lw_tbl := hT_1 (List.mem_of_getElem? (i := 38) rfl)
set_option maxRecDepth 20000 in
theorem hwc_3 : hwM 3 0 ∈ lw_tbl := hT_1 (List.mem_of_getElem? (i := 61) rfl)
set_option maxRecDepth 20000 in
theorem hwc_4 : hwM 4 0 ∈ lw_tbl := hT_1 (List.mem_of_getElem? (i := 68) rfl)
set_option maxRecDepth 20000 in
theorem hwc_5 : hwM 5 0 ∈ lw_tbl := hT_1 (List.mem_of_getElem? (i := 74) rfl)
set_option maxRecDepth 20000 in
theorem hwc_6 : hwM 6 0 ∈ lw_tbl := hT_1 (List.mem_of_getElem? (i := 168) rfl)
set_option maxRecDepth 20000 in
theorem hwc_7 : hwM 7 0 ∈ lw_tbl := hT_2 (List.mem_of_getElem? (i := 58) rfl)
set_option maxRecDepth 20000 in
theorem hwc_8 : hwM 8 0 ∈ lw_tbl := hT_2 (List.mem_of_getElem? (i := 69) rfl)
set_option maxRecDepth 20000 in
theorem hwc_9 : hwM 9 0 ∈ lw_tbl := hT_2 (List.mem_of_getElem? (i := 125) rfl)
set_option maxRecDepth 20000 in
theorem hwc_10 : hwM 10 0 ∈ lw_tbl := hT_2 (List.mem_of_getElem? (i := 170) rfl)
set_option maxRecDepth 20000 in
theorem hwc_11 : hwM 11 0 ∈ lw_tbl := hT_2 (List.mem_of_getElem? (i := 175) rfl)
set_option maxRecDepth 20000 in
theorem hwc_12 : hwM 12 0 ∈ lw_tbl := hT_2 (List.mem_of_getElem? (i := 179) rfl)
set_option maxRecDepth 20000 in
theorem hwc_13 : hwM 13 0 ∈ lw_tbl := hT_2 (List.mem_of_getElem? (i := 183) rfl)
set_option maxRecDepth 20000 in
theorem hwc_14 : hwM 14 0 ∈ lw_tbl := hT_2 (List.mem_of_getElem? (i := 187) rfl)
set_option maxRecDepth 20000 in
theorem hwc_15 : hwM 15 0 ∈ lw_tbl := hT_2 (List.mem_of_getElem? (i := 193) rfl)
set_option maxRecDepth 20000 in
theorem hwc_16 : hwM 16 0 ∈ lw_tbl := hT_2 (List.mem_of_getElem? (i := 197) rfl)
set_option maxRecDepth 20000 in
theorem hwc_17 : hwM 17 0 ∈ lw_tbl := hT_2 (List.mem_of_getElem? (i := 200) rfl)
set_option maxRecDepth 20000 in
theorem hwc_18 : hwM 18 0 ∈ lw_tbl := hT_2 (List.mem_of_getElem? (i := 203) rfl)
set_option maxRecDepth 20000 in
theorem hwc_19 : hwM 19 0 ∈ lw_tbl := hT_2 (List.mem_of_getElem? (i := 208) rfl)
set_option maxRecDepth 20000 in
theorem hwc_20 : hwM 20 0 ∈ lw_tbl := hT_3 (List.mem_of_getElem? (i := 31) rfl)
set_option maxRecDepth 20000 in
theorem hwc_21 : hwM 21 0 ∈ lw_tbl := hT_3 (List.mem_of_getElem? (i := 36) rfl)
set_option maxRecDepth 20000 in
theorem hwc_22 : hwM 22 0 ∈ lw_tbl := hT_3 (List.mem_of_getElem? (i := 40) rfl)
set_option maxRecDepth 20000 in
theorem hwc_23 : hwM 23 0 ∈ lw_tbl := hT_3 (List.mem_of_getElem? (i := 47) rfl)
set_option maxRecDepth 20000 in
theorem hwc_24 : hwM 24 0 ∈ lw_tbl := hT_3 (List.mem_of_getElem? (i := 51) rfl)
set_option maxRecDepth 20000 in
theorem hwc_25 : hwM 25 0 ∈ lw_tbl := hT_3 (List.mem_of_getElem? (i := 55) rfl)
set_option maxRecDepth 20000 in
theorem hwc_26 : hwM 26 0 ∈ lw_tbl := hT_3 (List.mem_of_getElem? (i := 59) rfl)
set_option maxRecDepth 20000 in
theorem hwc_27 : hwM 27 0 ∈ lw_tbl := hT_3 (List.mem_of_getElem? (i := 63) rfl)
set_option maxRecDepth 20000 in
theorem hwc_28 : hwM 28 0 ∈ lw_tbl := hT_3 (List.mem_of_getElem? (i := 67) rfl)
set_option maxRecDepth 20000 in
theorem hwc_29 : hwM 29 0 ∈ lw_tbl := hT_3 (List.mem_of_getElem? (i := 71) rfl)
set_option maxRecDepth 20000 in
theorem hwc_30 : hwM 30 0 ∈ lw_tbl := hT_3 (List.mem_of_getElem? (i := 75) rfl)
set_option maxRecDepth 20000 in
theorem hwc_31 : hwM 31 0 ∈ lw_tbl := hT_3 (List.mem_of_getElem? (i := 80) rfl)
set_option maxRecDepth 20000 in
theorem hwc_32 : hwM 32 0 ∈ lw_tbl := hT_3 (List.mem_of_getElem? (i := 84) rfl)
set_option maxRecDepth 20000 in
theorem hwc_33 : hwM 33 0 ∈ lw_tbl := hT_3 (List.mem_of_getElem? (i := 88) rfl)
set_option maxRecDepth 20000 in
theorem hwc_34 : hwM 34 0 ∈ lw_tbl := hT_3 (List.mem_of_getElem? (i := 95) rfl)
set_option maxRecDepth 20000 in
theorem hwc_35 : hwM 35 0 ∈ lw_tbl := hT_3 (List.mem_of_getElem? (i := 99) rfl)
set_option maxRecDepth 20000 in
theorem hwc_36 : hwM 36 0 ∈ lw_tbl := hT_3 (List.mem_of_getElem? (i := 103) rfl)
set_option maxRecDepth 20000 in
theorem hwc_37 : hwM 37 0 ∈ lw_tbl := hT_3 (List.mem_of_getElem? (i := 107) rfl)
set_option maxRecDepth 20000 in
theorem hwc_38 : hwM 38 0 ∈ lw_tbl := hT_3 (List.mem_of_getElem? (i := 111) rfl)
set_option maxRecDepth 20000 in
theorem hwc_39 : hwM 39 0 ∈ lw_tbl := hT_3 (List.mem_of_getElem? (i := 115) rfl)
set_option maxRecDepth 20000 in
theorem hwc_40 : hwM 40 0 ∈ lw_tbl := hT_3 (List.mem_of_getElem? (i := 119) rfl)
set_option maxRecDepth 20000 in
theorem hwc_41 : hwM 41 0 ∈ lw_tbl := hT_3 (List.mem_of_getElem? (i := 124) rfl)
set_option maxRecDepth 20000 in
theorem hwc_42 : hwM 42 0 ∈ lw_tbl := hT_3 (List.mem_of_getElem? (i := 128) rfl)
set_option maxRecDepth 20000 in
theorem hwc_43 : hwM 43 0 ∈ lw_tbl := hT_3 (List.mem_of_getElem? (i := 132) rfl)
set_option maxRecDepth 20000 in
theorem hwc_44 : hwM 44 0 ∈ lw_tbl := hT_3 (List.mem_of_getElem? (i := 136) rfl)
set_option maxRecDepth 20000 in
theorem hwc_45 : hwM 45 0 ∈ lw_tbl := hT_3 (List.mem_of_getElem? (i := 140) rfl)
set_option maxRecDepth 20000 in
theorem hwc_46 : hwM 46 0 ∈ lw_tbl := hT_3 (List.mem_of_getElem? (i := 144) rfl)
set_option maxRecDepth 20000 in
theorem hwc_47 : hwM 47 0 ∈ lw_tbl := hT_3 (List.mem_of_getElem? (i := 151) rfl)
set_option maxRecDepth 20000 in
theorem hwc_48 : hwM 48 0 ∈ lw_tbl := hT_3 (List.mem_of_getElem? (i := 157) rfl)
set_option maxRecDepth 20000 in
theorem hwc_49 : hwM 49 0 ∈ lw_tbl := hT_3 (List.mem_of_getElem? (i := 162) rfl)
set_option maxRecDepth 20000 in
theorem hwc_50 : hwM 50 0 ∈ lw_tbl := hT_3 (List.mem_of_getElem? (i := 169) rfl)
set_option maxRecDepth 20000 in
theorem hwc_51 : hwM 51 0 ∈ lw_tbl := hT_3 (List.mem_of_getElem? (i := 173) rfl)
set_option maxRecDepth 20000 in
theorem hwc_52 : hwM 52 0 ∈ lw_tbl := hT_3 (List.mem_of_getElem? (i := 177) rfl)
set_option maxRecDepth 20000 in
theorem hwc_53 : hwM 53 0 ∈ lw_tbl := hT_3 (List.mem_of_getElem? (i := 181) rfl)
set_option maxRecDepth 20000 in
theorem hwc_54 : hwM 54 0 ∈ lw_tbl := hT_3 (List.mem_of_getElem? (i := 187) rfl)
set_option maxRecDepth 20000 in
theorem hwc_55 : hwM 55 0 ∈ lw_tbl := hT_3 (List.mem_of_getElem? (i := 191) rfl)
set_option maxRecDepth 20000 in
theorem hwc_56 : hwM 56 0 ∈ lw_tbl := hT_3 (List.mem_of_getElem? (i := 195) rfl)
set_option maxRecDepth 20000 in
theorem hwc_57 : hwM 57 0 ∈ lw_tbl := hT_3 (List.mem_of_getElem? (i := 199) rfl)
set_option maxRecDepth 20000 in
theorem hwc_58 : hwM 58 0 ∈ lw_tbl := hT_3 (List.mem_of_getElem? (i := 203) rfl)
set_option maxRecDepth 20000 in
theorem hwc_59 : hwM 59 0 ∈ lw_tbl := hT_3 (List.mem_of_getElem? (i := 208) rfl)
set_option maxRecDepth 20000 in
theorem hwc_60 : hwM 60 0 ∈ lw_tbl := hT_3 (List.mem_of_getElem? (i := 212) rfl)
set_option maxRecDepth 20000 in
theorem hwc_61 : hwM 61 0 ∈ lw_tbl := hT_3 (List.mem_of_getElem? (i := 218) rfl)
set_option maxRecDepth 20000 in
theorem hwc_62 : hwM 62 0 ∈ lw_tbl := hT_3 (List.mem_of_getElem? (i := 222) rfl)
set_option maxRecDepth 20000 in
theorem hwc_63 : hwM 63 0 ∈ lw_tbl := hT_3 (List.mem_of_getElem? (i := 226) rfl)
set_option maxRecDepth 20000 in
theorem hwc_64 : hwM 64 0 ∈ lw_tbl := hT_3 (List.mem_of_getElem? (i := 230) rfl)
set_option maxRecDepth 20000 in
theorem hwc_65 : hwM 65 0 ∈ lw_tbl := hT_3 (List.mem_of_getElem? (i := 234) rfl)
set_option maxRecDepth 20000 in
theorem hwc_66 : hwM 66 0 ∈ lw_tbl := hT_3 (List.mem_of_getElem? (i := 237) rfl)
set_option maxRecDepth 20000 in
theorem hwc_67 : hwM 67 0 ∈ lw_tbl := hT_4 (List.mem_of_getElem? (i := 2) rfl)
set_option maxRecDepth 20000 in
theorem hwc_68 : hwM 68 0 ∈ lw_tbl := hT_4 (List.mem_of_getElem? (i := 7) rfl)
set_option maxRecDepth 20000 in
theorem hwc_69 : hwM 69 0 ∈ lw_tbl := hT_4 (List.mem_of_getElem? (i := 11) rfl)
set_option maxRecDepth 20000 in
theorem hwc_70 : hwM 70 0 ∈ lw_tbl := hT_4 (List.mem_of_getElem? (i := 14) rfl)
set_option maxRecDepth 20000 in
theorem hwc_71 : hwM 71 0 ∈ lw_tbl := hT_4 (List.mem_of_getElem? (i := 19) rfl)
set_option maxRecDepth 20000 in
theorem hwc_72 : hwM 72 0 ∈ lw_tbl := hT_4 (List.mem_of_getElem? (i := 22) rfl)
set_option maxRecDepth 20000 in
theorem hwc_73 : hwM 73 0 ∈ lw_tbl := hT_4 (List.mem_of_getElem? (i := 27) rfl)
set_option maxRecDepth 20000 in
theorem hwc_74 : hwM 74 0 ∈ lw_tbl := hT_4 (List.mem_of_getElem? (i := 31) rfl)
set_option maxRecDepth 20000 in
theorem hwc_75 : hwM 75 0 ∈ lw_tbl := hT_4 (List.mem_of_getElem? (i := 35) rfl)
set_option maxRecDepth 20000 in
theorem hwc_76 : hwM 76 0 ∈ lw_tbl := hT_4 (List.mem_of_getElem? (i := 41) rfl)
set_option maxRecDepth 20000 in
theorem hwc_77 : hwM 77 0 ∈ lw_tbl := hT_4 (List.mem_of_getElem? (i := 46) rfl)
set_option maxRecDepth 20000 in
theorem hwc_78 : hwM 78 0 ∈ lw_tbl := hT_4 (List.mem_of_getElem? (i := 51) rfl)
set_option maxRecDepth 20000 in
theorem hwc_79 : hwM 79 0 ∈ lw_tbl := hT_4 (List.mem_of_getElem? (i := 55) rfl)
set_option maxRecDepth 20000 in
theorem hwc_80 : hwM 80 0 ∈ lw_tbl := hT_4 (List.mem_of_getElem? (i := 58) rfl)
set_option maxRecDepth 20000 in
theorem hwc_81 : hwM 81 0 ∈ lw_tbl := hT_4 (List.mem_of_getElem? (i := 62) rfl)
set_option maxRecDepth 20000 in
theorem hwc_82 : hwM 82 0 ∈ lw_tbl := hT_4 (List.mem_of_getElem? (i := 68) rfl)
set_option maxRecDepth 20000 in
theorem hwc_83 : hwM 83 0 ∈ lw_tbl := hT_4 (List.mem_of_getElem? (i := 73) rfl)
set_option maxRecDepth 20000 in
theorem hwc_84 : hwM 84 0 ∈ lw_tbl := hT_4 (List.mem_of_getElem? (i := 77) rfl)
set_option maxRecDepth 20000 in
theorem hwc_85 : hwM 85 0 ∈ lw_tbl := hT_4 (List.mem_of_getElem? (i := 81) rfl)
set_option maxRecDepth 20000 in
theorem hwc_86 : hwM 86 0 ∈ lw_tbl := hT_4 (List.mem_of_getElem? (i := 85) rfl)
set_option maxRecDepth 20000 in
theorem hwc_87 : hwM 87 0 ∈ lw_tbl := hT_4 (List.mem_of_getElem? (i := 89) rfl)
set_option maxRecDepth 20000 in
theorem hwc_88 : hwM 88 0 ∈ lw_tbl := hT_4 (List.mem_of_getElem? (i := 93) rfl)
set_option maxRecDepth 20000 in
theorem hwc_89 : hwM 89 0 ∈ lw_tbl := hT_4 (List.mem_of_getElem? (i := 97) rfl)
set_option maxRecDepth 20000 in
theorem hwc_90 : hwM 90 0 ∈ lw_tbl := hT_4 (List.mem_of_getElem? (i := 100) rfl)
set_option maxRecDepth 20000 in
theorem hwc_91 : hwM 91 0 ∈ lw_tbl := hT_4 (List.mem_of_getElem? (i := 104) rfl)
set_option maxRecDepth 20000 in
theorem hwc_92 : hwM 92 0 ∈ lw_tbl := hT_4 (List.mem_of_getElem? (i := 126) rfl)
set_option maxRecDepth 20000 in
theorem hwc_93 : hwM 93 0 ∈ lw_tbl := hT_4 (List.mem_of_getElem? (i := 155) rfl)
set_option maxRecDepth 20000 in
theorem hwc_94 : hwM 94 0 ∈ lw_tbl := hT_4 (List.mem_of_getElem? (i := 164) rfl)
set_option maxRecDepth 20000 in
theorem hwc_95 : hwM 95 0 ∈ lw_tbl := hT_5 (List.mem_of_getElem? (i := 13) rfl)
set_option maxRecDepth 20000 in
theorem hwc_96 : hwM 96 0 ∈ lw_tbl := hT_5 (List.mem_of_getElem? (i := 19) rfl)
set_option maxRecDepth 20000 in
theorem hwc_97 : hwM 97 0 ∈ lw_tbl := hT_5 (List.mem_of_getElem? (i := 23) rfl)
set_option maxRecDepth 20000 in
theorem hwc_98 : hwM 98 0 ∈ lw_tbl := hT_5 (List.mem_of_getElem? (i := 27) rfl)
set_option maxRecDepth 20000 in
theorem hwc_99 : hwM 99 0 ∈ lw_tbl := hT_5 (List.mem_of_getElem? (i := 35) rfl)
set_option maxRecDepth 20000 in
theorem hwc_100 : hwM 100 0 ∈ lw_tbl := hT_5 (List.mem_of_getElem? (i := 39) rfl)
set_option maxRecDepth 20000 in
theorem hwc_101 : hwM 101 0 ∈ lw_tbl := hT_5 (List.mem_of_getElem? (i := 43) rfl)
set_option maxRecDepth 20000 in
theorem hwc_102 : hwM 102 0 ∈ lw_tbl := hT_5 (List.mem_of_getElem? (i := 47) rfl)
set_option maxRecDepth 20000 in
theorem hwc_103 : hwM 103 0 ∈ lw_tbl := hT_5 (List.mem_of_getElem? (i := 51) rfl)
set_option maxRecDepth 20000 in
theorem hwc_104 : hwM 104 0 ∈ lw_tbl := hT_5 (List.mem_of_getElem? (i := 55) rfl)
set_option maxRecDepth 20000 in
theorem hwc_105 : hwM 105 0 ∈ lw_tbl := hT_5 (List.mem_of_getElem? (i := 60) rfl)
set_option maxRecDepth 20000 in
theorem hwc_106 : hwM 106 0 ∈ lw_tbl := hT_5 (List.mem_of_getElem? (i := 64) rfl)
set_option maxRecDepth 20000 in
theorem hwc_107 : hwM 107 0 ∈ lw_tbl := hT_5 (List.mem_of_getElem? (i := 68) rfl)
set_option maxRecDepth 20000 in
theorem hwc_108 : hwM 108 0 ∈ lw_tbl := hT_5 (List.mem_of_getElem? (i := 76) rfl)
set_option maxRecDepth 20000 in
theorem hwc_109 : hwM 109 0 ∈ lw_tbl := hT_5 (List.mem_of_getElem? (i := 82) rfl)
set_option maxRecDepth 20000 in
theorem hwc_110 : hwM 110 0 ∈ lw_tbl := hT_5 (List.mem_of_getElem? (i := 87) rfl)
set_option maxRecDepth 20000 in
theorem hwc_111 : hwM 111 0 ∈ lw_tbl := hT_5 (List.mem_of_getElem? (i := 91) rfl)
set_option maxRecDepth 20000 in
theorem hwc_112 : hwM 112 0 ∈ lw_tbl := hT_5 (List.mem_of_getElem? (i := 97) rfl)
set_option maxRecDepth 20000 in
theorem hwc_113 : hwM 113 0 ∈ lw_tbl := hT_5 (List.mem_of_getElem? (i := 102) rfl)
set_option maxRecDepth 20000 in
theorem hwc_114 : hwM 114 0 ∈ lw_tbl := hT_5 (List.mem_of_getElem? (i := 106) rfl)
set_option maxRecDepth 20000 in
theorem hwc_115 : hwM 115 0 ∈ lw_tbl := hT_5 (List.mem_of_getElem? (i := 111) rfl)
set_option maxRecDepth 20000 in
theorem hwc_116 : hwM 116 0 ∈ lw_tbl := hT_5 (List.mem_of_getElem? (i := 140) rfl)
set_option maxRecDepth 20000 in
theorem hwc_117 : hwM 117 0 ∈ lw_tbl := hT_5 (List.mem_of_getElem? (i := 144) rfl)
set_option maxRecDepth 20000 in
theorem hwc_118 : hwM 118 0 ∈ lw_tbl := hT_5 (List.mem_of_getElem? (i := 148) rfl)
set_option maxRecDepth 20000 in
theorem hwc_119 : hwM 119 0 ∈ lw_tbl := hT_5 (List.mem_of_getElem? (i := 157) rfl)
set_option maxRecDepth 20000 in
theorem hwc_120 : hwM 120 0 ∈ lw_tbl := hT_5 (List.mem_of_getElem? (i := 162) rfl)
set_option maxRecDepth 20000 in
theorem hwc_121 : hwM 121 0 ∈ lw_tbl := hT_5 (List.mem_of_getElem? (i := 166) rfl)
set_option maxRecDepth 20000 in
theorem hwc_122 : hwM 122 0 ∈ lw_tbl := hT_5 (List.mem_of_getElem? (i := 170) rfl)
set_option maxRecDepth 20000 in
theorem hwc_123 : hwM 123 0 ∈ lw_tbl := hT_5 (List.mem_of_getElem? (i := 174) rfl)
set_option maxRecDepth 20000 in
theorem hwc_124 : hwM 124 0 ∈ lw_tbl := hT_5 (List.mem_of_getElem? (i := 178) rfl)
set_option maxRecDepth 20000 in
theorem hwc_125 : hwM 125 0 ∈ lw_tbl := hT_5 (List.mem_of_getElem? (i := 182) rfl)
set_option maxRecDepth 20000 in
theorem hwc_126 : hwM 126 0 ∈ lw_tbl := hT_5 (List.mem_of_getElem? (i := 186) rfl)
set_option maxRecDepth 20000 in
theorem hwc_127 : hwM 127 0 ∈ lw_tbl := hT_5 (List.mem_of_getElem? (i := 190) rfl)
set_option maxRecDepth 20000 in
theorem hwc_128 : hwM 128 0 ∈ lw_tbl := hT_5 (List.mem_of_getElem? (i := 197) rfl)
set_option maxRecDepth 20000 in
theorem hwc_129 : hwM 129 0 ∈ lw_tbl := hT_5 (List.mem_of_getElem? (i := 201) rfl)
set_option maxRecDepth 20000 in
theorem hwc_130 : hwM 130 0 ∈ lw_tbl := hT_5 (List.mem_of_getElem? (i := 205) rfl)
set_option maxRecDepth 20000 in
theorem hwc_131 : hwM 131 0 ∈ lw_tbl := hT_5 (List.mem_of_getElem? (i := 210) rfl)
set_option maxRecDepth 20000 in
theorem hwc_132 : hwM 132 0 ∈ lw_tbl := hT_5 (List.mem_of_getElem? (i := 214) rfl)
set_option maxRecDepth 20000 in
theorem hwc_133 : hwM 133 0 ∈ lw_tbl := hT_5 (List.mem_of_getElem? (i := 220) rfl)
set_option maxRecDepth 20000 in
theorem hwc_134 : hwM 134 0 ∈ lw_tbl := hT_5 (List.mem_of_getElem? (i := 224) rfl)
set_option maxRecDepth 20000 in
theorem hwc_135 : hwM 135 0 ∈ lw_tbl := hT_5 (List.mem_of_getElem? (i := 228) rfl)
set_option maxRecDepth 20000 in
theorem hwc_136 : hwM 136 0 ∈ lw_tbl := hT_5 (List.mem_of_getElem? (i := 232) rfl)
set_option maxRecDepth 20000 in
theorem hwc_137 : hwM 137 0 ∈ lw_tbl := hT_5 (List.mem_of_getElem? (i := 239) rfl)
set_option maxRecDepth 20000 in
theorem hwc_138 : hwM 138 0 ∈ lw_tbl := hT_6 (List.mem_of_getElem? (i := 5) rfl)
set_option maxRecDepth 20000 in
theorem hwc_139 : hwM 139 0 ∈ lw_tbl := hT_6 (List.mem_of_getElem? (i := 9) rfl)
set_option maxRecDepth 20000 in
theorem hwc_140 : hwM 140 0 ∈ lw_tbl := hT_6 (List.mem_of_getElem? (i := 13) rfl)
set_option maxRecDepth 20000 in
theorem hwc_141 : hwM 141 0 ∈ lw_tbl := hT_6 (List.mem_of_getElem? (i := 20) rfl)
set_option maxRecDepth 20000 in
theorem hwc_142 : hwM 142 0 ∈ lw_tbl := hT_6 (List.mem_of_getElem? (i := 24) rfl)
set_option maxRecDepth 20000 in
theorem hwc_143 : hwM 143 0 ∈ lw_tbl := hT_6 (List.mem_of_getElem? (i := 34) rfl)
set_option maxRecDepth 20000 in
theorem hwc_144 : hwM 144 0 ∈ lw_tbl := hT_6 (List.mem_of_getElem? (i := 40) rfl)
set_option maxRecDepth 20000 in
theorem hwc_145 : hwM 145 0 ∈ lw_tbl := hT_6 (List.mem_of_getElem? (i := 44) rfl)
set_option maxRecDepth 20000 in
theorem hwc_146 : hwM 146 0 ∈ lw_tbl := hT_6 (List.mem_of_getElem? (i := 50) rfl)
set_option maxRecDepth 20000 in
theorem hwc_147 : hwM 147 0 ∈ lw_tbl := hT_6 (List.mem_of_getElem? (i := 54) rfl)
set_option maxRecDepth 20000 in
theorem hwc_148 : hwM 148 0 ∈ lw_tbl := hT_6 (List.mem_of_getElem? (i := 59) rfl)
set_option maxRecDepth 20000 in
theorem hwc_149 : hwM 149 0 ∈ lw_tbl := hT_6 (List.mem_of_getElem? (i := 63) rfl)
set_option maxRecDepth 20000 in
theorem hwc_150 : hwM 150 0 ∈ lw_tbl := hT_6 (List.mem_of_getElem? (i := 67) rfl)
set_option maxRecDepth 20000 in
theorem hwc_151 : hwM 151 0 ∈ lw_tbl := hT_6 (List.mem_of_getElem? (i := 71) rfl)
set_option maxRecDepth 20000 in
theorem hwc_152 : hwM 152 0 ∈ lw_tbl := hT_6 (List.mem_of_getElem? (i := 75) rfl)
set_option maxRecDepth 20000 in
theorem hwc_153 : hwM 153 0 ∈ lw_tbl := hT_6 (List.mem_of_getElem? (i := 79) rfl)
set_option maxRecDepth 20000 in
theorem hwc_154 : hwM 154 0 ∈ lw_tbl := hT_6 (List.mem_of_getElem? (i := 83) rfl)
set_option maxRecDepth 20000 in
theorem hwc_155 : hwM 155 0 ∈ lw_tbl := hT_6 (List.mem_of_getElem? (i := 88) rfl)
set_option maxRecDepth 20000 in
theorem hwc_156 : hwM 156 0 ∈ lw_tbl := hT_6 (List.mem_of_getElem? (i := 93) rfl)
set_option maxRecDepth 20000 in
theorem hwc_157 : hwM 157 0 ∈ lw_tbl := hT_6 (List.mem_of_getElem? (i := 97) rfl)
set_option maxRecDepth 20000 in
theorem hwc_158 : hwM 158 0 ∈ lw_tbl := hT_6 (List.mem_of_getElem? (i := 104) rfl)
set_option maxRecDepth 20000 in
theorem hwc_159 : hwM 159 0 ∈ lw_tbl := hT_6 (List.mem_of_getElem? (i := 109) rfl)
set_option maxRecDepth 20000 in
theorem hwc_160 : hwM 160 0 ∈ lw_tbl := hT_6 (List.mem_of_getElem? (i := 113) rfl)
set_option maxRecDepth 20000 in
theorem hwc_161 : hwM 161 0 ∈ lw_tbl := hT_6 (List.mem_of_getElem? (i := 117) rfl)
set_option maxRecDepth 20000 in
theorem hwc_162 : hwM 162 0 ∈ lw_tbl := hT_6 (List.mem_of_getElem? (i := 122) rfl)
set_option maxRecDepth 20000 in
theorem hwc_163 : hwM 163 0 ∈ lw_tbl := hT_6 (List.mem_of_getElem? (i := 126) rfl)
set_option maxRecDepth 20000 in
theorem hwc_164 : hwM 164 0 ∈ lw_tbl := hT_6 (List.mem_of_getElem? (i := 132) rfl)
set_option maxRecDepth 20000 in
theorem hwc_165 : hwM 165 0 ∈ lw_tbl := hT_6 (List.mem_of_getElem? (i := 136) rfl)
set_option maxRecDepth 20000 in
theorem hwc_166 : hwM 166 0 ∈ lw_tbl := hT_6 (List.mem_of_getElem? (i := 140) rfl)
set_option maxRecDepth 20000 in
theorem hwc_167 : hwM 167 0 ∈ lw_tbl := hT_6 (List.mem_of_getElem? (i := 144) rfl)
set_option maxRecDepth 20000 in
theorem hwc_168 : hwM 168 0 ∈ lw_tbl := hT_6 (List.mem_of_getElem? (i := 148) rfl)
set_option maxRecDepth 20000 in
theorem hwc_169 : hwM 169 0 ∈ lw_tbl := hT_6 (List.mem_of_getElem? (i := 152) rfl)
set_option maxRecDepth 20000 in
theorem hwc_170 : hwM 170 0 ∈ lw_tbl := hT_6 (List.mem_of_getElem? (i := 156) rfl)
set_option maxRecDepth 20000 in
theorem hwc_171 : hwM 171 0 ∈ lw_tbl := hT_6 (List.mem_of_getElem? (i := 162) rfl)
set_option maxRecDepth 20000 in
theorem hwc_172 : hwM 172 0 ∈ lw_tbl := hT_6 (List.mem_of_getElem? (i := 166) rfl)
set_option maxRecDepth 20000 in
theorem hwc_173 : hwM 173 0 ∈ lw_tbl := hT_6 (List.mem_of_getElem? (i := 170) rfl)
set_option maxRecDepth 20000 in
theorem hwc_174 : hwM 174 0 ∈ lw_tbl := hT_6 (List.mem_of_getElem? (i := 174) rfl)
set_option maxRecDepth 20000 in
theorem hwc_175 : hwM 175 0 ∈ lw_tbl := hT_6 (List.mem_of_getElem? (i := 179) rfl)
set_option maxRecDepth 20000 in
theorem hwc_176 : hwM 176 0 ∈ lw_tbl := hT_6 (List.mem_of_getElem? (i := 183) rfl)
set_option maxRecDepth 20000 in
theorem hwc_177 : hwM 177 0 ∈ lw_tbl := hT_6 (List.mem_of_getElem? (i := 188) rfl)
set_option maxRecDepth 20000 in
theorem hwc_178 : hwM 178 0 ∈ lw_tbl := hT_6 (List.mem_of_getElem? (i := 192) rfl)
set_option maxRecDepth 20000 in
theorem hwc_179 : hwM 179 0 ∈ lw_tbl := hT_6 (List.mem_of_getElem? (i := 196) rfl)
set_option maxRecDepth 20000 in
theorem hwc_180 : hwM 180 0 ∈ lw_tbl := hT_6 (List.mem_of_getElem? (i := 201) rfl)
set_option maxRecDepth 20000 in
theorem hwc_181 : hwM 181 0 ∈ lw_tbl := hT_6 (List.mem_of_getElem? (i := 206) rfl)
set_option maxRecDepth 20000 in
theorem hwc_182 : hwM 182 0 ∈ lw_tbl := hT_6 (List.mem_of_getElem? (i := 210) rfl)
set_option maxRecDepth 20000 in
theorem hwc_183 : hwM 183 0 ∈ lw_tbl := hT_6 (List.mem_of_getElem? (i := 214) rfl)
set_option maxRecDepth 20000 in
theorem hwc_184 : hwM 184 0 ∈ lw_tbl := hT_6 (List.mem_of_getElem? (i := 218) rfl)
set_option maxRecDepth 20000 in
theorem hwc_185 : hwM 185 0 ∈ lw_tbl := hT_6 (List.mem_of_getElem? (i := 222) rfl)
set_option maxRecDepth 20000 in
theorem hwc_186 : hwM 186 0 ∈ lw_tbl := hT_6 (List.mem_of_getElem? (i := 229) rfl)
set_option maxRecDepth 20000 in
theorem hwc_187 : hwM 187 0 ∈ lw_tbl := hT_6 (List.mem_of_getElem? (i := 233) rfl)
set_option maxRecDepth 20000 in
theorem hwc_188 : hwM 188 0 ∈ lw_tbl := hT_6 (List.mem_of_getElem? (i := 237) rfl)
set_option maxRecDepth 20000 in
theorem hwc_189 : hwM 189 0 ∈ lw_tbl := hT_7 (List.mem_of_getElem? (i := 1) rfl)
set_option maxRecDepth 20000 in
theorem hwc_190 : hwM 190 0 ∈ lw_tbl := hT_7 (List.mem_of_getElem? (i := 7) rfl)
set_option maxRecDepth 20000 in
theorem hwc_191 : hwM 191 0 ∈ lw_tbl := hT_7 (List.mem_of_getElem? (i := 11) rfl)
set_option maxRecDepth 20000 in
theorem hwc_192 : hwM 192 0 ∈ lw_tbl := hT_7 (List.mem_of_getElem? (i := 17) rfl)
set_option maxRecDepth 20000 in
theorem hwc_193 : hwM 193 0 ∈ lw_tbl := hT_7 (List.mem_of_getElem? (i := 24) rfl)
set_option maxRecDepth 20000 in
theorem hwc_194 : hwM 194 0 ∈ lw_tbl := hT_7 (List.mem_of_getElem? (i := 31) rfl)
set_option maxRecDepth 20000 in
theorem hwc_195 : hwM 195 0 ∈ lw_tbl := hT_7 (List.mem_of_getElem? (i := 35) rfl)
set_option maxRecDepth 20000 in
theorem hwc_196 : hwM 196 0 ∈ lw_tbl := hT_7 (List.mem_of_getElem? (i := 42) rfl)
set_option maxRecDepth 20000 in
theorem hwc_197 : hwM 197 0 ∈ lw_tbl := hT_7 (List.mem_of_getElem? (i := 49) rfl)
set_option maxRecDepth 20000 in
theorem hwc_198 : hwM 198 0 ∈ lw_tbl := hT_7 (List.mem_of_getElem? (i := 53) rfl)
set_option maxRecDepth 20000 in
theorem hwc_199 : hwM 199 0 ∈ lw_tbl := hT_7 (List.mem_of_getElem? (i := 59) rfl)
set_option maxRecDepth 20000 in
theorem hwc_200 : hwM 200 0 ∈ lw_tbl := hT_7 (List.mem_of_getElem? (i := 64) rfl)
set_option maxRecDepth 20000 in
theorem hwc_201 : hwM 201 0 ∈ lw_tbl := hT_7 (List.mem_of_getElem? (i := 68) rfl)
set_option maxRecDepth 20000 in
theorem hwc_202 : hwM 202 0 ∈ lw_tbl := hT_7 (List.mem_of_getElem? (i := 74) rfl)
set_option maxRecDepth 20000 in
theorem hwc_203 : hwM 203 0 ∈ lw_tbl := hT_7 (List.mem_of_getElem? (i := 78) rfl)
set_option maxRecDepth 20000 in
theorem hwc_204 : hwM 204 0 ∈ lw_tbl := hT_7 (List.mem_of_getElem? (i := 82) rfl)
set_option maxRecDepth 20000 in
theorem hwc_205 : hwM 205 0 ∈ lw_tbl := hT_7 (List.mem_of_getElem? (i := 86) rfl)
set_option maxRecDepth 20000 in
theorem hwc_206 : hwM 206 0 ∈ lw_tbl := hT_7 (List.mem_of_getElem? (i := 94) rfl)
set_option maxRecDepth 20000 in
theorem hwc_207 : hwM 207 0 ∈ lw_tbl := hT_7 (List.mem_of_getElem? (i := 99) rfl)
set_option maxRecDepth 20000 in
theorem hwc_208 : hwM 208 0 ∈ lw_tbl := hT_7 (List.mem_of_getElem? (i := 103) rfl)
set_option maxRecDepth 20000 in
theorem hwc_209 : hwM 209 0 ∈ lw_tbl := hT_7 (List.mem_of_getElem? (i := 106) rfl)
set_option maxRecDepth 20000 in
theorem hwc_210 : hwM 210 0 ∈ lw_tbl := hT_7 (List.mem_of_getElem? (i := 111) rfl)
set_option maxRecDepth 20000 in
theorem hwc_211 : hwM 211 0 ∈ lw_tbl := hT_7 (List.mem_of_getElem? (i := 115) rfl)
set_option maxRecDepth 20000 in
theorem hwc_212 : hwM 212 0 ∈ lw_tbl := hT_7 (List.mem_of_getElem? (i := 119) rfl)
set_option maxRecDepth 20000 in
theorem hwc_213 : hwM 213 0 ∈ lw_tbl := hT_7 (List.mem_of_getElem? (i := 123) rfl)
set_option maxRecDepth 20000 in
theorem hwc_214 : hwM 214 0 ∈ lw_tbl := hT_7 (List.mem_of_getElem? (i := 127) rfl)
set_option maxRecDepth 20000 in
theorem hwc_215 : hwM 215 0 ∈ lw_tbl := hT_7 (List.mem_of_getElem? (i := 131) rfl)
set_option maxRecDepth 20000 in
theorem hwc_216 : hwM 216 0 ∈ lw_tbl := hT_7 (List.mem_of_getElem? (i := 135) rfl)
set_option maxRecDepth 20000 in
theorem hwc_217 : hwM 217 0 ∈ lw_tbl := hT_7 (List.mem_of_getElem? (i := 141) rfl)
set_option maxRecDepth 20000 in
theorem hwc_218 : hwM 218 0 ∈ lw_tbl := hT_7 (List.mem_of_getElem? (i := 145) rfl)
set_option maxRecDepth 20000 in
theorem hwc_219 : hwM 219 0 ∈ lw_tbl := hT_7 (List.mem_of_getElem? (i := 151) rfl)
set_option maxRecDepth 20000 in
theorem hwc_220 : hwM 220 0 ∈ lw_tbl := hT_7 (List.mem_of_getElem? (i := 155) rfl)
set_option maxRecDepth 20000 in
theorem hwc_221 : hwM 221 0 ∈ lw_tbl := hT_7 (List.mem_of_getElem? (i := 159) rfl)
set_option maxRecDepth 20000 in
theorem hwc_222 : hwM 222 0 ∈ lw_tbl := hT_7 (List.mem_of_getElem? (i := 164) rfl)
set_option maxRecDepth 20000 in
theorem hwc_223 : hwM 223 0 ∈ lw_tbl := hT_7 (List.mem_of_getElem? (i := 169) rfl)
set_option maxRecDepth 20000 in
theorem hwc_224 : hwM 224 0 ∈ lw_tbl := hT_7 (List.mem_of_getElem? (i := 174) rfl)
set_option maxRecDepth 20000 in
theorem hwc_225 : hwM 225 0 ∈ lw_tbl := hT_7 (List.mem_of_getElem? (i := 178) rfl)
set_option maxRecDepth 20000 in
theorem hwc_226 : hwM 226 0 ∈ lw_tbl := hT_7 (List.mem_of_getElem? (i := 183) rfl)
set_option maxRecDepth 20000 in
theorem hwc_227 : hwM 227 0 ∈ lw_tbl := hT_7 (List.mem_of_getElem? (i := 189) rfl)
set_option maxRecDepth 20000 in
theorem hwc_228 : hwM 228 0 ∈ lw_tbl := hT_7 (List.mem_of_getElem? (i := 198) rfl)
set_option maxRecDepth 20000 in
theorem hwc_229 : hwM 229 0 ∈ lw_tbl := hT_7 (List.mem_of_getElem? (i := 202) rfl)
set_option maxRecDepth 20000 in
theorem hwc_230 : hwM 230 0 ∈ lw_tbl := hT_7 (List.mem_of_getElem? (i := 210) rfl)
set_option maxRecDepth 20000 in
theorem hwc_231 : hwM 231 0 ∈ lw_tbl := hT_7 (List.mem_of_getElem? (i := 214) rfl)
set_option maxRecDepth 20000 in
theorem hwc_232 : hwM 232 0 ∈ lw_tbl := hT_7 (List.mem_of_getElem? (i := 218) rfl)
set_option maxRecDepth 20000 in
theorem hwc_233 : hwM 233 0 ∈ lw_tbl := hT_7 (List.mem_of_getElem? (i := 223) rfl)
set_option maxRecDepth 20000 in
theorem hwc_234 : hwM 234 0 ∈ lw_tbl := hT_7 (List.mem_of_getElem? (i := 227) rfl)
set_option maxRecDepth 20000 in
theorem hwc_235 : hwM 235 0 ∈ lw_tbl := hT_7 (List.mem_of_getElem? (i := 231) rfl)
set_option maxRecDepth 20000 in
theorem hwc_236 : hwM 236 0 ∈ lw_tbl := hT_7 (List.mem_of_getElem? (i := 235) rfl)
set_option maxRecDepth 20000 in
theorem hwc_237 : hwM 237 0 ∈ lw_tbl := hT_7 (List.mem_of_getElem? (i := 239) rfl)
set_option maxRecDepth 20000 in
theorem hwc_238 : hwM 238 0 ∈ lw_tbl := hT_8 (List.mem_of_getElem? (i := 3) rfl)
set_option maxRecDepth 20000 in
theorem hwc_239 : hwM 239 0 ∈ lw_tbl := hT_8 (List.mem_of_getElem? (i := 7) rfl)
set_option maxRecDepth 20000 in
theorem hwc_240 : hwM 240 0 ∈ lw_tbl := hT_8 (List.mem_of_getElem? (i := 11) rfl)
set_option maxRecDepth 20000 in
theorem hwc_241 : hwM 241 0 ∈ lw_tbl := hT_8 (List.mem_of_getElem? (i := 15) rfl)
set_option maxRecDepth 20000 in
theorem hwc_242 : hwM 242 0 ∈ lw_tbl := hT_8 (List.mem_of_getElem? (i := 20) rfl)
set_option maxRecDepth 20000 in
theorem hwc_243 : hwM 243 0 ∈ lw_tbl := hT_8 (List.mem_of_getElem? (i := 23) rfl)
set_option maxRecDepth 20000 in
theorem hwc_244 : hwM 244 0 ∈ lw_tbl := hT_8 (List.mem_of_getElem? (i := 27) rfl)
set_option maxRecDepth 20000 in
theorem hwc_245 : hwM 245 0 ∈ lw_tbl := hT_8 (List.mem_of_getElem? (i := 31) rfl)
set_option maxRecDepth 20000 in
theorem hwc_246 : hwM 246 0 ∈ lw_tbl := hT_8 (List.mem_of_getElem? (i := 35) rfl)
set_option maxRecDepth 20000 in
theorem hwc_247 : hwM 247 0 ∈ lw_tbl := hT_8 (List.mem_of_getElem? (i := 38) rfl)
set_option maxRecDepth 20000 in
theorem hwc_248 : hwM 248 0 ∈ lw_tbl := hT_8 (List.mem_of_getElem? (i := 42) rfl)
set_option maxRecDepth 20000 in
theorem hwc_249 : hwM 249 0 ∈ lw_tbl := hT_8 (List.mem_of_getElem? (i := 46) rfl)
set_option maxRecDepth 20000 in
theorem hwc_250 : hwM 250 0 ∈ lw_tbl := hT_8 (List.mem_of_getElem? (i := 51) rfl)
set_option maxRecDepth 20000 in
theorem hwc_251 : hwM 251 0 ∈ lw_tbl := hT_8 (List.mem_of_getElem? (i := 55) rfl)
set_option maxRecDepth 20000 in
theorem hwc_252 : hwM 252 0 ∈ lw_tbl := hT_8 (List.mem_of_getElem? (i := 59) rfl)
set_option maxRecDepth 20000 in
theorem hwc_253 : hwM 253 0 ∈ lw_tbl := hT_8 (List.mem_of_getElem? (i := 63) rfl)
set_option maxRecDepth 20000 in
theorem hwc_254 : hwM 254 0 ∈ lw_tbl := hT_8 (List.mem_of_getElem? (i := 67) rfl)
set_option maxRecDepth 20000 in
theorem hwc_255 : hwM 255 0 ∈ lw_tbl := hT_8 (List.mem_of_getElem? (i := 71) rfl)
set_option maxRecDepth 20000 in
theorem hwc_256 : hwM 256 0 ∈ lw_tbl := hT_8 (List.mem_of_getElem? (i := 76) rfl)
set_option maxRecDepth 20000 in
theorem hwc_257 : hwM 257 0 ∈ lw_tbl := hT_8 (List.mem_of_getElem? (i := 81) rfl)
set_option maxRecDepth 20000 in
theorem hwc_258 : hwM 258 0 ∈ lw_tbl := hT_8 (List.mem_of_getElem? (i := 85) rfl)
set_option maxRecDepth 20000 in
theorem hwc_259 : hwM 259 0 ∈ lw_tbl := hT_8 (List.mem_of_getElem? (i := 89) rfl)
set_option maxRecDepth 20000 in
theorem hwc_260 : hwM 260 0 ∈ lw_tbl := hT_8 (List.mem_of_getElem? (i := 93) rfl)
set_option maxRecDepth 20000 in
theorem hwc_261 : hwM 261 0 ∈ lw_tbl := hT_8 (List.mem_of_getElem? (i := 97) rfl)
set_option maxRecDepth 20000 in
theorem hwc_262 : hwM 262 0 ∈ lw_tbl := hT_8 (List.mem_of_getElem? (i := 102) rfl)
set_option maxRecDepth 20000 in
theorem hwc_263 : hwM 263 0 ∈ lw_tbl := hT_8 (List.mem_of_getElem? (i := 106) rfl)
set_option maxRecDepth 20000 in
theorem hwc_264 : hwM 264 0 ∈ lw_tbl := hT_8 (List.mem_of_getElem? (i := 110) rfl)
set_option maxRecDepth 20000 in
theorem hwc_265 : hwM 265 0 ∈ lw_tbl := hT_8 (List.mem_of_getElem? (i := 116) rfl)
set_option maxRecDepth 20000 in
theorem hwc_266 : hwM 266 0 ∈ lw_tbl := hT_8 (List.mem_of_getElem? (i := 120) rfl)
set_option maxRecDepth 20000 in
theorem hwc_267 : hwM 267 0 ∈ lw_tbl := hT_8 (List.mem_of_getElem? (i := 124) rfl)
set_option maxRecDepth 20000 in
theorem hwc_268 : hwM 268 0 ∈ lw_tbl := hT_8 (List.mem_of_getElem? (i := 128) rfl)
set_option maxRecDepth 20000 in
theorem hwc_269 : hwM 269 0 ∈ lw_tbl := hT_8 (List.mem_of_getElem? (i := 132) rfl)
set_option maxRecDepth 20000 in
theorem hwc_270 : hwM 270 0 ∈ lw_tbl := hT_8 (List.mem_of_getElem? (i := 136) rfl)
set_option maxRecDepth 20000 in
theorem hwc_271 : hwM 271 0 ∈ lw_tbl := hT_8 (List.mem_of_getElem? (i := 139) rfl)
set_option maxRecDepth 20000 in
theorem hwc_272 : hwM 272 0 ∈ lw_tbl := hT_8 (List.mem_of_getElem? (i := 146) rfl)
set_option maxRecDepth 20000 in
theorem hwc_273 : hwM 273 0 ∈ lw_tbl := hT_8 (List.mem_of_getElem? (i := 150) rfl)
set_option maxRecDepth 20000 in
theorem hwc_274 : hwM 274 0 ∈ lw_tbl := hT_8 (List.mem_of_getElem? (i := 154) rfl)
set_option maxRecDepth 20000 in
theorem hwc_275 : hwM 275 0 ∈ lw_tbl := hT_8 (List.mem_of_getElem? (i := 158) rfl)
set_option maxRecDepth 20000 in
theorem hwc_276 : hwM 276 0 ∈ lw_tbl := hT_8 (List.mem_of_getElem? (i := 162) rfl)
set_option maxRecDepth 20000 in
theorem hwc_277 : hwM 277 0 ∈ lw_tbl := hT_8 (List.mem_of_getElem? (i := 166) rfl)
set_option maxRecDepth 20000 in
theorem hwc_278 : hwM 278 0 ∈ lw_tbl := hT_8 (List.mem_of_getElem? (i := 170) rfl)
set_option maxRecDepth 20000 in
theorem hwc_279 : hwM 279 0 ∈ lw_tbl := hT_8 (List.mem_of_getElem? (i := 174) rfl)
set_option maxRecDepth 20000 in
theorem hwc_280 : hwM 280 0 ∈ lw_tbl := hT_8 (List.mem_of_getElem? (i := 178) rfl)
set_option maxRecDepth 20000 in
theorem hwc_281 : hwM 281 0 ∈ lw_tbl := hT_8 (List.mem_of_getElem? (i := 182) rfl)
set_option maxRecDepth 20000 in
theorem hwc_282 : hwM 282 0 ∈ lw_tbl := hT_8 (List.mem_of_getElem? (i := 186) rfl)
set_option maxRecDepth 20000 in
theorem hwc_283 : hwM 283 0 ∈ lw_tbl := hT_8 (List.mem_of_getElem? (i := 189) rfl)
set_option maxRecDepth 20000 in
theorem hwc_284 : hwM 284 0 ∈ lw_tbl := hT_8 (List.mem_of_getElem? (i := 198) rfl)
set_option maxRecDepth 20000 in
theorem hwc_285 : hwM 285 0 ∈ lw_tbl := hT_8 (List.mem_of_getElem? (i := 202) rfl)
set_option maxRecDepth 20000 in
theorem hwc_286 : hwM 286 0 ∈ lw_tbl := hT_8 (List.mem_of_getElem? (i := 206) rfl)
set_option maxRecDepth 20000 in
theorem hwc_287 : hwM 287 0 ∈ lw_tbl := hT_8 (List.mem_of_getElem? (i := 210) rfl)
set_option maxRecDepth 20000 in
theorem hwc_288 : hwM 288 0 ∈ lw_tbl := hT_8 (List.mem_of_getElem? (i := 214) rfl)
set_option maxRecDepth 20000 in
theorem hwc_289 : hwM 289 0 ∈ lw_tbl := hT_8 (List.mem_of_getElem? (i := 218) rfl)
set_option maxRecDepth 20000 in
theorem hwc_290 : hwM 290 0 ∈ lw_tbl := hT_8 (List.mem_of_getElem? (i := 222) rfl)
set_option maxRecDepth 20000 in
theorem hwc_291 : hwM 291 0 ∈ lw_tbl := hT_8 (List.mem_of_getElem? (i := 227) rfl)
set_option maxRecDepth 20000 in
theorem hwc_292 : hwM 292 0 ∈ lw_tbl := hT_8 (List.mem_of_getElem? (i := 231) rfl)
set_option maxRecDepth 20000 in
theorem hwc_293 : hwM 293 0 ∈ lw_tbl := hT_8 (List.mem_of_getElem? (i := 235) rfl)
set_option maxRecDepth 20000 in
theorem hwc_294 : hwM 294 0 ∈ lw_tbl := hT_8 (List.mem_of_getElem? (i := 239) rfl)
set_option maxRecDepth 20000 in
theorem hwc_295 : hwM 295 0 ∈ lw_tbl := hT_9 (List.mem_of_getElem? (i := 5) rfl)
set_option maxRecDepth 20000 in
theorem hwc_296 : hwM 296 0 ∈ lw_tbl := hT_9 (List.mem_of_getElem? (i := 9) rfl)
set_option maxRecDepth 20000 in
theorem hwc_297 : hwM 297 0 ∈ lw_tbl := hT_9 (List.mem_of_getElem? (i := 13) rfl)
set_option maxRecDepth 20000 in
theorem hwc_298 : hwM 298 0 ∈ lw_tbl := hT_9 (List.mem_of_getElem? (i := 18) rfl)
set_option maxRecDepth 20000 in
theorem hwc_299 : hwM 299 0 ∈ lw_tbl := hT_9 (List.mem_of_getElem? (i := 22) rfl)
set_option maxRecDepth 20000 in
theorem hwc_300 : hwM 300 0 ∈ lw_tbl := hT_9 (List.mem_of_getElem? (i := 27) rfl)
set_option maxRecDepth 20000 in
theorem hwc_301 : hwM 301 0 ∈ lw_tbl := hT_9 (List.mem_of_getElem? (i := 31) rfl)
set_option maxRecDepth 20000 in
theorem hwc_302 : hwM 302 0 ∈ lw_tbl := hT_9 (List.mem_of_getElem? (i := 35) rfl)
set_option maxRecDepth 20000 in
theorem hwc_303 : hwM 303 0 ∈ lw_tbl := hT_9 (List.mem_of_getElem? (i := 41) rfl)
set_option maxRecDepth 20000 in
theorem hwc_304 : hwM 304 0 ∈ lw_tbl := hT_9 (List.mem_of_getElem? (i := 48) rfl)
set_option maxRecDepth 20000 in
theorem hwc_305 : hwM 305 0 ∈ lw_tbl := hT_9 (List.mem_of_getElem? (i := 52) rfl)
set_option maxRecDepth 20000 in
theorem hwc_306 : hwM 306 0 ∈ lw_tbl := hT_10 (List.mem_of_getElem? (i := 164) rfl)
set_option maxRecDepth 20000 in
theorem hwc_307 : hwM 307 0 ∈ lw_tbl := hT_10 (List.mem_of_getElem? (i := 168) rfl)
set_option maxRecDepth 20000 in
theorem hwc_308 : hwM 308 0 ∈ lw_tbl := hT_10 (List.mem_of_getElem? (i := 172) rfl)
set_option maxRecDepth 20000 in
theorem hwc_309 : hwM 309 0 ∈ lw_tbl := hT_10 (List.mem_of_getElem? (i := 176) rfl)
set_option maxRecDepth 20000 in
theorem hwc_310 : hwM 310 0 ∈ lw_tbl := hT_10 (List.mem_of_getElem? (i := 180) rfl)
set_option maxRecDepth 20000 in
theorem hwc_311 : hwM 311 0 ∈ lw_tbl := hT_10 (List.mem_of_getElem? (i := 186) rfl)
set_option maxRecDepth 20000 in
theorem hwc_312 : hwM 312 0 ∈ lw_tbl := hT_10 (List.mem_of_getElem? (i := 190) rfl)
set_option maxRecDepth 20000 in
theorem hwc_313 : hwM 313 0 ∈ lw_tbl := hT_10 (List.mem_of_getElem? (i := 196) rfl)
set_option maxRecDepth 20000 in
theorem hwc_314 : hwM 314 0 ∈ lw_tbl := hT_10 (List.mem_of_getElem? (i := 200) rfl)
set_option maxRecDepth 20000 in
theorem hwc_315 : hwM 315 0 ∈ lw_tbl := hT_10 (List.mem_of_getElem? (i := 204) rfl)
set_option maxRecDepth 20000 in
theorem hwc_316 : hwM 316 0 ∈ lw_tbl := hT_10 (List.mem_of_getElem? (i := 208) rfl)
set_option maxRecDepth 20000 in
theorem hwc_317 : hwM 317 0 ∈ lw_tbl := hT_10 (List.mem_of_getElem? (i := 212) rfl)
set_option maxRecDepth 20000 in
theorem hwc_318 : hwM 318 0 ∈ lw_tbl := hT_10 (List.mem_of_getElem? (i := 216) rfl)
set_option maxRecDepth 20000 in
theorem hwc_319 : hwM 319 0 ∈ lw_tbl := hT_10 (List.mem_of_getElem? (i := 220) rfl)
set_option maxRecDepth 20000 in
theorem hwc_320 : hwM 320 0 ∈ lw_tbl := hT_10 (List.mem_of_getElem? (i := 225) rfl)
set_option maxRecDepth 20000 in
theorem hwc_321 : hwM 321 0 ∈ lw_tbl := hT_10 (List.mem_of_getElem? (i := 229) rfl)
set_option maxRecDepth 20000 in
theorem hwc_322 : hwM 322 0 ∈ lw_tbl := hT_10 (List.mem_of_getElem? (i := 233) rfl)
set_option maxRecDepth 20000 in
theorem hwc_323 : hwM 323 0 ∈ lw_tbl := hT_10 (List.mem_of_getElem? (i := 238) rfl)
set_option maxRecDepth 20000 in
theorem hwc_324 : hwM 324 0 ∈ lw_tbl := hT_11 (List.mem_of_getElem? (i := 2) rfl)
set_option maxRecDepth 20000 in
theorem hwc_325 : hwM 325 0 ∈ lw_tbl := hT_11 (List.mem_of_getElem? (i := 7) rfl)
set_option maxRecDepth 20000 in
theorem hwc_326 : hwM 326 0 ∈ lw_tbl := hT_11 (List.mem_of_getElem? (i := 12) rfl)
set_option maxRecDepth 20000 in
theorem hwc_327 : hwM 327 0 ∈ lw_tbl := hT_11 (List.mem_of_getElem? (i := 16) rfl)
set_option maxRecDepth 20000 in
theorem hwc_328 : hwM 328 0 ∈ lw_tbl := hT_11 (List.mem_of_getElem? (i := 20) rfl)
set_option maxRecDepth 20000 in
theorem hwc_329 : hwM 329 0 ∈ lw_tbl := hT_11 (List.mem_of_getElem? (i := 24) rfl)
set_option maxRecDepth 20000 in
theorem hwc_330 : hwM 330 0 ∈ lw_tbl := hT_11 (List.mem_of_getElem? (i := 29) rfl)
set_option maxRecDepth 20000 in
theorem hwc_331 : hwM 331 0 ∈ lw_tbl := hT_11 (List.mem_of_getElem? (i := 33) rfl)
set_option maxRecDepth 20000 in
theorem hwc_332 : hwM 332 0 ∈ lw_tbl := hT_11 (List.mem_of_getElem? (i := 37) rfl)
set_option maxRecDepth 20000 in
theorem hwc_333 : hwM 333 0 ∈ lw_tbl := hT_11 (List.mem_of_getElem? (i := 41) rfl)
set_option maxRecDepth 20000 in
theorem hwc_334 : hwM 334 0 ∈ lw_tbl := hT_11 (List.mem_of_getElem? (i := 45) rfl)
set_option maxRecDepth 20000 in
theorem hwc_335 : hwM 335 0 ∈ lw_tbl := hT_11 (List.mem_of_getElem? (i := 49) rfl)
set_option maxRecDepth 20000 in
theorem hwc_336 : hwM 336 0 ∈ lw_tbl := hT_11 (List.mem_of_getElem? (i := 53) rfl)
set_option maxRecDepth 20000 in
theorem hwc_337 : hwM 337 0 ∈ lw_tbl := hT_11 (List.mem_of_getElem? (i := 57) rfl)
set_option maxRecDepth 20000 in
theorem hwc_338 : hwM 338 0 ∈ lw_tbl := hT_11 (List.mem_of_getElem? (i := 61) rfl)
set_option maxRecDepth 20000 in
theorem hwc_339 : hwM 339 0 ∈ lw_tbl := hT_11 (List.mem_of_getElem? (i := 65) rfl)
set_option maxRecDepth 20000 in
theorem hwc_340 : hwM 340 0 ∈ lw_tbl := hT_11 (List.mem_of_getElem? (i := 69) rfl)
set_option maxRecDepth 20000 in
theorem hwc_341 : hwM 341 0 ∈ lw_tbl := hT_11 (List.mem_of_getElem? (i := 73) rfl)
set_option maxRecDepth 20000 in
theorem hwc_342 : hwM 342 0 ∈ lw_tbl := hT_11 (List.mem_of_getElem? (i := 77) rfl)
set_option maxRecDepth 20000 in
theorem hwc_343 : hwM 343 0 ∈ lw_tbl := hT_11 (List.mem_of_getElem? (i := 81) rfl)
set_option maxRecDepth 20000 in
theorem hwc_344 : hwM 344 0 ∈ lw_tbl := hT_11 (List.mem_of_getElem? (i := 85) rfl)
set_option maxRecDepth 20000 in
theorem hwc_345 : hwM 345 0 ∈ lw_tbl := hT_11 (List.mem_of_getElem? (i := 89) rfl)
set_option maxRecDepth 20000 in
theorem hwc_346 : hwM 346 0 ∈ lw_tbl := hT_11 (List.mem_of_getElem? (i := 93) rfl)
set_option maxRecDepth 20000 in
theorem hwc_347 : hwM 347 0 ∈ lw_tbl := hT_11 (List.mem_of_getElem? (i := 97) rfl)
set_option maxRecDepth 20000 in
theorem hwc_348 : hwM 348 0 ∈ lw_tbl := hT_11 (List.mem_of_getElem? (i := 101) rfl)
set_option maxRecDepth 20000 in
theorem hwc_349 : hwM 349 0 ∈ lw_tbl := hT_11 (List.mem_of_getElem? (i := 105) rfl)
set_option maxRecDepth 20000 in
theorem hwc_350 : hwM 350 0 ∈ lw_tbl := hT_11 (List.mem_of_getElem? (i := 109) rfl)
set_option maxRecDepth 20000 in
theorem hwc_351 : hwM 351 0 ∈ lw_tbl := hT_11 (List.mem_of_getElem? (i := 113) rfl)
set_option maxRecDepth 20000 in
theorem hwc_352 : hwM 352 0 ∈ lw_tbl := hT_11 (List.mem_of_getElem? (i := 117) rfl)
set_option maxRecDepth 20000 in
theorem hwc_353 : hwM 353 0 ∈ lw_tbl := hT_11 (List.mem_of_getElem? (i := 121) rfl)
set_option maxRecDepth 20000 in
theorem hwc_354 : hwM 354 0 ∈ lw_tbl := hT_11 (List.mem_of_getElem? (i := 126) rfl)
set_option maxRecDepth 20000 in
theorem hwc_355 : hwM 355 0 ∈ lw_tbl := hT_11 (List.mem_of_getElem? (i := 131) rfl)
set_option maxRecDepth 20000 in
theorem hwc_356 : hwM 356 0 ∈ lw_tbl := hT_11 (List.mem_of_getElem? (i := 135) rfl)
set_option maxRecDepth 20000 in
theorem hwc_357 : hwM 357 0 ∈ lw_tbl := hT_11 (List.mem_of_getElem? (i := 139) rfl)
set_option maxRecDepth 20000 in
theorem hwc_358 : hwM 358 0 ∈ lw_tbl := hT_11 (List.mem_of_getElem? (i := 147) rfl)
set_option maxRecDepth 20000 in
theorem hwc_359 : hwM 359 0 ∈ lw_tbl := hT_11 (List.mem_of_getElem? (i := 151) rfl)
set_option maxRecDepth 20000 in
theorem hwc_360 : hwM 360 0 ∈ lw_tbl := hT_11 (List.mem_of_getElem? (i := 155) rfl)
set_option maxRecDepth 20000 in
theorem hwc_361 : hwM 361 0 ∈ lw_tbl := hT_11 (List.mem_of_getElem? (i := 158) rfl)
set_option maxRecDepth 20000 in
theorem hwc_362 : hwM 362 0 ∈ lw_tbl := hT_11 (List.mem_of_getElem? (i := 163) rfl)
set_option maxRecDepth 20000 in
theorem hwc_363 : hwM 363 0 ∈ lw_tbl := hT_11 (List.mem_of_getElem? (i := 167) rfl)
set_option maxRecDepth 20000 in
theorem hwc_364 : hwM 364 0 ∈ lw_tbl := hT_11 (List.mem_of_getElem? (i := 171) rfl)
set_option maxRecDepth 20000 in
theorem hwc_365 : hwM 365 0 ∈ lw_tbl := hT_11 (List.mem_of_getElem? (i := 175) rfl)
set_option maxRecDepth 20000 in
theorem hwc_366 : hwM 366 0 ∈ lw_tbl := hT_11 (List.mem_of_getElem? (i := 179) rfl)
set_option maxRecDepth 20000 in
theorem hwc_367 : hwM 367 0 ∈ lw_tbl := hT_11 (List.mem_of_getElem? (i := 183) rfl)
set_option maxRecDepth 20000 in
theorem hwc_368 : hwM 368 0 ∈ lw_tbl := hT_11 (List.mem_of_getElem? (i := 189) rfl)
set_option maxRecDepth 20000 in
theorem hwc_369 : hwM 369 0 ∈ lw_tbl := hT_11 (List.mem_of_getElem? (i := 193) rfl)
set_option maxRecDepth 20000 in
theorem hwc_370 : hwM 370 0 ∈ lw_tbl := hT_11 (List.mem_of_getElem? (i := 197) rfl)
set_option maxRecDepth 20000 in
theorem hwc_371 : hwM 371 0 ∈ lw_tbl := hT_11 (List.mem_of_getElem? (i := 202) rfl)
set_option maxRecDepth 20000 in
theorem hwc_372 : hwM 372 0 ∈ lw_tbl := hT_11 (List.mem_of_getElem? (i := 207) rfl)
set_option maxRecDepth 20000 in
theorem hwc_373 : hwM 373 0 ∈ lw_tbl := hT_11 (List.mem_of_getElem? (i := 212) rfl)
set_option maxRecDepth 20000 in
theorem hwc_374 : hwM 374 0 ∈ lw_tbl := hT_11 (List.mem_of_getElem? (i := 217) rfl)
set_option maxRecDepth 20000 in
theorem hwc_375 : hwM 375 0 ∈ lw_tbl := hT_11 (List.mem_of_getElem? (i := 223) rfl)
set_option maxRecDepth 20000 in
theorem hwc_376 : hwM 376 0 ∈ lw_tbl := hT_11 (List.mem_of_getElem? (i := 227) rfl)
set_option maxRecDepth 20000 in
theorem hwc_377 : hwM 377 0 ∈ lw_tbl := hT_11 (List.mem_of_getElem? (i := 234) rfl)
set_option maxRecDepth 20000 in
theorem hwc_378 : hwM 378 0 ∈ lw_tbl := hT_11 (List.mem_of_getElem? (i := 239) rfl)
set_option maxRecDepth 20000 in
theorem hwc_379 : hwM 379 0 ∈ lw_tbl := hT_12 (List.mem_of_getElem? (i := 3) rfl)
set_option maxRecDepth 20000 in
theorem hwc_380 : hwM 380 0 ∈ lw_tbl := hT_12 (List.mem_of_getElem? (i := 8) rfl)
set_option maxRecDepth 20000 in
theorem hwc_381 : hwM 381 0 ∈ lw_tbl := hT_12 (List.mem_of_getElem? (i := 12) rfl)
set_option maxRecDepth 20000 in
theorem hwc_382 : hwM 382 0 ∈ lw_tbl := hT_12 (List.mem_of_getElem? (i := 17) rfl)
set_option maxRecDepth 20000 in
theorem hwc_383 : hwM 383 0 ∈ lw_tbl := hT_12 (List.mem_of_getElem? (i := 21) rfl)
set_option maxRecDepth 20000 in
theorem hwc_384 : hwM 384 0 ∈ lw_tbl := hT_12 (List.mem_of_getElem? (i := 25) rfl)
set_option maxRecDepth 20000 in
theorem hwc_385 : hwM 385 0 ∈ lw_tbl := hT_12 (List.mem_of_getElem? (i := 29) rfl)
set_option maxRecDepth 20000 in
theorem hwc_386 : hwM 386 0 ∈ lw_tbl := hT_12 (List.mem_of_getElem? (i := 33) rfl)
set_option maxRecDepth 20000 in
theorem hwc_387 : hwM 387 0 ∈ lw_tbl := hT_12 (List.mem_of_getElem? (i := 37) rfl)
set_option maxRecDepth 20000 in
theorem hwc_388 : hwM 388 0 ∈ lw_tbl := hT_12 (List.mem_of_getElem? (i := 41) rfl)
set_option maxRecDepth 20000 in
theorem hwc_389 : hwM 389 0 ∈ lw_tbl := hT_12 (List.mem_of_getElem? (i := 46) rfl)
set_option maxRecDepth 20000 in
theorem hwc_390 : hwM 390 0 ∈ lw_tbl := hT_12 (List.mem_of_getElem? (i := 51) rfl)
set_option maxRecDepth 20000 in
theorem hwc_391 : hwM 391 0 ∈ lw_tbl := hT_12 (List.mem_of_getElem? (i := 56) rfl)
set_option maxRecDepth 20000 in
theorem hwc_392 : hwM 392 0 ∈ lw_tbl := hT_12 (List.mem_of_getElem? (i := 61) rfl)
set_option maxRecDepth 20000 in
theorem hwc_393 : hwM 393 0 ∈ lw_tbl := hT_12 (List.mem_of_getElem? (i := 65) rfl)
set_option maxRecDepth 20000 in
theorem hwc_394 : hwM 394 0 ∈ lw_tbl := hT_12 (List.mem_of_getElem? (i := 69) rfl)
set_option maxRecDepth 20000 in
theorem hwc_395 : hwM 395 0 ∈ lw_tbl := hT_12 (List.mem_of_getElem? (i := 74) rfl)
set_option maxRecDepth 20000 in
theorem hwc_396 : hwM 396 0 ∈ lw_tbl := hT_12 (List.mem_of_getElem? (i := 80) rfl)
set_option maxRecDepth 20000 in
theorem hwc_397 : hwM 397 0 ∈ lw_tbl := hT_12 (List.mem_of_getElem? (i := 86) rfl)
set_option maxRecDepth 20000 in
theorem hwc_398 : hwM 398 0 ∈ lw_tbl := hT_12 (List.mem_of_getElem? (i := 90) rfl)
set_option maxRecDepth 20000 in
theorem hwc_399 : hwM 399 0 ∈ lw_tbl := hT_12 (List.mem_of_getElem? (i := 94) rfl)
set_option maxRecDepth 20000 in
theorem hwc_400 : hwM 400 0 ∈ lw_tbl := hT_12 (List.mem_of_getElem? (i := 98) rfl)
set_option maxRecDepth 20000 in
theorem hwc_401 : hwM 401 0 ∈ lw_tbl := hT_12 (List.mem_of_getElem? (i := 102) rfl)
set_option maxRecDepth 20000 in
theorem hwc_402 : hwM 402 0 ∈ lw_tbl := hT_12 (List.mem_of_getElem? (i := 106) rfl)
set_option maxRecDepth 20000 in
theorem hwc_403 : hwM 403 0 ∈ lw_tbl := hT_12 (List.mem_of_getElem? (i := 110) rfl)
set_option maxRecDepth 20000 in
theorem hwc_404 : hwM 404 0 ∈ lw_tbl := hT_12 (List.mem_of_getElem? (i := 114) rfl)
set_option maxRecDepth 20000 in
theorem hwc_405 : hwM 405 0 ∈ lw_tbl := hT_12 (List.mem_of_getElem? (i := 118) rfl)
set_option maxRecDepth 20000 in
theorem hwc_406 : hwM 406 0 ∈ lw_tbl := hT_12 (List.mem_of_getElem? (i := 122) rfl)
set_option maxRecDepth 20000 in
theorem hwc_407 : hwM 407 0 ∈ lw_tbl := hT_12 (List.mem_of_getElem? (i := 126) rfl)
set_option maxRecDepth 20000 in
theorem hwc_408 : hwM 408 0 ∈ lw_tbl := hT_12 (List.mem_of_getElem? (i := 130) rfl)
set_option maxRecDepth 20000 in
theorem hwc_409 : hwM 409 0 ∈ lw_tbl := hT_12 (List.mem_of_getElem? (i := 134) rfl)
set_option maxRecDepth 20000 in
theorem hwc_410 : hwM 410 0 ∈ lw_tbl := hT_12 (List.mem_of_getElem? (i := 138) rfl)
set_option maxRecDepth 20000 in
theorem hwc_411 : hwM 411 0 ∈ lw_tbl := hT_12 (List.mem_of_getElem? (i := 142) rfl)
set_option maxRecDepth 20000 in
theorem hwc_412 : hwM 412 0 ∈ lw_tbl := hT_12 (List.mem_of_getElem? (i := 146) rfl)
set_option maxRecDepth 20000 in
theorem hwc_413 : hwM 413 0 ∈ lw_tbl := hT_12 (List.mem_of_getElem? (i := 150) rfl)
set_option maxRecDepth 20000 in
theorem hwc_414 : hwM 414 0 ∈ lw_tbl := hT_12 (List.mem_of_getElem? (i := 154) rfl)
set_option maxRecDepth 20000 in
theorem hwc_415 : hwM 415 0 ∈ lw_tbl := hT_12 (List.mem_of_getElem? (i := 158) rfl)
set_option maxRecDepth 20000 in
theorem hwc_416 : hwM 416 0 ∈ lw_tbl := hT_12 (List.mem_of_getElem? (i := 162) rfl)
set_option maxRecDepth 20000 in
theorem hwc_417 : hwM 417 0 ∈ lw_tbl := hT_12 (List.mem_of_getElem? (i := 166) rfl)
set_option maxRecDepth 20000 in
theorem hwc_418 : hwM 418 0 ∈ lw_tbl := hT_12 (List.mem_of_getElem? (i := 170) rfl)
set_option maxRecDepth 20000 in
theorem hwc_419 : hwM 419 0 ∈ lw_tbl := hT_12 (List.mem_of_getElem? (i := 174) rfl)
set_option maxRecDepth 20000 in
theorem hwc_420 : hwM 420 0 ∈ lw_tbl := hT_12 (List.mem_of_getElem? (i := 178) rfl)
set_option maxRecDepth 20000 in
theorem hwc_421 : hwM 421 0 ∈ lw_tbl := hT_12 (List.mem_of_getElem? (i := 183) rfl)
set_option maxRecDepth 20000 in
theorem hwc_422 : hwM 422 0 ∈ lw_tbl := hT_12 (List.mem_of_getElem? (i := 187) rfl)
theorem hwb_0 : ∀ y ∈ ([0, 1, 2, 3, 4, 5, 6, 7, 8, 9, 10, 11, 12, 13, 14, 15, 16, 17, 18, 19, 20, 21, 22, 23] : List Nat), hwM y 0 ∈ lw_tbl := List.forall_mem_cons.mpr ⟨hwc_0, List.forall_mem_cons.mpr ⟨hwc_1, List.forall_mem_cons.mpr ⟨hwc_2, List.forall_mem_cons.mpr ⟨hwc_3, List.forall_mem_cons.mpr ⟨hwc_4, List.forall_mem_cons.mpr ⟨hwc_5, List.forall_mem_cons.mpr ⟨hwc_6, List.forall_mem_cons.mpr ⟨hwc_7, List.forall_mem_cons.mpr ⟨hwc_8, List.forall_mem_cons.mpr ⟨hwc_9, List.forall_mem_cons.mpr ⟨hwc_10, List.forall_mem_cons.mpr ⟨hwc_11, List.forall_mem_cons.mpr ⟨hwc_12, List.forall_mem_cons.mpr ⟨hwc_13, List.forall_mem_cons.mpr ⟨hwc_14, List.forall_mem_cons.mpr ⟨hwc_15, List.forall_mem_cons.mpr ⟨hwc_16, List.forall_mem_cons.mpr ⟨hwc_17, List.forall_mem_cons.mpr ⟨hwc_18, List.forall_mem_cons.mpr ⟨hwc_19, List.forall_mem_cons.mpr ⟨hwc_20, List.forall_mem_cons.mpr ⟨hwc_21, List.forall_mem_cons.mpr ⟨hwc_22, List.forall_mem_cons.mpr ⟨hwc_23, fun _ h => absurd h List.not_mem_nil⟩⟩⟩⟩⟩⟩⟩⟩⟩⟩⟩⟩⟩⟩⟩⟩⟩⟩⟩⟩⟩⟩⟩⟩
theorem hwb_1 : ∀ y ∈ ([24, 25, 26, 27, 28, 29, 30, 31, 32, 33, 34, 35, 36, 37, 38, 39, 40, 41, 42, 43, 44, 45, 46, 47] : List Nat), hwM y 0 ∈ lw_tbl := List.forall_mem_cons.mpr ⟨hwc_24, List.forall_mem_cons.mpr ⟨hwc_25, List.forall_mem_cons.mpr ⟨hwc_26, List.forall_mem_cons.mpr ⟨hwc_27, List.forall_mem_cons.mpr ⟨hwc_28, List.forall_mem_cons.mpr ⟨hwc_29, List.forall_mem_cons.mpr ⟨hwc_30, List.forall_mem_cons.mpr ⟨hwc_31, List.forall_mem_cons.mpr ⟨hwc_32, List.forall_mem_cons.mpr ⟨hwc_33, List.forall_mem_cons.mpr ⟨hwc_34, List.forall_mem_cons.mpr ⟨hwc_35, List.forall_mem_cons.mpr ⟨hwc_36, List.forall_mem_cons.mpr ⟨hwc_37, List.forall_mem_cons.mpr ⟨hwc_38, List.forall_mem_cons.mpr ⟨hwc_39, List.forall_mem_cons.mpr ⟨hwc_40, List.forall_mem_cons.mpr ⟨hwc_41, List.forall_mem_cons.mpr ⟨hwc_42, List.forall_mem_cons.mpr ⟨hwc_43, List.forall_mem_cons.mpr ⟨hwc_44, List.forall_mem_cons.mpr ⟨hwc_45, List.forall_mem_cons.mpr ⟨hwc_46, List.forall_mem_cons.mpr ⟨hwc_47, fun _ h => absurd h List.not_mem_nil⟩⟩⟩⟩⟩⟩⟩⟩⟩⟩⟩⟩⟩⟩⟩⟩⟩⟩⟩⟩⟩⟩⟩⟩
theorem hwb_2 : ∀ y ∈ ([48, 49, 50, 51, 52, 53, 54, 55, 56, 57, 58, 59, 60, 61, 62, 63, 64, 65, 66, 67, 68, 69, 70, 71] : List Nat), hwM y 0 ∈ lw_tbl := List.forall_mem_cons.mpr ⟨hwc_48, List.forall_mem_cons.mpr ⟨hwc_49, List.forall_mem_cons.mpr ⟨hwc_50, List.forall_mem_cons.mpr ⟨hwc_51, List.forall_mem_cons.mpr ⟨hwc_52, List.forall_mem_cons.mpr ⟨hwc_53, List.forall_mem_cons.mpr ⟨hwc_54, List.forall_mem_cons.mpr ⟨hwc_55, List.forall_mem_cons.mpr ⟨hwc_56, List.forall_mem_cons.mpr ⟨hwc_57, List.forall_mem_cons.mpr ⟨hwc_58, List.forall_mem_cons.mpr ⟨hwc_59, List.forall_mem_cons.mpr ⟨hwc_60, List.forall_mem_cons.mpr ⟨hwc_61, List.forall_mem_cons.mpr ⟨hwc_62, List.forall_mem_cons.mpr ⟨hwc_63, List.forall_mem_cons.mpr ⟨hwc_64, List.forall_mem_cons.mpr ⟨hwc_65, List.forall_mem_cons.mpr ⟨hwc_66, List.forall_mem_cons.mpr ⟨hwc_67, List.forall_mem_cons.mpr ⟨hwc_68, List.forall_mem_cons.mpr ⟨hwc_69, List.forall_mem_cons.mpr ⟨hwc_70, List.forall_mem_cons.mpr ⟨hwc_71, fun _ h => absurd h List.not_mem_nil⟩⟩⟩⟩⟩⟩⟩⟩⟩⟩⟩⟩⟩⟩⟩⟩⟩⟩⟩⟩⟩⟩⟩⟩
theorem hwb_3 : ∀ y ∈ ([72, 73, 74, 75, 76, 77, 78, 79, 80, 81, 82, 83, 84, 85, 86, 87, 88, 89, 90, 91, 92, 93, 94, 95] : List Nat), hwM y 0 ∈ lw_tbl := List.forall_mem_cons.mpr ⟨hwc_72, List.forall_mem_cons.mpr ⟨hwc_73, List.forall_mem_cons.mpr ⟨hwc_74, List.forall_mem_cons.mpr ⟨hwc_75, List.forall_mem_cons.mpr ⟨hwc_76, List.forall_mem_cons.mpr ⟨hwc_77, List.forall_mem_cons.mpr ⟨hwc_78, List.forall_mem_cons.mpr ⟨hwc_79, List.forall_mem_cons.mpr ⟨hwc_80, List.forall_mem_cons.mpr ⟨hwc_81, List.forall_mem_cons.mpr ⟨hwc_82, List.forall_mem_cons.mpr ⟨hwc_83, List.forall_mem_cons.mpr ⟨hwc_84, List.forall_mem_cons.mpr ⟨hwc_85, List.forall_mem_cons.mpr ⟨hwc_86, List.forall_mem_cons.mpr ⟨hwc_87, List.forall_mem_cons.mpr ⟨hwc_88, List.forall_mem_cons.mpr ⟨hwc_89, List.forall_mem_cons.mpr ⟨hwc_90, List.forall_mem_cons.mpr ⟨hwc_91, List.forall_mem_cons.mpr ⟨hwc_92, List.forall_mem_cons.mpr ⟨hwc_93, List.forall_mem_cons.mpr ⟨hwc_94, List.forall_mem_cons.mpr ⟨hwc_95, fun _ h => absurd h List.not_mem_nil⟩⟩⟩⟩⟩⟩⟩⟩⟩⟩⟩⟩⟩⟩⟩⟩⟩⟩⟩⟩⟩⟩⟩⟩
theorem hwb_4 : ∀ y ∈ ([96, 97, 98, 99, 100, 101, 102, 103, 104, 105, 106, 107, 108, 109, 110, 111, 112, 113, 114, 115, 116, 117, 118, 119] : List Nat), hwM y 0 ∈ lw_tbl := List.forall_mem_cons.mpr ⟨hwc_96, List.forall_mem_cons.mpr ⟨hwc_97, List.forall_mem_cons.mpr ⟨hwc_98, List.forall_mem_cons.mpr ⟨hwc_99, List.forall_mem_cons.mpr ⟨hwc_100, List.forall_mem_cons.mpr ⟨hwc_101, List.forall_mem_cons.mpr ⟨hwc_102, List.forall_mem_cons.mpr ⟨hwc_103, List.forall_mem_cons.mpr ⟨hwc_104, List.forall_mem_cons.mpr ⟨hwc_105, List.forall_mem_cons.mpr ⟨hwc_106, List.forall_mem_cons.mpr ⟨hwc_107, List.forall_mem_cons.mpr ⟨hwc_108, List.forall_mem_cons.mpr ⟨hwc_109, List.forall_mem_cons.mpr ⟨hwc_110, List.forall_mem_cons.mpr ⟨hwc_111, List.forall_mem_cons.mpr ⟨hwc_112, List.forall_mem_cons.mpr ⟨hwc_113, List.forall_mem_cons.mpr ⟨hwc_114, List.forall_mem_cons.mpr ⟨hwc_115, List.forall_mem_cons.mpr ⟨hwc_116, List.forall_mem_cons.mpr ⟨hwc_117, List.forall_mem_cons.mpr ⟨hwc_118, List.forall_mem_cons.mpr ⟨hwc_119, fun _ h => absurd h List.not_mem_nil⟩⟩⟩⟩⟩⟩⟩⟩⟩⟩⟩⟩⟩⟩⟩⟩⟩⟩⟩⟩⟩⟩⟩⟩
theorem hwb_5 : ∀ y ∈ ([120, 121, 122, 123, 124, 125, 126, 127, 128, 129, 130, 131, 132, 133, 134, 135, 136, 137, 138, 139, 140, 141, 142, 143] : List Nat), hwM y 0 ∈ lw_tbl := List.forall_mem_cons.mpr ⟨hwc_120, List.forall_mem_cons.mpr ⟨hwc_121, List.forall_mem_cons.mpr ⟨hwc_122, List.forall_mem_cons.mpr ⟨hwc_123, List.forall_mem_cons.mpr ⟨hwc_124, List.forall_mem_cons.mpr ⟨hwc_125, List.forall_mem_cons.mpr ⟨hwc_126, List.forall_mem_cons.mpr ⟨hwc_127, List.forall_mem_cons.mpr ⟨hwc_128, List.forall_mem_cons.mpr ⟨hwc_129, List.forall_mem_cons.mpr ⟨hwc_130, List.forall_mem_cons.mpr ⟨hwc_131, List.forall_mem_cons.mpr ⟨hwc_132, List.forall_mem_cons.mpr ⟨hwc_133, List.forall_mem_cons.mpr ⟨hwc_134, List.forall_mem_cons.mpr ⟨hwc_135, List.forall_mem_cons.mpr ⟨hwc_136, List.forall_mem_cons.mpr ⟨hwc_137, List.forall_mem_cons.mpr ⟨hwc_138, List.forall_mem_cons.mpr ⟨hwc_139, List.forall_mem_cons.mpr ⟨hwc_140, List.forall_mem_cons.mpr ⟨hwc_141, List.forall_mem_cons.mpr ⟨hwc_142, List.forall_mem_cons.mpr ⟨hwc_143, fun _ h => absurd h List.not_mem_nil⟩⟩⟩⟩⟩⟩⟩⟩⟩⟩⟩⟩⟩⟩⟩⟩⟩⟩⟩⟩⟩⟩⟩⟩
theorem hwb_6 : ∀ y ∈ ([144, 145, 146, 147, 148, 149, 150, 151, 152, 153, 154, 155, 156, 157, 158, 159, 160, 161, 162, 163, 164, 165, 166, 167] : List Nat), hwM y 0 ∈ lw_tbl := List.forall_mem_cons.mpr ⟨hwc_144, List.forall_mem_cons.mpr ⟨hwc_145, List.forall_mem_cons.mpr ⟨hwc_146, List.forall_mem_cons.mpr ⟨hwc_147, List.forall_mem_cons.mpr ⟨hwc_148, List.forall_mem_cons.mpr ⟨hwc_149, List.forall_mem_cons.mpr ⟨hwc_150, List.forall_mem_cons.mpr ⟨hwc_151, List.forall_mem_cons.mpr ⟨hwc_152, List.forall_mem_cons.mpr ⟨hwc_153, List.forall_mem_cons.mpr ⟨hwc_154, List.forall_mem_cons.mpr ⟨hwc_155, List.forall_mem_cons.mpr ⟨hwc_156, List.forall_mem_cons.mpr ⟨hwc_157, List.forall_mem_cons.mpr ⟨hwc_158, List.forall_mem_cons.mpr ⟨hwc_159, List.forall_mem_cons.mpr ⟨hwc_160, List.forall_mem_cons.mpr ⟨hwc_161, List.forall_mem_cons.mpr ⟨hwc_162, List.forall_mem_cons.mpr ⟨hwc_163, List.forall_mem_cons.mpr ⟨hwc_164, List.forall_mem_cons.mpr ⟨hwc_165, List.forall_mem_cons.mpr ⟨hwc_166, List.forall_mem_cons.mpr ⟨hwc_167, fun _ h => absurd h List.not_mem_nil⟩⟩⟩⟩⟩⟩⟩⟩⟩⟩⟩⟩⟩⟩⟩⟩⟩⟩⟩⟩⟩⟩⟩⟩
theorem hwb_7 : ∀ y ∈ ([168, 169, 170, 171, 172, 173, 174, 175, 176, 177, 178, 179, 180, 181, 182, 183, 184, 185, 186, 187, 188, 189, 190, 191] : List Nat), hwM y 0 ∈ lw_tbl := List.forall_mem_cons.mpr ⟨hwc_168, List.forall_mem_cons.mpr ⟨hwc_169, List.forall_mem_cons.mpr ⟨hwc_170, List.forall_mem_cons.mpr ⟨hwc_171, List.forall_mem_cons.mpr ⟨hwc_172, List.forall_mem_cons.mpr ⟨hwc_173, List.forall_mem_cons.mpr ⟨hwc_174, List.forall_mem_cons.mpr ⟨hwc_175, List.forall_mem_cons.mpr ⟨hwc_176, List.forall_mem_cons.mpr ⟨hwc_177, List.forall_mem_cons.mpr ⟨hwc_178, List.forall_mem_cons.mpr ⟨hwc_179, List.forall_mem_cons.mpr ⟨hwc_180, List.forall_mem_cons.mpr ⟨hwc_181, List.forall_mem_cons.mpr ⟨hwc_182, List.forall_mem_cons.mpr ⟨hwc_183, List.forall_mem_cons.mpr ⟨hwc_184, List.forall_mem_cons.mpr ⟨hwc_185, List.forall_mem_cons.mpr ⟨hwc_186, List.forall_mem_cons.mpr ⟨hwc_187, List.forall_mem_cons.mpr ⟨hwc_188, List.forall_mem_cons.mpr ⟨hwc_189, List.forall_mem_cons.mpr ⟨hwc_190, List.forall_mem_cons.mpr ⟨hwc_191, fun _ h => absurd h List.not_mem_nil⟩⟩⟩⟩⟩⟩⟩⟩⟩⟩⟩⟩⟩⟩⟩⟩⟩⟩⟩⟩⟩⟩⟩⟩
theorem hwb_8 : ∀ y ∈ ([192, 193, 194, 195, 196, 197, 198, 199, 200, 201, 202, 203, 204, 205, 206, 207, 208, 209, 210, 211, 212, 213, 214, 215] : List Nat), hwM y 0 ∈ lw_tbl := List.forall_mem_cons.mpr ⟨hwc_192, List.forall_mem_cons.mpr ⟨hwc_193, List.forall_mem_cons.mpr ⟨hwc_194, List.forall_mem_cons.mpr ⟨hwc_195, List.forall_mem_cons.mpr ⟨hwc_196, List.forall_mem_cons.mpr ⟨hwc_197, List.forall_mem_cons.mpr ⟨hwc_198, List.forall_mem_cons.mpr ⟨hwc_199, List.forall_mem_cons.mpr ⟨hwc_200, List.forall_mem_cons.mpr ⟨hwc_201, List.forall_mem_cons.mpr ⟨hwc_202, List.forall_mem_cons.mpr ⟨hwc_203, List.forall_mem_cons.mpr ⟨hwc_204, List.forall_mem_cons.mpr ⟨hwc_205, List.forall_mem_cons.mpr ⟨hwc_206, List.forall_mem_cons.mpr ⟨hwc_207, List.forall_mem_cons.mpr ⟨hwc_208, List.forall_mem_cons.mpr ⟨hwc_209, List.forall_mem_cons.mpr ⟨hwc_210, List.forall_mem_cons.mpr ⟨hwc_211, List.forall_mem_cons.mpr ⟨hwc_212, List.forall_mem_cons.mpr ⟨hwc_213, List.forall_mem_cons.mpr ⟨hwc_214, List.forall_mem_cons.mpr ⟨hwc_215, fun _ h => absurd h List.not_mem_nil⟩⟩⟩⟩⟩⟩⟩⟩⟩⟩⟩⟩⟩⟩⟩⟩⟩⟩⟩⟩⟩⟩⟩⟩
theorem hwb_9 : ∀ y ∈ ([216, 217, 218, 219, 220, 221, 222, 223, 224, 225, 226, 227, 228, 229, 230, 231, 232, 233, 234, 235, 236, 237, 238, 239] : List Nat), hwM y 0 ∈ lw_tbl := List.forall_mem_cons.mpr ⟨hwc_216, List.forall_mem_cons.mpr ⟨hwc_217, List.forall_mem_cons.mpr ⟨hwc_218, List.forall_mem_cons.mpr ⟨hwc_219, List.forall_mem_cons.mpr ⟨hwc_220, List.forall_mem_cons.mpr ⟨hwc_221, List.forall_mem_cons.mpr ⟨hwc_222, List.forall_mem_cons.mpr ⟨hwc_223, List.forall_mem_cons.mpr ⟨hwc_224, List.forall_mem_cons.mpr ⟨hwc_225, List.forall_mem_cons.mpr ⟨hwc_226, List.forall_mem_cons.mpr ⟨hwc_227, List.forall_mem_cons.mpr ⟨hwc_228, List.forall_mem_cons.mpr ⟨hwc_229, List.forall_mem_cons.mpr ⟨hwc_230, List.forall_mem_cons.mpr ⟨hwc_231, List.forall_mem_cons.mpr ⟨hwc_232, List.forall_mem_cons.mpr ⟨hwc_233, List.forall_mem_cons.mpr ⟨hwc_234, List.forall_mem_cons.mpr ⟨hwc_235, List.forall_mem_cons.mpr ⟨hwc_236, List.forall_mem_cons.mpr ⟨hwc_237, List.forall_mem_cons.mpr ⟨hwc_238, List.forall_mem_cons.mpr ⟨hwc_239, fun _ h => absurd h List.not_mem_nil⟩⟩⟩⟩⟩⟩⟩⟩⟩⟩⟩⟩⟩⟩⟩⟩⟩⟩⟩⟩⟩⟩⟩⟩
theorem hwb_10 : ∀ y ∈ ([240, 241, 242, 243, 244, 245, 246, 247, 248, 249, 250, 251, 252, 253, 254, 255, 256, 257, 258, 259, 260, 261, 262, 263] : List Nat), hwM y 0 ∈ lw_tbl := List.forall_mem_cons.mpr ⟨hwc_240, List.forall_mem_cons.mpr ⟨hwc_241, List.forall_mem_cons.mpr ⟨hwc_242, List.forall_mem_cons.mpr ⟨hwc_243, List.forall_mem_cons.mpr ⟨hwc_244, List.forall_mem_cons.mpr ⟨hwc_245, List.forall_mem_cons.mpr ⟨hwc_246, List.forall_mem_cons.mpr ⟨hwc_247, List.forall_mem_cons.mpr ⟨hwc_248, List.forall_mem_cons.mpr ⟨hwc_249, List.forall_mem_cons.mpr ⟨hwc_250, List.forall_mem_cons.mpr ⟨hwc_251, List.forall_mem_cons.mpr ⟨hwc_252, List.forall_mem_cons.mpr ⟨hwc_253, List.forall_mem_cons.mpr ⟨hwc_254, List.forall_mem_cons.mpr ⟨hwc_255, List.forall_mem_cons.mpr ⟨hwc_256, List.forall_mem_cons.mpr ⟨hwc_257, List.forall_mem_cons.mpr ⟨hwc_258, List.forall_mem_cons.mpr ⟨hwc_259, List.forall_mem_cons.mpr ⟨hwc_260, List.forall_mem_cons.mpr ⟨hwc_261, List.forall_mem_cons.mpr ⟨hwc_262, List.forall_mem_cons.mpr ⟨hwc_263, fun _ h => absurd h List.not_mem_nil⟩⟩⟩⟩⟩⟩⟩⟩⟩⟩⟩⟩⟩⟩⟩⟩⟩⟩⟩⟩⟩⟩⟩⟩
theorem hwb_11 : ∀ y ∈ ([264, 265, 266, 267, 268, 269, 270, 271, 272, 273, 274, 275, 276, 277, 278, 279, 280, 281, 282, 283, 284, 285, 286, 287] : List Nat), hwM y 0 ∈ lw_tbl := List.forall_mem_cons.mpr ⟨hwc_264, List.forall_mem_cons.mpr ⟨hwc_265, List.forall_mem_cons.mpr ⟨hwc_266, List.forall_mem_cons.mpr ⟨hwc_267, List.forall_mem_cons.mpr ⟨hwc_268, List.forall_mem_cons.mpr ⟨hwc_269, List.forall_mem_cons.mpr ⟨hwc_270, List.forall_mem_cons.mpr ⟨hwc_271, List.forall_mem_cons.mpr ⟨hwc_272, List.forall_mem_cons.mpr ⟨hwc_273, List.forall_mem_cons.mpr ⟨hwc_274, List.forall_mem_cons.mpr ⟨hwc_275, List.forall_mem_cons.mpr ⟨hwc_276, List.forall_mem_cons.mpr ⟨hwc_277, List.forall_mem_cons.mpr ⟨hwc_278, List.forall_mem_cons.mpr ⟨hwc_279, List.forall_mem_cons.mpr ⟨hwc_280, List.forall_mem_cons.mpr ⟨hwc_281, List.forall_mem_cons.mpr ⟨hwc_282, List.forall_mem_cons.mpr ⟨hwc_283, List.forall_mem_cons.mpr ⟨hwc_284, List.forall_mem_cons.mpr ⟨hwc_285, List.forall_mem_cons.mpr ⟨hwc_286, List.forall_mem_cons.mpr ⟨hwc_287, fun _ h => absurd h List.not_mem_nil⟩⟩⟩⟩⟩⟩⟩⟩⟩⟩⟩⟩⟩⟩⟩⟩⟩⟩⟩⟩⟩⟩⟩⟩
theorem hwb_12 : ∀ y ∈ ([288, 289, 290, 291, 292, 293, 294, 295, 296, 297, 298, 299, 300, 301, 302, 303, 304, 305, 306, 307, 308, 309, 310, 311] : List Nat), hwM y 0 ∈ lw_tbl := List.forall_mem_cons.mpr ⟨hwc_288, List.forall_mem_cons.mpr ⟨hwc_289, List.forall_mem_cons.mpr ⟨hwc_290, List.forall_mem_cons.mpr ⟨hwc_291, List.forall_mem_cons.mpr ⟨hwc_292, List.forall_mem_cons.mpr ⟨hwc_293, List.forall_mem_cons.mpr ⟨hwc_294, List.forall_mem_cons.mpr ⟨hwc_295, List.forall_mem_cons.mpr ⟨hwc_296, List.forall_mem_cons.mpr ⟨hwc_297, List.forall_mem_cons.mpr ⟨hwc_298, List.forall_mem_cons.mpr ⟨hwc_299, List.forall_mem_cons.mpr ⟨hwc_300, List.forall_mem_cons.mpr ⟨hwc_301, List.forall_mem_cons.mpr ⟨hwc_302, List.forall_mem_cons.mpr ⟨hwc_303, List.forall_mem_cons.mpr ⟨hwc_304, List.forall_mem_cons.mpr ⟨hwc_305, List.forall_mem_cons.mpr ⟨hwc_306, List.forall_mem_cons.mpr ⟨hwc_307, List.forall_mem_cons.mpr ⟨hwc_308, List.forall_mem_cons.mpr ⟨hwc_309, List.forall_mem_cons.mpr ⟨hwc_310, List.forall_mem_cons.mpr ⟨hwc_311, fun _ h => absurd h List.not_mem_nil⟩⟩⟩⟩⟩⟩⟩⟩⟩⟩⟩⟩⟩⟩⟩⟩⟩⟩⟩⟩⟩⟩⟩⟩
theorem hwb_13 : ∀ y ∈ ([312, 313, 314, 315, 316, 317, 318, 319, 320, 321, 322, 323, 324, 325, 326, 327, 328, 329, 330, 331, 332, 333, 334, 335] : List Nat), hwM y 0 ∈ lw_tbl := List.forall_mem_cons.mpr ⟨hwc_312, List.forall_mem_cons.mpr ⟨hwc_313, List.forall_mem_cons.mpr ⟨hwc_314, List.forall_mem_cons.mpr ⟨hwc_315, List.forall_mem_cons.mpr ⟨hwc_316, List.forall_mem_cons.mpr ⟨hwc_317, List.forall_mem_cons.mpr ⟨hwc_318, List.forall_mem_cons.mpr ⟨hwc_319, List.forall_mem_cons.mpr ⟨hwc_320, List.forall_mem_cons.mpr ⟨hwc_321, List.forall_mem_cons.mpr ⟨hwc_322, List.forall_mem_cons.mpr ⟨hwc_323, List.forall_mem_cons.mpr ⟨hwc_324, List.forall_mem_cons.mpr ⟨hwc_325, List.forall_mem_cons.mpr ⟨hwc_326, List.forall_mem_cons.mpr ⟨hwc_327, List.forall_mem_cons.mpr ⟨hwc_328, List.forall_mem_cons.mpr ⟨hwc_329, List.forall_mem_cons.mpr ⟨hwc_330, List.forall_mem_cons.mpr ⟨hwc_331, List.forall_mem_cons.mpr ⟨hwc_332, List.forall_mem_cons.mpr ⟨hwc_333, List.forall_mem_cons.mpr ⟨hwc_334, List.forall_mem_cons.mpr ⟨hwc_335, fun _ h => absurd h List.not_mem_nil⟩⟩⟩⟩⟩⟩⟩⟩⟩⟩⟩⟩⟩⟩⟩⟩⟩⟩⟩⟩⟩⟩⟩⟩
theorem hwb_14 : ∀ y ∈ ([336, 337, 338, 339, 340, 341, 342, 343, 344, 345, 346, 347, 348, 349, 350, 351, 352, 353, 354, 355, 356, 357, 358, 359] : List Nat), hwM y 0 ∈ lw_tbl := List.forall_mem_cons.mpr ⟨hwc_336, List.forall_mem_cons.mpr ⟨hwc_337, List.forall_mem_cons.mpr ⟨hwc_338, List.forall_mem_cons.mpr ⟨hwc_339, List.forall_mem_cons.mpr ⟨hwc_340, List.forall_mem_cons.mpr ⟨hwc_341, List.forall_mem_cons.mpr ⟨hwc_342, List.forall_mem_cons.mpr ⟨hwc_343, List.forall_mem_cons.mpr ⟨hwc_344, List.forall_mem_cons.mpr ⟨hwc_345, List.forall_mem_cons.mpr ⟨hwc_346, List.forall_mem_cons.mpr ⟨hwc_347, List.forall_mem_cons.mpr ⟨hwc_348, List.forall_mem_cons.mpr ⟨hwc_349, List.forall_mem_cons.mpr ⟨hwc_350, List.forall_mem_cons.mpr ⟨hwc_351, List.forall_mem_cons.mpr ⟨hwc_352, List.forall_mem_cons.mpr ⟨hwc_353, List.forall_mem_cons.mpr ⟨hwc_354, List.forall_mem_cons.mpr ⟨hwc_355, List.forall_mem_cons.mpr ⟨hwc_356, List.forall_mem_cons.mpr ⟨hwc_357, List.forall_mem_cons.mpr ⟨hwc_358, List.forall_mem_cons.mpr ⟨hwc_359, fun _ h => absurd h List.not_mem_nil⟩⟩⟩⟩⟩⟩⟩⟩⟩⟩⟩⟩⟩⟩⟩⟩⟩⟩⟩⟩⟩⟩⟩⟩
theorem hwb_15 : ∀ y ∈ ([360, 361, 362, 363, 364, 365, 366, 367, 368, 369, 370, 371, 372, 373, 374, 375, 376, 377, 378, 379, 380, 381, 382, 383] : List Nat), hwM y 0 ∈ lw_tbl := List.forall_mem_cons.mpr ⟨hwc_360, List.forall_mem_cons.mpr ⟨hwc_361, List.forall_mem_cons.mpr ⟨hwc_362, List.forall_mem_cons.mpr ⟨hwc_363, List.forall_mem_cons.mpr ⟨hwc_364, List.forall_mem_cons.mpr ⟨hwc_365, List.forall_mem_cons.mpr ⟨hwc_366, List.forall_mem_cons.mpr ⟨hwc_367, List.forall_mem_cons.mpr ⟨hwc_368, List.forall_mem_cons.mpr ⟨hwc_369, List.forall_mem_cons.mpr ⟨hwc_370, List.forall_mem_cons.mpr ⟨hwc_371, List.forall_mem_cons.mpr ⟨hwc_372, List.forall_mem_cons.mpr ⟨hwc_373, List.forall_mem_cons.mpr ⟨hwc_374, List.forall_mem_cons.mpr ⟨hwc_375, List.forall_mem_cons.mpr ⟨hwc_376, List.forall_mem_cons.mpr ⟨hwc_377, List.forall_mem_cons.mpr ⟨hwc_378, List.forall_mem_cons.mpr ⟨hwc_379, List.forall_mem_cons.mpr ⟨hwc_380, List.forall_mem_cons.mpr ⟨hwc_381, List.forall_mem_cons.mpr ⟨hwc_382, List.forall_mem_cons.mpr ⟨hwc_383, fun _ h => absurd h List.not_mem_nil⟩⟩⟩⟩⟩⟩⟩⟩⟩⟩⟩⟩⟩⟩⟩⟩⟩⟩⟩⟩⟩⟩⟩⟩
theorem hwb_16 : ∀ y ∈ ([384, 385, 386, 387, 388, 389, 390, 391, 392, 393, 394, 395, 396, 397, 398, 399, 400, 401, 402, 403, 404, 405, 406, 407] : List Nat), hwM y 0 ∈ lw_tbl := List.forall_mem_cons.mpr ⟨hwc_384, List.forall_mem_cons.mpr ⟨hwc_385, List.forall_mem_cons.mpr ⟨hwc_386, List.forall_mem_cons.mpr ⟨hwc_387, List.forall_mem_cons.mpr ⟨hwc_388, List.forall_mem_cons.mpr ⟨hwc_389, List.forall_mem_cons.mpr ⟨hwc_390, List.forall_mem_cons.mpr ⟨hwc_391, List.forall_mem_cons.mpr ⟨hwc_392, List.forall_mem_cons.mpr ⟨hwc_393, List.forall_mem_cons.mpr ⟨hwc_394, List.forall_mem_cons.mpr ⟨hwc_395, List.forall_mem_cons.mpr ⟨hwc_396, List.forall_mem_cons.mpr ⟨hwc_397, List.forall_mem_cons.mpr ⟨hwc_398, List.forall_mem_cons.mpr ⟨hwc_399, List.forall_mem_cons.mpr ⟨hwc_400, List.forall_mem_cons.mpr ⟨hwc_401, List.forall_mem_cons.mpr ⟨hwc_402, List.forall_mem_cons.mpr ⟨hwc_403, List.forall_mem_cons.mpr ⟨hwc_404, List.forall_mem_cons.mpr ⟨hwc_405, List.forall_mem_cons.mpr ⟨hwc_406, List.forall_mem_cons.mpr ⟨hwc_407, fun _ h => absurd h List.not_mem_nil⟩⟩⟩⟩⟩⟩⟩⟩⟩⟩⟩⟩⟩⟩⟩⟩⟩⟩⟩⟩⟩⟩⟩⟩
theorem hwb_17 : ∀ y ∈ ([408, 409, 410, 411, 412, 413, 414, 415, 416, 417, 418, 419, 420, 421, 422] : List Nat), hwM y 0 ∈ lw_tbl := List.forall_mem_cons.mpr ⟨hwc_408, List.forall_mem_cons.mpr ⟨hwc_409, List.forall_mem_cons.mpr ⟨hwc_410, List.forall_mem_cons.mpr ⟨hwc_411, List.forall_mem_cons.mpr ⟨hwc_412, List.forall_mem_cons.mpr ⟨hwc_413, List.forall_mem_cons.mpr ⟨hwc_414, List.forall_mem_cons.mpr ⟨hwc_415, List.forall_mem_cons.mpr ⟨hwc_416, List.forall_mem_cons.mpr ⟨hwc_417, List.forall_mem_cons.mpr ⟨hwc_418, List.forall_mem_cons.mpr ⟨hwc_419, List.forall_mem_cons.mpr ⟨hwc_420, List.forall_mem_cons.mpr ⟨hwc_421, List.forall_mem_cons.mpr ⟨hwc_422, fun _ h => absurd h List.not_mem_nil⟩⟩⟩⟩⟩⟩⟩⟩⟩⟩⟩⟩⟩⟩⟩
theorem hmem_app {P : Nat → Prop} {a b : List Nat} (ha : ∀ y ∈ a, P y) (hb : ∀ y ∈ b, P y) : ∀ y ∈ a ++ b, P y := fun y h => (List.mem_append.mp h).elim (ha y) (hb y)
set_option maxRecDepth 20000 in
theorem hwC_of {y : Nat} (h : y < hNM) : hwM y 0 ∈ lw_tbl := (hmem_app hwb_0 (hmem_app hwb_1 (hmem_app hwb_2 (hmem_app hwb_3 (hmem_app hwb_4 (hmem_app hwb_5 (hmem_app hwb_6 (hmem_app hwb_7 (hmem_app hwb_8 (hmem_app hwb_9 (hmem_app hwb_10 (hmem_app hwb_11 (hmem_app hwb_12 (hmem_app hwb_13 (hmem_app hwb_14 (hmem_app hwb_15 (hmem_app hwb_16 hwb_17))))))))))))))))) y (by
  have e : List.range hNM = [0, 1, 2, 3, 4, 5, 6, 7, 8, 9, 10, 11, 12, 13, 14, 15, 16, 17, 18, 19, 20, 21, 22, 23] ++ ([24, 25, 26, 27, 28, 29, 30, 31, 32, 33, 34, 35, 36, 37, 38, 39, 40, 41, 42, 43, 44, 45, 46, 47] ++ ([48, 49, 50, 51, 52, 53, 54, 55, 56, 57, 58, 59, 60, 61, 62, 63, 64, 65, 66, 67, 68, 69, 70, 71] ++ ([72, 73, 74, 75, 76, 77, 78, 79, 80, 81, 82, 83, 84, 85, 86, 87, 88, 89, 90, 91, 92, 93, 94, 95] ++ ([96, 97, 98, 99, 100, 101, 102, 103, 104, 105, 106, 107, 108, 109, 110, 111, 112, 113, 114, 115, 116, 117, 118, 119] ++ ([120, 121, 122, 123, 124, 125, 126, 127, 128, 129, 130, 131, 132, 133, 134, 135, 136, 137, 138, 139, 140, 141, 142, 143] ++ ([144, 145, 146, 147, 148, 149, 150, 151, 152, 153, 154, 155, 156, 157, 158, 159, 160, 161, 162, 163, 164, 165, 166, 167] ++ ([168, 169, 170, 171, 172, 173, 174, 175, 176, 177, 178, 179, 180, 181, 182, 183, 184, 185, 186, 187, 188, 189, 190, 191] ++ ([192, 193, 194, 195, 196, 197, 198, 199, 200, 201, 202, 203, 204, 205, 206, 207, 208, 209, 210, 211, 212, 213, 214, 215] ++ ([216, 217, 218, 219, 220, 221, 222, 223, 224, 225, 226, 227, 228, 229, 230, 231, 232, 233, 234, 235, 236, 237, 238, 239] ++ ([240, 241, 242, 243, 244, 245, 246, 247, 248, 249, 250, 251, 252, 253, 254, 255, 256, 257, 258, 259, 260, 261, 262, 263] ++ ([264, 265, 266, 267, 268, 269, 270, 271, 272, 273, 274, 275, 276, 277, 278, 279, 280, 281, 282, 283, 284, 285, 286, 287] ++ ([288, 289, 290, 291, 292, 293, 294, 295, 296, 297, 298, 299, 300, 301, 302, 303, 304, 305, 306, 307, 308, 309, 310, 311] ++ ([312, 313, 314, 315, 316, 317, 318, 319, 320, 321, 322, 323, 324, 325, 326, 327, 328, 329, 330, 331, 332, 333, 334, 335] ++ ([336, 337, 338, 339, 340, 341, 342, 343, 344, 345, 346, 347, 348, 349, 350, 351, 352, 353, 354, 355, 356, 357, 358, 359] ++ ([360, 361, 362, 363, 364, 365, 366, 367, 368, 369, 370, 371, 372, 373, 374, 375, 376, 377, 378, 379, 380, 381, 382, 383] ++ ([384, 385, 386, 387, 388, 389, 390, 391, 392, 393, 394, 395, 396, 397, 398, 399, 400, 401, 402, 403, 404, 405, 406, 407] ++ ([408, 409, 410, 411, 412, 413, 414, 415, 416, 417, 418, 419, 420, 421, 422]))))))))))))))))) := by decide +kernel
  rw [← e]
  exact List.mem_range.mpr h)
def hMD : List (Nat × Nat) := [(246, 0), (254, 1), (260, 2), (283, 3), (290, 4), (296, 5), (390, 6), (520, 7), (531, 8), (587, 9), (631, 10), (636, 11), (640, 12), (644, 13), (648, 14), (654, 15), (658, 16), (662, 17), (665, 18), (670, 19), (732, 20), (737, 21), (741, 22), (748, 23), (752, 24), (756, 25), (760, 26), (764, 27), (768, 28), (772, 29), (776, 30), (781, 31), (785, 32), (789, 33), (796, 34), (801, 35), (804, 36), (809, 37), (813, 38), (816, 39), (821, 40), (826, 41), (830, 42), (833, 43), (838, 44), (841, 45), (846, 46), (852, 47), (859, 48), (864, 49), (871, 50), (874, 51), (879, 52), (882, 53), (889, 54), (892, 55), (897, 56), (900, 57), (904, 58), (910, 59), (914, 60), (919, 61), (924, 62), (927, 63), (932, 64), (935, 65), (939, 66), (944, 67), (949, 68), (953, 69), (956, 70), (960, 71), (964, 72), (968, 73), (972, 74), (976, 75), (982, 76), (988, 77), (993, 78), (997, 79), (1000, 80), (1004, 81), (1010, 82), (1015, 83), (1019, 84), (1023, 85), (1027, 86), (1030, 87), (1035, 88), (1039, 89), (1042, 90), (1046, 91), (1068, 92), (1097, 93), (1106, 94), (1194, 95), (1200, 96), (1204, 97), (1208, 98), (1216, 99), (1220, 100), (1225, 101), (1229, 102), (1232, 103), (1236, 104), (1241, 105), (1245, 106), (1249, 107), (1257, 108), (1264, 109), (1269, 110), (1273, 111), (1278, 112), (1283, 113), (1287, 114), (1292, 115), (1321, 116), (1325, 117), (1329, 118), (1339, 119), (1344, 120), (1347, 121), (1351, 122), (1355, 123), (1359, 124), (1364, 125), (1368, 126), (1371, 127), (1378, 128), (1382, 129), (1386, 130), (1391, 131), (1395, 132), (1401, 133), (1406, 134), (1409, 135), (1414, 136), (1420, 137), (1426, 138), (1431, 139), (1435, 140), (1441, 141), (1445, 142), (1456, 143), (1461, 144), (1465, 145), (1471, 146), (1475, 147), (1480, 148), (1484, 149), (1489, 150), (1492, 151), (1496, 152), (1501, 153), (1504, 154), (1509, 155), (1514, 156), (1518, 157), (1525, 158), (1530, 159), (1534, 160), (1538, 161), (1543, 162), (1548, 163), (1553, 164), (1557, 165), (1561, 166), (1565, 167), (1569, 168), (1573, 169), (1577, 170), (1583, 171), (1587, 172), (1592, 173), (1596, 174), (1601, 175), (1605, 176), (1609, 177), (1613, 178), (1617, 179), (1622, 180), (1627, 181), (1632, 182), (1635, 183), (1639, 184), (1643, 185), (1650, 186), (1654, 187), (1658, 188), (1662, 189), (1669, 190), (1672, 191), (1678, 192), (1685, 193), (1692, 194), (1696, 195), (1703, 196), (1710, 197), (1714, 198), (1720, 199), (1725, 200), (1730, 201), (1735, 202), (1739, 203), (1743, 204), (1747, 205), (1755, 206), (1760, 207), (1764, 208), (1768, 209), (1772, 210), (1776, 211), (1780, 212), (1784, 213), (1788, 214), (1792, 215), (1796, 216), (1802, 217), (1806, 218), (1812, 219), (1816, 220), (1820, 221), (1825, 222), (1830, 223), (1835, 224), (1839, 225), (1844, 226), (1851, 227), (1860, 228), (1864, 229), (1872, 230), (1876, 231), (1880, 232), (1885, 233), (1889, 234), (1893, 235), (1897, 236), (1901, 237), (1905, 238), (1909, 239), (1913, 240), (1917, 241), (1922, 242), (1925, 243), (1929, 244), (1933, 245), (1937, 246), (1940, 247), (1944, 248), (1948, 249), (1953, 250), (1957, 251), (1961, 252), (1965, 253), (1969, 254), (1973, 255), (1978, 256), (1983, 257), (1987, 258), (1991, 259), (1995, 260), (1999, 261), (2004, 262), (2008, 263), (2012, 264), (2018, 265), (2022, 266), (2026, 267), (2030, 268), (2034, 269), (2038, 270), (2041, 271), (2048, 272), (2052, 273), (2056, 274), (2060, 275), (2064, 276), (2068, 277), (2072, 278), (2076, 279), (2080, 280), (2084, 281), (2088, 282), (2091, 283), (2100, 284), (2104, 285), (2108, 286), (2112, 287), (2116, 288), (2120, 289), (2124, 290), (2129, 291), (2133, 292), (2137, 293), (2141, 294), (2147, 295), (2151, 296), (2155, 297), (2160, 298), (2164, 299), (2169, 300), (2173, 301), (2177, 302), (2183, 303), (2190, 304), (2194, 305), (2545, 306), (2549, 307), (2554, 308), (2558, 309), (2562, 310), (2568, 311), (2572, 312), (2578, 313), (2582, 314), (2586, 315), (2590, 316), (2594, 317), (2598, 318), (2602, 319), (2607, 320), (2611, 321), (2615, 322), (2620, 323), (2624, 324), (2629, 325), (2634, 326), (2638, 327), (2642, 328), (2646, 329), (2651, 330), (2655, 331), (2659, 332), (2663, 333), (2667, 334), (2671, 335), (2675, 336), (2679, 337), (2683, 338), (2687, 339), (2691, 340), (2695, 341), (2699, 342), (2703, 343), (2707, 344), (2711, 345), (2715, 346), (2719, 347), (2723, 348), (2727, 349), (2731, 350), (2735, 351), (2739, 352), (2743, 353), (2748, 354), (2753, 355), (2757, 356), (2761, 357), (2769, 358), (2773, 359), (2777, 360), (2780, 361), (2785, 362), (2789, 363), (2793, 364), (2797, 365), (2801, 366), (2805, 367), (2811, 368), (2815, 369), (2819, 370), (2824, 371), (2829, 372), (2834, 373), (2839, 374), (2845, 375), (2849, 376), (2856, 377), (2861, 378), (2865, 379), (2870, 380), (2874, 381), (2879, 382), (2883, 383), (2887, 384), (2891, 385), (2895, 386), (2899, 387), (2903, 388), (2908, 389), (2913, 390), (2918, 391), (2923, 392), (2927, 393), (2931, 394), (2936, 395), (2942, 396), (2948, 397), (2952, 398), (2956, 399), (2960, 400), (2964, 401), (2968, 402), (2971, 403), (2975, 404), (2979, 405), (2983, 406), (2987, 407), (2991, 408), (2995, 409), (2999, 410), (3003, 411), (3007, 412), (3011, 413), (3015, 414), (3019, 415), (3023, 416), (3027, 417), (3031, 418), (3035, 419), (3039, 420), (3045, 421), (3048, 422)]
set_option maxRecDepth 100000 in
theorem hMD_ok : hwalk 0 lw_tbl (hMD.map fun e => (e.1, hwM e.2 2)) = true := by decide +kernel
def hMW : List (Nat × Nat) := [(0, 35), (1, 37), (2, 38), (3, 40), (4, 41), (5, 42), (6, 44), (7, 46), (8, 48), (9, 49), (10, 50), (11, 52), (12, 54), (13, 56), (14, 59), (15, 60), (16, 62), (17, 64), (18, 67), (19, 68), (20, 69), (21, 77), (22, 78), (23, 79), (24, 81), (25, 82), (26, 83), (27, 84), (28, 85), (29, 86), (30, 88), (31, 89), (32, 101), (33, 102), (34, 109), (35, 110), (36, 111), (37, 119), (38, 120), (39, 125), (40, 126), (41, 134), (42, 136), (43, 139), (44, 140), (45, 143), (46, 150), (47, 153), (48, 163), (49, 173), (50, 174), (51, 175), (52, 176), (53, 182), (54, 190), (55, 201), (56, 228), (57, 229), (58, 230), (59, 231), (60, 232), (61, 233), (62, 234), (63, 235), (64, 236), (65, 237), (66, 238), (67, 239), (68, 240), (69, 241), (70, 242), (71, 244), (72, 245), (73, 246), (74, 248), (75, 249), (76, 250), (77, 251), (78, 252), (79, 253), (80, 254), (81, 255), (82, 256), (83, 257), (84, 258), (85, 259), (86, 260), (87, 261), (88, 262), (89, 263), (90, 264), (91, 265), (92, 266), (93, 267), (94, 268), (95, 269), (96, 270), (97, 273), (98, 274), (99, 275), (100, 276), (101, 277), (102, 278), (103, 279), (104, 280), (105, 281), (106, 284), (107, 285), (108, 286), (109, 287), (110, 288), (111, 289), (112, 290), (113, 291), (114, 292), (115, 293), (116, 294), (117, 295), (118, 296), (119, 297), (120, 298), (121, 299), (122, 300), (123, 301), (124, 302), (125, 303), (126, 304), (127, 305), (128, 308), (129, 309), (130, 310), (131, 311), (132, 312), (133, 313), (134, 314), (135, 315), (136, 316), (137, 317), (138, 318), (139, 319), (140, 320), (141, 321), (142, 322), (143, 323), (144, 324), (145, 325), (146, 326), (147, 327), (148, 328), (149, 329), (150, 330), (151, 331), (152, 332), (153, 333), (154, 334), (155, 335), (156, 336), (157, 337), (158, 338), (159, 339), (160, 340), (161, 341), (162, 342), (163, 343), (164, 344), (165, 345), (166, 346), (167, 347), (168, 348), (169, 349), (170, 350), (171, 351), (172, 352), (173, 353), (174, 354), (175, 355), (176, 356), (177, 357), (178, 358), (179, 359), (180, 360), (181, 362), (182, 363), (183, 364), (184, 365), (185, 366), (186, 367), (187, 368), (188, 369), (189, 370), (190, 371), (191, 372), (192, 373), (193, 374), (194, 375), (195, 376), (196, 377), (197, 378), (198, 379), (199, 380), (200, 381), (201, 382), (202, 383), (203, 384), (204, 385), (205, 386), (206, 387), (207, 388), (208, 389), (209, 390), (210, 391), (211, 392), (212, 393), (213, 394), (214, 395), (215, 396), (216, 397), (217, 398), (218, 399), (219, 400), (220, 401), (221, 402), (222, 421), (632, 10), (637, 11), (641, 12), (645, 13), (649, 14), (655, 15), (659, 16), (733, 20), (738, 21), (742, 22), (749, 23), (753, 24), (757, 25), (761, 26), (765, 27), (769, 28), (773, 29), (777, 30), (782, 31), (786, 32), (790, 33), (797, 34), (805, 36), (817, 39), (834, 43), (842, 45), (853, 47), (875, 51), (883, 53), (893, 55), (901, 57), (905, 58), (920, 61), (928, 63), (936, 65), (961, 71), (969, 73), (973, 74), (977, 75), (983, 76), (1031, 87), (1195, 95), (1201, 96), (1205, 97), (1209, 98), (1217, 99), (1221, 100), (1233, 103), (1237, 104), (1242, 105), (1246, 106), (1250, 107), (1258, 108), (1279, 112), (1284, 113), (1288, 114), (1293, 115), (1322, 116), (1326, 117), (1330, 118), (1348, 121), (1352, 122), (1356, 123), (1360, 124), (1372, 127), (1379, 128), (1383, 129), (1387, 130), (1392, 131), (1396, 132), (1402, 133), (1410, 135), (1421, 137), (1427, 138), (1442, 141), (1446, 142), (1462, 144), (1466, 145), (1472, 146), (1476, 147), (1481, 148), (1485, 149), (1493, 151), (1497, 152), (1505, 154), (1510, 155), (1515, 156), (1519, 157), (1526, 158), (1531, 159), (1535, 160), (1539, 161), (1544, 162), (1554, 164), (1558, 165), (1562, 166), (1566, 167), (1570, 168), (1574, 169), (1578, 170), (1584, 171), (1588, 172), (1610, 177), (1614, 178), (1618, 179), (1623, 180), (1628, 181), (1636, 183), (1640, 184), (1644, 185), (1651, 186), (1655, 187), (1659, 188), (1663, 189), (1673, 191), (1679, 192), (1686, 193), (1693, 194), (1697, 195), (1704, 196), (1711, 197), (1715, 198), (1721, 199), (1726, 200), (1736, 202), (1740, 203), (1744, 204), (1748, 205), (1756, 206), (1761, 207), (1765, 208), (1773, 210), (1777, 211), (1781, 212), (1785, 213), (1789, 214), (1793, 215), (1797, 216), (1803, 217), (1807, 218), (1813, 219), (1817, 220), (1821, 221), (1826, 222), (1831, 223), (1836, 224), (1840, 225), (1845, 226), (2546, 306), (2550, 307), (2972, 403), (2976, 404), (2980, 405), (2984, 406), (2988, 407), (2992, 408), (2996, 409), (3000, 410), (3004, 411), (3008, 412), (3012, 413), (3016, 414), (3020, 415), (3024, 416), (3028, 417), (3032, 418), (3036, 419), (3040, 420), (3049, 422)]
set_option maxRecDepth 100000 in
theorem hMW_ok : hwalk 0 lw_tbl (hMW.map fun e => (e.1, hwM e.2 3)) = true := by decide +kernel
set_option maxRecDepth 100000 in
theorem hMall : (List.range hNM).all (fun y => (hMD.any (fun e => decide (e.2 = y)) && ((!decide (hmK y = 1) || hMW.any (fun e => decide (e.2 = y))) && hIq.any (fun e => decide (e.2 = hmO y))))) = true := by decide +kernel
theorem hMin1 {L : List (Nat × Nat)} {y : Nat} (h : L.any (fun e => decide (e.2 = y)) = true) : ∃ p, (p, y) ∈ L := by
  obtain ⟨⟨p, z⟩, h1, h2⟩ := List.any_eq_true.mp h
  have h3 : z = y := of_decide_eq_true h2
  subst h3
  exact ⟨p, h1⟩
theorem hMw_of {y : Nat} (h : y < hNM) : hMw y := by
  have h1 := List.all_eq_true.mp hMall y (List.mem_range.mpr h)
  simp only [Bool.and_eq_true, Bool.or_eq_true, Bool.not_eq_true', decide_eq_false_iff_not] at h1
  obtain ⟨a2, a3, a4⟩ := h1
  obtain ⟨p2, b2⟩ := hMin1 a2
  obtain ⟨p4, b4⟩ := hMin1 a4
  refine ⟨hwC_of h, hwalk_mem hIq_ok (List.mem_map.mpr ⟨_, b4, rfl⟩), hwalk_mem hMD_ok (List.mem_map.mpr ⟨_, b2, rfl⟩), fun hk => ?_⟩
  obtain ⟨p3, b3⟩ := hMin1 (a3.resolve_left (fun q => q hk))
  exact hwalk_mem hMW_ok (List.mem_map.mpr ⟨_, b3, rfl⟩)
set_option maxRecDepth 100000 in
theorem hObI : Cond.instanceMethod hOb ∈ lw_tbl := List.mem_of_getElem? (i := 249) (by decide +kernel)
set_option maxRecDepth 100000 in
theorem hObC : Cond.code hOb ⟨#[0xb1]⟩ 1 none ∈ lw_tbl := List.mem_of_getElem? (i := 250) (by decide +kernel)
end
section
/-! How the plain memory stands for the machine's: numbers, locals, cells. -/
def cv (ρ : Nat → Nat) : AV → Value
  | Sum.inl z => .int (Int32.ofInt z)
  | Sum.inr (Sum.inl z) => .long (Int64.ofInt z)
  | Sum.inr (Sum.inr r) => va_rf (r.map ρ)
def okv : AV → Prop
  | Sum.inl z => -2147483648 ≤ z ∧ z ≤ 2147483647
  | Sum.inr (Sum.inl z) => -9223372036854775808 ≤ z ∧ z ≤ 9223372036854775807
  | Sum.inr (Sum.inr _) => True
theorem cv_cat {ρ : Nat → Nat} (v : AV) : (cv ρ v).category = hwd v := by
  rcases v with z | z | r
  · rfl
  · rfl
  · cases r <;> rfl
theorem i32r {z : Int} (h : okv (vI z)) : (Int32.ofInt z).toInt = z := Int32.toInt_ofInt_of_le (by have := h.1; omega) (by have := h.2; omega)
theorem i64r {z : Int} (h : okv (vL z)) : (Int64.ofInt z).toInt = z := Int64.toInt_ofInt_of_le (by have := h.1; omega) (by have := h.2; omega)
theorem ok_t32 (x : Int32) : okv (vI x.toInt) := ⟨by have := x.le_toInt; omega, by have := x.toInt_lt; omega⟩
theorem ok_t64 (x : Int64) : okv (vL x.toInt) := ⟨by have := x.le_toInt; omega, by have := x.toInt_lt; omega⟩
theorem to32 {x : Int32} {z : Int} (h : x.toInt = z) : x = Int32.ofInt z := by rw [← h, Int32.ofInt_toInt]
theorem to64 {x : Int64} {z : Int} (h : x.toInt = z) : x = Int64.ofInt z := by rw [← h, Int64.ofInt_toInt]
theorem w32_ok (z : Int) : okv (vI (w32 z)) := by
  have h := ok_t32 (Int32.ofInt z)
  rw [Int32.toInt_ofInt] at h
  exact h
theorem w64_ok (z : Int) : okv (vL (w64 z)) := by
  have h := ok_t64 (Int64.ofInt z)
  rw [Int64.toInt_ofInt] at h
  exact h
theorem i32w (z : Int) : (Int32.ofInt z).toInt = w32 z := Int32.toInt_ofInt
theorem i64w (z : Int) : (Int64.ofInt z).toInt = w64 z := Int64.toInt_ofInt
theorem hIB_ok (k : Nat) (x y : Int) : okv (vI (hIB k x y)) := by
  unfold hIB
  split <;> first | exact w32_ok _ | exact ok_t32 _
theorem hLB_ok (k : Nat) (x y : Int) : okv (vL (hLB k x y)) := by
  unfold hLB
  split <;> first | exact w64_ok _ | exact ok_t64 _
theorem hLH_ok (k : Nat) (x y : Int) : okv (vL (hLH k x y)) := by
  unfold hLH
  split <;> exact ok_t64 _
theorem add32 {x y : Int} (hx : okv (vI x)) (hy : okv (vI y)) : Int32.ofInt x + Int32.ofInt y = Int32.ofInt (w32 (x + y)) := to32 (by rw [Int32.toInt_add, i32r hx, i32r hy]; rfl)
theorem sub32 {x y : Int} (hx : okv (vI x)) (hy : okv (vI y)) : Int32.ofInt x - Int32.ofInt y = Int32.ofInt (w32 (x - y)) := to32 (by rw [Int32.toInt_sub, i32r hx, i32r hy]; rfl)
theorem mul32 {x y : Int} (hx : okv (vI x)) (hy : okv (vI y)) : Int32.ofInt x * Int32.ofInt y = Int32.ofInt (w32 (x * y)) := to32 (by rw [Int32.toInt_mul, i32r hx, i32r hy]; rfl)
theorem neg32 {x : Int} (hx : okv (vI x)) : - Int32.ofInt x = Int32.ofInt (w32 (-x)) := to32 (by rw [Int32.toInt_neg, i32r hx]; rfl)
theorem add64 {x y : Int} (hx : okv (vL x)) (hy : okv (vL y)) : Int64.ofInt x + Int64.ofInt y = Int64.ofInt (w64 (x + y)) := to64 (by rw [Int64.toInt_add, i64r hx, i64r hy]; rfl)
theorem sub64 {x y : Int} (hx : okv (vL x)) (hy : okv (vL y)) : Int64.ofInt x - Int64.ofInt y = Int64.ofInt (w64 (x - y)) := to64 (by rw [Int64.toInt_sub, i64r hx, i64r hy]; rfl)
theorem mul64 {x y : Int} (hx : okv (vL x)) (hy : okv (vL y)) : Int64.ofInt x * Int64.ofInt y = Int64.ofInt (w64 (x * y)) := to64 (by rw [Int64.toInt_mul, i64r hx, i64r hy]; rfl)
theorem eq32 {x y : Int} (hx : okv (vI x)) (hy : okv (vI y)) : Int32.ofInt x = Int32.ofInt y ↔ x = y := ⟨fun h => by rw [← i32r hx, ← i32r hy, h], fun h => by rw [h]⟩
theorem lt32 {x y : Int} (hx : okv (vI x)) (hy : okv (vI y)) : Int32.ofInt x < Int32.ofInt y ↔ x < y := by rw [Int32.lt_iff_toInt_lt, i32r hx, i32r hy]
theorem le32 {x y : Int} (hx : okv (vI x)) (hy : okv (vI y)) : Int32.ofInt x ≤ Int32.ofInt y ↔ x ≤ y := by rw [Int32.le_iff_toInt_le, i32r hx, i32r hy]
theorem eq64 {x y : Int} (hx : okv (vL x)) (hy : okv (vL y)) : Int64.ofInt x = Int64.ofInt y ↔ x = y := ⟨fun h => by rw [← i64r hx, ← i64r hy, h], fun h => by rw [h]⟩
theorem lt64 {x y : Int} (hx : okv (vL x)) (hy : okv (vL y)) : Int64.ofInt x < Int64.ofInt y ↔ x < y := by rw [Int64.lt_iff_toInt_lt, i64r hx, i64r hy]
theorem ok0 : okv (vI 0) := ⟨by omega, by omega⟩
theorem z32 : (0 : Int32) = Int32.ofInt 0 := rfl
theorem z64 : (0 : Int64) = Int64.ofInt 0 := rfl
theorem nz32 {x : Int} (hx : okv (vI x)) (h : ¬ x = 0) : ¬ Int32.ofInt x = 0 := fun e => h ((eq32 hx ok0).mp e)
theorem nz64 {x : Int} (hx : okv (vL x)) (h : ¬ x = 0) : ¬ Int64.ofInt x = 0 := fun e => h ((eq64 hx ⟨by omega, by omega⟩).mp e)
theorem cmp_eq {x y : Int} (hx : okv (vL x)) (hy : okv (vL y)) : lg_cmp (Int64.ofInt x) (Int64.ofInt y) = Int32.ofInt (cmp64 x y) := by
  unfold lg_cmp cmp64
  by_cases h1 : y < x
  · rw [if_pos h1, if_pos ((lt64 hy hx).mpr h1)]; rfl
  · rw [if_neg h1, if_neg (fun e => h1 ((lt64 hy hx).mp e))]
    by_cases h2 : x = y
    · rw [if_pos h2, if_pos ((eq64 hx hy).mpr h2)]; rfl
    · rw [if_neg h2, if_neg (fun e => h2 ((eq64 hx hy).mp e))]; rfl
theorem cmp_ok (x y : Int) : okv (vI (cmp64 x y)) := by
  unfold cmp64
  split
  · exact ⟨by omega, by omega⟩
  · split <;> exact ⟨by omega, by omega⟩
theorem i2l_eq {x : Int} (hx : okv (vI x)) : (Int32.ofInt x).toInt64 = Int64.ofInt x := to64 (by rw [Int32.toInt_toInt64, i32r hx])
theorem i2l_ok {x : Int} (hx : okv (vI x)) : okv (vL x) := ⟨by have := hx.1; omega, by have := hx.2; omega⟩
theorem l2i_eq {x : Int} (hx : okv (vL x)) : (Int64.ofInt x).toInt32 = Int32.ofInt (w32 x) := to32 (by rw [Int64.toInt_toInt32, i64r hx]; rfl)
theorem ix_in {j : Int} {n : Nat} (hj : okv (vI j)) (h0 : 0 ≤ j) (h : j < n) : ¬ (Int32.ofInt j < 0 ∨ n ≤ (Int32.ofInt j).toNatClampNeg) := by
  have e : (Int32.ofInt j).toNatClampNeg = j.toNat := by
    show (Int32.ofInt j).toInt.toNat = _
    rw [i32r hj]
  rw [e]
  rintro (a | a)
  · exact absurd ((lt32 hj ok0).mp a) (by omega)
  · omega
theorem ix_at {j : Int} (hj : okv (vI j)) : (Int32.ofInt j).toNatClampNeg = j.toNat := by
  show (Int32.ofInt j).toInt.toNat = _
  rw [i32r hj]
/-! locals -/
def hLoc (ρ : Nat → Nat) (ls : Array Slot) (n : Nat) (la : hLs) : Prop := ls.size = n ∧ lv_wf ls ∧ ∀ (i : Nat) (v : AV), la.getD i none = some v → ls[i]? = some (.val (cv ρ v)) ∧ okv v
def hprs (ρ : Nat → Nat) : Nat → hLs → List (Nat × Value)
  | _, [] => []
  | i, some v :: l => (i, cv ρ v) :: hprs ρ (i + 1) l
  | i, none :: l => hprs ρ (i + 1) l
section RHO
variable {ρ : Nat → Nat}
theorem hprs_in : ∀ (la : hLs) (b : Nat) (q : Nat × Value), q ∈ hprs ρ b la ↔ ∃ i v, la.getD i none = some v ∧ q = (b + i, cv ρ v) := by
  intro la
  induction la with
  | nil => intro b q; simp [hprs]
  | cons x l ih =>
    intro b q
    have key : (∃ i v, (x :: l).getD i none = some v ∧ q = (b + i, cv ρ v)) ↔ ((∃ v, x = some v ∧ q = (b, cv ρ v)) ∨ ∃ i v, l.getD i none = some v ∧ q = (b + 1 + i, cv ρ v)) := by
      constructor
      · rintro ⟨i, v, h1, h2⟩
        cases i with
        | zero => exact Or.inl ⟨v, by simpa using h1, by simpa using h2⟩
        | succ i => exact Or.inr ⟨i, v, by simpa using h1, by rw [h2]; congr 1; omega⟩
      · rintro (⟨v, h1, h2⟩ | ⟨i, v, h1, h2⟩)
        · exact ⟨0, v, by simpa using h1, by simpa using h2⟩
        · exact ⟨i + 1, v, by simpa using h1, by rw [h2]; congr 1; omega⟩
    rw [key]
    cases x with
    | none => rw [hprs, ih]; simp
    | some w => rw [hprs, List.mem_cons, ih]; simp
theorem hLoc.has {ls : Array Slot} {n : Nat} {la : hLs} (h : hLoc ρ ls n la) : lv_has ls n (hprs ρ 0 la) := by
  refine ⟨h.1, h.2.1, fun q hq => ?_⟩
  obtain ⟨i, v, h1, rfl⟩ := (hprs_in la 0 q).mp hq
  rw [Nat.zero_add]
  exact (h.2.2 i v h1).1
theorem getD_set {α : Type} (l : List α) (i j : Nat) (x d : α) : (l.set i x).getD j d = if j = i ∧ i < l.length then x else l.getD j d := by
  simp only [List.getD_eq_getElem?_getD, List.getElem?_set]
  by_cases h : i = j
  · subst h
    by_cases hl : i < l.length
    · simp [hl]
    · simp [hl]
  · have h' : ¬ j = i := fun e => h e.symm
    simp [h, h']
theorem hkl_at (la : hLs) (i j : Nat) (v : AV) (h : (hkl la i).getD j none = some v) : la.getD j none = some v ∧ ¬ (j + 1 = i ∧ hwd v = 2) := by
  unfold hkl at h
  cases i with
  | zero => exact ⟨h, by omega⟩
  | succ k =>
    dsimp only at h
    split at h
    · rename_i z hz
      rw [getD_set] at h
      by_cases hj : j = k ∧ k < la.length
      · rw [if_pos hj] at h; cases h
      · rw [if_neg hj] at h
        refine ⟨h, fun e => hj ⟨by omega, ?_⟩⟩
        have hk : la.getD k none = some (Sum.inr (Sum.inl z)) := hz
        rcases Nat.lt_or_ge k la.length with q | q
        · exact q
        · rw [List.getD_eq_getElem?_getD, List.getElem?_eq_none q] at hk; cases hk
    · rename_i hz
      refine ⟨h, fun e => ?_⟩
      have hj : j = k := by omega
      subst hj
      rcases v with z | z | r
      · cases e.2
      · exact hz z h
      · cases e.2
theorem hkl_len (la : hLs) (i : Nat) : (hkl la i).length = la.length := by
  unfold hkl
  split
  · rfl
  · split <;> simp
theorem hLoc.sto1 {ls ls1 : Array Slot} {n i : Nat} {la : hLs} {v : AV} (h : hLoc ρ ls n la) (hv : okv v) (hc : hwd v = 1) (h1 : lv_has ls1 n ((i, cv ρ v) :: (hprs ρ 0 la).filter (fun q => !(q.1 == i) && !(q.1 + 1 == i && q.2.category == 2)))) : hLoc ρ ls1 n (hsto la i v) := by
  have e : hsto la i v = (hkl la i).set i (some v) := by
    rcases v with z | z | r
    · rfl
    · cases hc
    · rfl
  rw [e]
  refine ⟨h1.1, h1.2.1, fun j w hj => ?_⟩
  rw [getD_set] at hj
  by_cases hji : j = i
  · subst hji
    by_cases hl : j < (hkl la j).length
    · rw [if_pos ⟨rfl, hl⟩] at hj
      cases hj
      exact ⟨h1.2.2 (j, cv ρ v) List.mem_cons_self, hv⟩
    · rw [if_neg (fun q => hl q.2), List.getD_eq_getElem?_getD, List.getElem?_eq_none (by omega)] at hj
      cases hj
  · rw [if_neg (fun q => hji q.1)] at hj
    obtain ⟨a, b⟩ := hkl_at la i j w hj
    obtain ⟨-, ok⟩ := h.2.2 j w a
    refine ⟨h1.2.2 (j, cv ρ w) (List.mem_cons_of_mem _ (List.mem_filter.mpr ⟨(hprs_in la 0 _).mpr ⟨j, w, a, by rw [Nat.zero_add]⟩, ?_⟩)), ok⟩
    rw [cv_cat]
    simp only [Bool.and_eq_true, Bool.not_eq_true', beq_eq_false_iff_ne, Bool.and_eq_false_iff]
    refine ⟨hji, ?_⟩
    by_cases q : j + 1 = i
    · exact Or.inr (fun z => b ⟨q, z⟩)
    · exact Or.inl q
theorem hLoc.sto2 {ls ls1 : Array Slot} {n i : Nat} {la : hLs} {v : AV} (h : hLoc ρ ls n la) (hv : okv v) (hc : hwd v = 2) (h1 : lv_has ls1 n ((i, cv ρ v) :: (hprs ρ 0 la).filter (fun q => !(q.1 == i) && (!(q.1 == i + 1) && !(q.1 + 1 == i && q.2.category == 2))))) : hLoc ρ ls1 n (hsto la i v) := by
  have e : hsto la i v = ((hkl la i).set i (some v)).set (i + 1) none := by
    rcases v with z | z | r
    · cases hc
    · rfl
    · cases hc
  rw [e]
  refine ⟨h1.1, h1.2.1, fun j w hj => ?_⟩
  rw [getD_set, getD_set] at hj
  by_cases hj2 : j = i + 1
  · subst hj2
    by_cases hl : i + 1 < ((hkl la i).set i (some v)).length
    · rw [if_pos ⟨rfl, hl⟩] at hj; cases hj
    · rw [if_neg (fun q => hl q.2), if_neg (fun q => by omega), List.getD_eq_getElem?_getD, List.getElem?_eq_none (by simpa using hl)] at hj
      cases hj
  · rw [if_neg (fun q => hj2 q.1)] at hj
    by_cases hji : j = i
    · subst hji
      by_cases hl : j < (hkl la j).length
      · rw [if_pos ⟨rfl, hl⟩] at hj
        cases hj
        exact ⟨h1.2.2 (j, cv ρ v) List.mem_cons_self, hv⟩
      · rw [if_neg (fun q => hl q.2), List.getD_eq_getElem?_getD, List.getElem?_eq_none (by omega)] at hj
        cases hj
    · rw [if_neg (fun q => hji q.1)] at hj
      obtain ⟨a, b⟩ := hkl_at la i j w hj
      obtain ⟨-, ok⟩ := h.2.2 j w a
      refine ⟨h1.2.2 (j, cv ρ w) (List.mem_cons_of_mem _ (List.mem_filter.mpr ⟨(hprs_in la 0 _).mpr ⟨j, w, a, by rw [Nat.zero_add]⟩, ?_⟩)), ok⟩
      rw [cv_cat]
      simp only [Bool.and_eq_true, Bool.not_eq_true', beq_eq_false_iff_ne, Bool.and_eq_false_iff]
      refine ⟨hji, hj2, ?_⟩
      by_cases q : j + 1 = i
      · exact Or.inr (fun z => b ⟨q, z⟩)
      · exact Or.inl q
/-! a call's locals -/
theorem hent_args : ∀ (as : List AV) (b i : Nat) (v : AV), (hent as).getD i none = some v → (b + i, cv ρ v) ∈ lv_args b (as.map (cv ρ)) ∧ v ∈ as := by
  intro as
  induction as with
  | nil => intro b i v h; simp [hent] at h
  | cons w l ih =>
    intro b i v h
    by_cases hw : hwd w = 2
    · rcases w with z | z | r
      · cases hw
      · rw [hent] at h
        match i, h with
        | 0, h => cases h; exact ⟨by simp [lv_args], List.mem_cons_self⟩
        | 1, h => cases h
        | i + 2, h =>
          obtain ⟨a, c⟩ := ih (b + 2) i v (by simpa using h)
          refine ⟨?_, List.mem_cons_of_mem _ c⟩
          simp only [List.map_cons, lv_args, cv_cat, hw, if_true]
          exact List.mem_cons_of_mem _ (by rw [show b + (i + 2) = b + 2 + i by omega]; exact a)
      · cases hw
    · have e : hent (w :: l) = some w :: hent l := by
        rcases w with z | z | r
        · rfl
        · exact absurd rfl hw
        · rfl
      rw [e] at h
      match i, h with
      | 0, h => cases h; exact ⟨by simp [lv_args], List.mem_cons_self⟩
      | i + 1, h =>
        obtain ⟨a, c⟩ := ih (b + 1) i v (by simpa using h)
        refine ⟨?_, List.mem_cons_of_mem _ c⟩
        simp only [List.map_cons, lv_args, cv_cat, hw, if_false]
        exact List.mem_cons_of_mem _ (by rw [show b + (i + 1) = b + 1 + i by omega]; exact a)
theorem hent_len : ∀ as : List AV, (lg_sl (as.map (cv ρ))).length = (hent as).length := by
  intro as
  induction as with
  | nil => rfl
  | cons w l ih =>
    have e : lg_sl ((w :: l).map (cv ρ)) = (if hwd w = 2 then [.val (cv ρ w), .second] else [.val (cv ρ w)]) ++ lg_sl (l.map (cv ρ)) := by
      simp [lg_sl, cv_cat]
    rw [e, List.length_append, ih]
    rcases w with z | z | r
    · simp [hwd, hent]; omega
    · simp [hwd, hent]; omega
    · simp [hwd, hent]; omega
theorem hpad_at (l : hLs) (n i : Nat) (v : AV) (h : (hpad l n).getD i none = some v) : l.getD i none = some v := by
  unfold hpad at h
  rw [List.getD_eq_getElem?_getD] at h ⊢
  by_cases hi : i < l.length
  · rw [List.getElem?_append_left hi] at h; exact h
  · rw [List.getElem?_append_right (by omega), List.getElem?_replicate] at h
    split at h <;> cases h
end RHO
end
section
/-! The cells: what an address holds, and how it stays so. Addresses of the small machine are numbers of their own; ρ says where they are. -/
def hat (t : Nat) : Nat := if 10 ≤ t then 4 else t
def hRho (ρ : Nat → Nat) (K N0 : Nat) : Prop := (∀ a, K ≤ a → ρ a + K = N0 + a) ∧ ∀ a, a < K → a ≠ 1 → ρ a < N0
theorem hRho.ne {ρ : Nat → Nat} {K N0 a b : Nat} (h : hRho ρ K N0) (ha : K ≤ a) (hab : b ≠ a) (hb1 : K ≤ b ∨ b ≠ 1) : ρ b ≠ ρ a := by
  have h1 := h.1 a ha
  by_cases hb : K ≤ b
  · have h2 := h.1 b hb
    omega
  · have h2 := h.2 b (by omega) (hb1.resolve_left hb)
    omega
theorem hRho.inj {ρ : Nat → Nat} {K N0 a b : Nat} (h : hRho ρ K N0) (ha : K ≤ a) (hb : K ≤ b) : ρ b = ρ a ↔ b = a := ⟨fun e => Decidable.byContradiction fun hn => h.ne ha hn (Or.inl hb) e, fun e => by rw [e]⟩
theorem hRho.opt {ρ : Nat → Nat} {K N0 : Nat} {p q : Option Nat} (h : hRho ρ K N0) (hp : K ≤ p.getD K) (hq : K ≤ q.getD K) : p.map ρ = q.map ρ ↔ p = q := by
  cases p with
  | none => cases q <;> simp
  | some a => cases q with
    | none => simp
    | some b =>
      simp only [Option.map_some, Option.some.injEq]
      exact h.inj hq hp
theorem hRho.ge {ρ : Nat → Nat} {K N0 a : Nat} (h : hRho ρ K N0) (ha : K ≤ a) : N0 ≤ ρ a := by have h1 := h.1 a ha; omega
def hObj (ρ : Nat → Nat) (s : State) (σ : hM) (H : Heap) (K a c : Nat) : Prop := ∃ cell : Cell, H[ρ a]? = some cell ∧ cell.vm ≠ .unknown ∧ cell.vm.isStatics = false ∧ s.vm.findClass (hName c) = some cell.cls ∧ (K ≤ a → cell.vm = .none) ∧
  ∀ k, k < hFn c → ∃ cf kc fi f, s.fieldFound? (hName c) (hFd c k).1 (hFd c k).2.1 = some (cf, kc, fi, f) ∧ f.isStatic = false ∧ cell.slots[f.slot]? = some (cv ρ (hld σ (hFd c k).2.2.1 a k)) ∧ okv (hld σ (hFd c k).2.2.1 a k)
def hRow (ρ : Nat → Nat) (s : State) (σ : hM) (H : Heap) (K a t len : Nat) : Prop := ∃ cell : Cell, H[ρ a]? = some cell ∧ cell.vm ≠ .unknown ∧ s.isArrayOf cell (hArr t) ∧ (K ≤ a → cell.vm = .none) ∧
  (10 ≤ t → ∃ kA comp, s.vm.classes[cell.cls]? = some kA ∧ kA.kind = .array comp (.object (hName (t - 10))) ∧ s.vm.findClass (hName (t - 10)) = some comp) ∧ (len ≤ cell.slots.size ∧ cell.slots.size.toInt32 = Int32.ofInt (len : Int)) ∧ len ≤ 1000000 ∧
  ∀ j, j < len → cell.slots[j]? = some (cv ρ (hld σ (hat t) a j)) ∧ okv (hld σ (hat t) a j)
def hRel (ρ : Nat → Nat) (K N0 : Nat) (H00 : Heap) (s : State) (σ : hM) (H : Heap) : Prop := (H.size + K = N0 + σ.1 ∧ hRho ρ K N0 ∧ mT σ 1 = none ∧ 2 ≤ K) ∧ K ≤ σ.1 ∧ (∀ a, a < N0 → H[a]? = H00[a]?) ∧
  (∀ a c, mT σ a = some (Sum.inl c) → hObj ρ s σ H K a c) ∧ ∀ a t len, mT σ a = some (Sum.inr (t, len)) → hRow ρ s σ H K a t len
section RHO
variable {ρ : Nat → Nat} {K : Nat}
theorem hRel.top {N0 : Nat} {H00 : Heap} {s : State} {σ : hM} {H : Heap} (h : hRel ρ K N0 H00 s σ H) : ρ σ.1 = H.size := by
  have h1 := h.1.1
  have h2 := h.1.2.1.1 σ.1 h.2.1
  omega
theorem hObj.moved {s s1 : State} {σ : hM} {H : Heap} {a c : Nat} (hv : s.vm.Alike s1.vm) (h : hObj ρ s σ H K a c) : hObj ρ s1 σ H K a c := by
  obtain ⟨cell, h1, h2, h3, h4, h5, h6⟩ := h
  refine ⟨cell, h1, h2, h3, by rw [hv.findClass]; exact h4, h5, fun k hk => ?_⟩
  obtain ⟨cf, kc, fi, f, g1, g2, g3, g4⟩ := h6 k hk
  obtain ⟨k', g1', -⟩ := State.fieldFound?_setVm hv g1
  exact ⟨cf, k', fi, f, g1', g2, g3, g4⟩
theorem hRow.moved {s s1 : State} {σ : hM} {H : Heap} {a t len : Nat} (hv : s.vm.Alike s1.vm) (h : hRow ρ s σ H K a t len) : hRow ρ s1 σ H K a t len := by
  obtain ⟨cell, h1, h2, h3, h5, h6, h7⟩ := h
  refine ⟨cell, h1, h2, State.isArrayOf_alike hv h3, h5, fun ht => ?_, h7⟩
  obtain ⟨kA, comp, g1, g2, g3⟩ := h6 ht
  obtain ⟨k', g1', e⟩ := hv.2.2 _ _ g1
  exact ⟨k', comp, g1', by rw [e]; exact g2, by rw [hv.findClass]; exact g3⟩
theorem hRel.moved {s s1 : State} {σ : hM} {H H00 : Heap} {N0 : Nat} (hv : s.vm.Alike s1.vm) (h : hRel ρ K N0 H00 s σ H) : hRel ρ K N0 H00 s1 σ H :=
  ⟨h.1, h.2.1, h.2.2.1, fun a c ha => (h.2.2.2.1 a c ha).moved hv, fun a t len ha => (h.2.2.2.2 a t len ha).moved hv⟩
theorem hObj.kept {s : State} {σ σ1 : hM} {H H1 : Heap} {a c : Nat} (h : hObj ρ s σ H K a c) (hq : H1[ρ a]? = H[ρ a]?) (hm : ∀ j, mI σ1 a j = mI σ a j ∧ mR σ1 a j = mR σ a j) : hObj ρ s σ1 H1 K a c := by
  have e : ∀ k j, hld σ1 k a j = hld σ k a j := fun k j => by unfold hld; rw [(hm j).1, (hm j).2]
  obtain ⟨cell, h1, h2, h3, h4, h5, h6⟩ := h
  refine ⟨cell, hq.trans h1, h2, h3, h4, h5, fun k hk => ?_⟩
  rw [e]
  exact h6 k hk
theorem hRow.kept {s : State} {σ σ1 : hM} {H H1 : Heap} {a t len : Nat} (h : hRow ρ s σ H K a t len) (hq : H1[ρ a]? = H[ρ a]?) (hm : ∀ j, mI σ1 a j = mI σ a j ∧ mR σ1 a j = mR σ a j) : hRow ρ s σ1 H1 K a t len := by
  have e : ∀ k j, hld σ1 k a j = hld σ k a j := fun k j => by unfold hld; rw [(hm j).1, (hm j).2]
  obtain ⟨cell, h1, h2, h3, h5, h6, h7, h8, h9⟩ := h
  refine ⟨cell, hq.trans h1, h2, h3, h5, h6, h7, h8, fun k hk => ?_⟩
  rw [e]
  exact h9 k hk
/-- one cell of ours changes: the rest stays -/
theorem hRel.put {s : State} {σ σ1 : hM} {H H1 H00 : Heap} {N0 a : Nat} (h : hRel ρ K N0 H00 s σ H) (ha : K ≤ a) (hz : H1.size = H.size) (hq : ∀ q, q ≠ ρ a → H1[q]? = H[q]?) (e1 : σ1.1 = σ.1) (e2 : mT σ1 = mT σ)
    (hm : ∀ b, b ≠ a → ∀ j, mI σ1 b j = mI σ b j ∧ mR σ1 b j = mR σ b j) (hO : ∀ c, mT σ a = some (Sum.inl c) → hObj ρ s σ1 H1 K a c) (hR : ∀ t len, mT σ a = some (Sum.inr (t, len)) → hRow ρ s σ1 H1 K a t len) : hRel ρ K N0 H00 s σ1 H1 := by
  obtain ⟨h1, h2, h3, h4, h5⟩ := h
  have hb1 : ∀ b, mT σ b ≠ none → K ≤ b ∨ b ≠ 1 := fun b hb => Or.inr (fun e => hb (by rw [e]; exact h1.2.2.1))
  refine ⟨by rw [hz, e1, e2]; exact h1, by rw [e1]; exact h2, fun q hq1 => (hq q (fun e => by have := h1.2.1.ge ha; omega)).trans (h3 q hq1), fun b c hb => ?_, fun b t len hb => ?_⟩
  · rw [e2] at hb
    by_cases hba : b = a
    · subst hba; exact hO c hb
    · exact (h4 b c hb).kept (hq _ (h1.2.1.ne ha hba (hb1 b (by rw [hb]; exact fun h => by cases h)))) (hm b hba)
  · rw [e2] at hb
    by_cases hba : b = a
    · subst hba; exact hR t len hb
    · exact (h5 b t len hb).kept (hq _ (h1.2.1.ne ha hba (hb1 b (by rw [hb]; exact fun h => by cases h)))) (hm b hba)
end RHO
theorem mI_sI (σ : hM) (a k : Nat) (x : Int) (b j : Nat) : mI (sI σ a k x) b j = if b = a ∧ j = k then x else mI σ b j := rfl
theorem mR_sR (σ : hM) (a k : Nat) (x : Option Nat) (b j : Nat) : mR (sR σ a k x) b j = if b = a ∧ j = k then x else mR σ b j := rfl
theorem hset_slot (cell : Cell) (i j : Nat) (v : Value) (hi : i < cell.slots.size) : (cell.setSlot i v).slots[j]? = if j = i then some v else cell.slots[j]? := by
  unfold Cell.setSlot
  simp only [Array.getElem?_setIfInBounds]
  by_cases h : i = j
  · subst h; simp [hi]
  · have h' : ¬ j = i := fun e => h e.symm
    simp [h, h']
theorem hset_size (cell : Cell) (i : Nat) (v : Value) : (cell.setSlot i v).slots.size = cell.slots.size := by simp [Cell.setSlot]
/-- the fields' words of a kind of object, out of the tables -/
theorem hV_in {c k : Nat} (h : hFq.any (fun e => decide (e.2 = (c, k))) = true) : hwV c k ∈ lw_tbl := by
  obtain ⟨e, he, h1⟩ := List.any_eq_true.mp h
  have h2 := of_decide_eq_true h1
  obtain ⟨p, c', k'⟩ := e
  cases h2
  exact hwalk_mem hFq_ok (List.mem_map.mpr ⟨(p, c, k), he, rfl⟩)
def hMade (c : Nat) : Bool := hNq.any (fun e => decide (e.2.1 = c)) && (List.range (hFn c)).all (fun k => hFq.any (fun e => decide (e.2 = (c, k)))) && hIq.any (fun e => decide (e.2 = c)) &&
  (List.range (hFn c)).all (fun a => (List.range (hFn c)).all (fun b => decide (a = b) || decide ((hFd c a).1 ≠ (hFd c b).1))) &&
  (List.range (hFn c)).all (fun k => match (hFd c k).2.2.1, parseFieldDescriptor (hFd c k).2.1 with
    | 0, some .int => true
    | 2, some .boolean => true
    | 3, some .long => true
    | 4, some (.object _) => true
    | 4, some (.array _) => true
    | _, _ => false)
set_option maxRecDepth 100000 in
theorem hMade_all : (hNq.map (fun e => e.2.1)).all hMade = true := by decide +kernel
theorem hMade_of {c : Nat} (h : hNq.any (fun e => decide (e.2.1 = c)) = true) : hMade c = true := by
  obtain ⟨e, he, h1⟩ := List.any_eq_true.mp h
  exact of_decide_eq_true h1 ▸ List.all_eq_true.mp hMade_all _ (List.mem_map.mpr ⟨e, he, rfl⟩)
theorem hV_of {c k : Nat} (h : hMade c = true) (hk : k < hFn c) : hwV c k ∈ lw_tbl := by
  unfold hMade at h
  simp only [Bool.and_eq_true] at h
  exact hV_in (List.all_eq_true.mp h.1.1.1.2 k (List.mem_range.mpr hk))
theorem hV_lays {c k : Nat} {args : Array Value} {s : State} (hts : ∀ w ∈ hBig, w.before args s = true) (h : hMade c = true) (hk : k < hFn c) :
    (Cond.lays (hName c) (hName c) (hFd c k).1 (hFd c k).2.1).before args s = true ∨ (Cond.laysFinal (hName c) (hName c) (hFd c k).1 (hFd c k).2.1).before args s = true := by
  have h1 := hV_of h hk
  unfold hwV at h1
  split at h1
  · exact Or.inr (hts _ (hBig_in h1 rfl))
  · exact Or.inl (hts _ (hBig_in h1 rfl))
theorem hNm_ne {c a b : Nat} (h : hMade c = true) (ha : a < hFn c) (hb : b < hFn c) (hab : a ≠ b) : (hFd c a).1 ≠ (hFd c b).1 := by
  unfold hMade at h
  simp only [Bool.and_eq_true] at h
  have h1 := List.all_eq_true.mp (List.all_eq_true.mp h.1.2 a (List.mem_range.mpr ha)) b (List.mem_range.mpr hb)
  simp only [Bool.or_eq_true, decide_eq_true_eq] at h1
  exact h1.resolve_left hab
/-- kinds of fields and their types -/
def hTyk (k : Nat) (ty : FieldType) : Prop := (k = 0 ∧ ty = .int) ∨ (k = 2 ∧ ty = .boolean) ∨ (k = 3 ∧ ty = .long) ∨ (k = 4 ∧ ((∃ n, ty = .object n) ∨ ∃ t, ty = .array t))
theorem hTy_of {c k : Nat} (h : hMade c = true) (hk : k < hFn c) : ∃ ty, parseFieldDescriptor (hFd c k).2.1 = some ty ∧ hTyk (hFd c k).2.2.1 ty := by
  unfold hMade at h
  simp only [Bool.and_eq_true] at h
  have h1 := List.all_eq_true.mp h.2 k (List.mem_range.mpr hk)
  unfold hTyk
  split at h1
  · rename_i e1 e2; exact ⟨_, e2, Or.inl ⟨e1, rfl⟩⟩
  · rename_i e1 e2; exact ⟨_, e2, Or.inr (Or.inl ⟨e1, rfl⟩)⟩
  · rename_i e1 e2; exact ⟨_, e2, Or.inr (Or.inr (Or.inl ⟨e1, rfl⟩))⟩
  · rename_i e1 e2; exact ⟨_, e2, Or.inr (Or.inr (Or.inr ⟨e1, Or.inl ⟨_, rfl⟩⟩))⟩
  · rename_i e1 e2; exact ⟨_, e2, Or.inr (Or.inr (Or.inr ⟨e1, Or.inr ⟨_, rfl⟩⟩))⟩
  · cases h1
end
section
/-! An instruction of the machine, as one of mine. -/
def hf3 {α : Type} : List (Nat × Nat × α) → Nat → Nat → Option α
  | [], _, _ => none
  | (a, b, x) :: r, o, i => if a = o ∧ b = i then some x else hf3 r o i
theorem hf3_in {α : Type} : ∀ (L : List (Nat × Nat × α)) (o i : Nat) (x : α), hf3 L o i = some x → (o, i, x) ∈ L := by
  intro L
  induction L with
  | nil => intro o i x h; cases h
  | cons q r ih =>
    intro o i x h
    obtain ⟨a, b, y⟩ := q
    unfold hf3 at h
    split at h
    · rename_i e; cases h; obtain ⟨rfl, rfl⟩ := e; exact List.mem_cons_self
    · exact List.mem_cons_of_mem _ (ih o i x h)
def hk1 (b : Bool) (op : hOp) (nx : Nat) : List (hOp × Nat) := if b = true then [(op, nx)] else []
theorem hk1_in {b : Bool} {op : hOp} {nx : Nat} {x : hOp × Nat} (h : x ∈ hk1 b op nx) : b = true ∧ x = (op, nx) := by
  unfold hk1 at h
  split at h
  · rename_i hb; exact ⟨hb, List.mem_singleton.mp h⟩
  · cases h
def hJ (pc : Nat) (off : Int) : Int := (pc : Int) + off
def hcn (c : ClassFile.Cond) : Nat := match c with
  | .eq => 0 | .ne => 1 | .lt => 2 | .ge => 3 | .gt => 4 | .le => 5
def hPutOk (y c k : Nat) : Bool := hMade c && decide (k < hFn c) && (!(hFd c k).2.2.2 || decide (hmK y = 2) && decide (hmO y = c))
def hNew (c : Nat) : Option Nat := (hNq.find? (fun e => decide (e.2.1 = c))).map (fun e => e.2.2)
def ho_ldc (y pc k len : Nat) : List (hOp × Nat) := match hf3 hLK (hmO y) k with
    | some (v, _) => hk1 (decide (len = 2) && decide (-2147483648 ≤ v) && decide (v ≤ 2147483647)) (0, 0, v, []) (pc + 2)
    | none => match hf3 hLS (hmO y) k with
      | some (j, _) => hk1 (decide (len = 2)) (34, 4 + j, 0, []) (pc + 2)
      | none => []
def ho_ldc_w (y pc k len : Nat) : List (hOp × Nat) := match hf3 hLK (hmO y) k with
    | some (v, _) => hk1 (decide (len = 3) && decide (-2147483648 ≤ v) && decide (v ≤ 2147483647)) (0, 0, v, []) (pc + 3)
    | none => match hf3 hLS (hmO y) k with
      | some (j, _) => hk1 (decide (len = 3)) (34, 4 + j, 0, []) (pc + 3)
      | none => []
def ho_ldc2_w (y pc k len : Nat) : List (hOp × Nat) := match hf3 hLL (hmO y) k with
    | some (v, _) => hk1 (decide (len = 3) && decide (-9223372036854775808 ≤ v) && decide (v ≤ 9223372036854775807)) (1, 0, v, []) (pc + 3)
    | none => []
def ho_getfield (y pc k len : Nat) : List (hOp × Nat) := match hf3 hLF (hmO y) k with
    | some (c, k1, _) => hk1 (decide (len = 3) && decide (k1 < hFn c)) (24, c, (k1 : Int), []) (pc + 3)
    | none => []
def ho_putfield (y pc k len : Nat) : List (hOp × Nat) := match hf3 hLF (hmO y) k with
    | some (c, k1, ns, _) => hk1 (decide (len = 3) && decide (ns = 0) && hPutOk y c k1) (25, c, (k1 : Int), []) (pc + 3)
    | none => []
def ho_new (y pc k len : Nat) : List (hOp × Nat) := match hf3 hLN (hmO y) k with
    | some (c, _) => match hNew c with
      | some w => hk1 (decide (len = 3)) (29, c, (w : Int), []) (pc + 3)
      | none => []
    | none => []
def ho_anewarray (y pc k len : Nat) : List (hOp × Nat) := match hf3 hLN (hmO y) k with
    | some (c, _) => hk1 (decide (len = 3) && hAq.any (fun e => decide (e.2 = c))) (30, 10 + c, 0, []) (pc + 3)
    | none => []
def ho_invokevirtual (y pc k len : Nat) : List (hOp × Nat) := match hf3 hLM (hmO y) k with
    | some (y1, ns, _) => hk1 (decide (len = 3) && decide (ns = 0) && decide (y1 < hNM) && decide (hmK y1 = 1)) (31, y1, 0, []) (pc + 3)
    | none => []
def ho_invokespecial (y pc k len : Nat) : List (hOp × Nat) := match hf3 hLM (hmO y) k with
    | some (y1, ns, _) => if y1 = 9999 then hk1 (decide (len = 3)) (32, 0, 0, []) (pc + 3) else hk1 (decide (len = 3) && decide (y1 < hNM) && decide (hmK y1 = 2)) (31, y1, (ns : Int), []) (pc + 3)
    | none => []
def ho_invokestatic (y pc k len : Nat) : List (hOp × Nat) := match hf3 hLM (hmO y) k with
    | some (y1, ns, _) => hk1 (decide (len = 3) && decide (y1 < hNM) && decide (hmK y1 = 0)) (31, y1, (ns : Int), []) (pc + 3)
    | none => []
def ho_getstatic (y pc k len : Nat) : List (hOp × Nat) := match hf3 hLG (hmO y) k with
    | some (j, _) => hk1 (decide (len = 3) && decide (j < 4)) (34, j, 0, []) (pc + 3)
    | none => []
def hops (y pc : Nat) (i : Instr) (len : Nat) : List (hOp × Nat) := match i with
  | .iconst n => hk1 (decide (len = 1) && decide (-1 ≤ n) && decide (n ≤ 5)) (0, 0, n, []) (pc + 1)
  | .bipush n => hk1 (decide (len = 2) && decide (-128 ≤ n) && decide (n ≤ 127)) (0, 0, n, []) (pc + 2)
  | .sipush n => hk1 (decide (len = 3) && decide (-32768 ≤ n) && decide (n ≤ 32767)) (0, 0, n, []) (pc + 3)
  | .ldc k => ho_ldc y pc k len
  | .ldc_w k => ho_ldc_w y pc k len
  | .lconst n => hk1 (decide (len = 1)) (1, 0, ((n : Nat) : Int), []) (pc + 1)
  | .ldc2_w k => ho_ldc2_w y pc k len
  | .aconst_null => hk1 (decide (len = 1)) (2, 0, 0, []) (pc + 1)
  | .iload_n k => hk1 (decide (len = 1)) (3, (k : Nat), 0, []) (pc + 1)
  | .iload k => hk1 (decide (len = 2)) (3, k, 0, []) (pc + 2)
  | .lload_n k => hk1 (decide (len = 1)) (3, (k : Nat), 1, []) (pc + 1)
  | .lload k => hk1 (decide (len = 2)) (3, k, 1, []) (pc + 2)
  | .aload_n k => hk1 (decide (len = 1)) (3, (k : Nat), 2, []) (pc + 1)
  | .aload k => hk1 (decide (len = 2)) (3, k, 2, []) (pc + 2)
  | .istore_n k => hk1 (decide (len = 1) && decide ((k : Nat) < hmL y)) (4, (k : Nat), 0, []) (pc + 1)
  | .istore k => hk1 (decide (len = 2) && decide (k < hmL y)) (4, k, 0, []) (pc + 2)
  | .lstore_n k => hk1 (decide (len = 1) && decide ((k : Nat) + 1 < hmL y)) (4, (k : Nat), 1, []) (pc + 1)
  | .lstore k => hk1 (decide (len = 2) && decide (k + 1 < hmL y)) (4, k, 1, []) (pc + 2)
  | .astore_n k => hk1 (decide (len = 1) && decide ((k : Nat) < hmL y)) (4, (k : Nat), 2, []) (pc + 1)
  | .astore k => hk1 (decide (len = 2) && decide (k < hmL y)) (4, k, 2, []) (pc + 2)
  | .iinc k n => hk1 (decide (len = 3) && decide (k < hmL y) && decide (-32768 ≤ n) && decide (n ≤ 32767)) (5, k, n, []) (pc + 3)
  | .dup => hk1 (decide (len = 1)) (6, 0, 0, []) (pc + 1)
  | .pop => hk1 (decide (len = 1)) (7, 0, 0, []) (pc + 1)
  | .dup2 => hk1 (decide (len = 1)) (8, 0, 0, []) (pc + 1)
  | .pop2 => hk1 (decide (len = 1)) (9, 0, 0, []) (pc + 1)
  | .iadd => hk1 (decide (len = 1)) (10, 0, 0, []) (pc + 1)
  | .isub => hk1 (decide (len = 1)) (10, 1, 0, []) (pc + 1)
  | .imul => hk1 (decide (len = 1)) (10, 2, 0, []) (pc + 1)
  | .idiv => hk1 (decide (len = 1)) (10, 3, 0, []) (pc + 1)
  | .irem => hk1 (decide (len = 1)) (10, 4, 0, []) (pc + 1)
  | .iand => hk1 (decide (len = 1)) (10, 5, 0, []) (pc + 1)
  | .ior => hk1 (decide (len = 1)) (10, 6, 0, []) (pc + 1)
  | .ixor => hk1 (decide (len = 1)) (10, 7, 0, []) (pc + 1)
  | .ishl => hk1 (decide (len = 1)) (10, 8, 0, []) (pc + 1)
  | .ishr => hk1 (decide (len = 1)) (10, 9, 0, []) (pc + 1)
  | .ladd => hk1 (decide (len = 1)) (11, 0, 0, []) (pc + 1)
  | .lsub => hk1 (decide (len = 1)) (11, 1, 0, []) (pc + 1)
  | .lmul => hk1 (decide (len = 1)) (11, 2, 0, []) (pc + 1)
  | .ldiv => hk1 (decide (len = 1)) (11, 3, 0, []) (pc + 1)
  | .lrem => hk1 (decide (len = 1)) (11, 4, 0, []) (pc + 1)
  | .land => hk1 (decide (len = 1)) (11, 5, 0, []) (pc + 1)
  | .lor => hk1 (decide (len = 1)) (11, 6, 0, []) (pc + 1)
  | .lxor => hk1 (decide (len = 1)) (11, 7, 0, []) (pc + 1)
  | .lshl => hk1 (decide (len = 1)) (12, 0, 0, []) (pc + 1)
  | .lshr => hk1 (decide (len = 1)) (12, 1, 0, []) (pc + 1)
  | .ineg => hk1 (decide (len = 1)) (13, 0, 0, []) (pc + 1)
  | .i2l => hk1 (decide (len = 1)) (14, 0, 0, []) (pc + 1)
  | .l2i => hk1 (decide (len = 1)) (15, 0, 0, []) (pc + 1)
  | .i2b => hk1 (decide (len = 1)) (16, 0, 0, []) (pc + 1)
  | .i2c => hk1 (decide (len = 1)) (35, 0, 0, []) (pc + 1)
  | .lcmp => hk1 (decide (len = 1)) (17, 0, 0, []) (pc + 1)
  | .ifCond c off => hk1 (decide (len = 3) && decide (0 ≤ hJ pc off)) (18, hcn c, hJ pc off, []) (pc + 3)
  | .if_icmp c off => hk1 (decide (len = 3) && decide (0 ≤ hJ pc off)) (19, hcn c, hJ pc off, []) (pc + 3)
  | .ifnull off => hk1 (decide (len = 3) && decide (0 ≤ hJ pc off)) (20, 0, hJ pc off, []) (pc + 3)
  | .ifnonnull off => hk1 (decide (len = 3) && decide (0 ≤ hJ pc off)) (20, 1, hJ pc off, []) (pc + 3)
  | .if_acmp c off => hk1 (decide (len = 3) && decide (0 ≤ hJ pc off)) (21, (match c with | .eq => 0 | .ne => 1), hJ pc off, []) (pc + 3)
  | .goto off => hk1 (decide (len = 3) && decide (0 ≤ hJ pc off)) (22, 0, hJ pc off, []) (pc + 3)
  | .tableswitch dflt lo hi offs => hk1 (decide (0 ≤ hJ pc dflt) && decide (hi = lo + offs.size - 1) && offs.toList.all (fun o => decide (0 ≤ hJ pc o))) (23, (hJ pc dflt).toNat, lo, offs.toList.map (hJ pc)) (pc + len)
  | .getfield k => ho_getfield y pc k len
  | .putfield k => ho_putfield y pc k len
  | .iaload => hk1 (decide (len = 1)) (26, 0, 0, []) (pc + 1)
  | .baload => hk1 (decide (len = 1)) (26, 1, 0, []) (pc + 1) ++ hk1 (decide (len = 1)) (26, 2, 0, []) (pc + 1)
  | .laload => hk1 (decide (len = 1)) (26, 3, 0, []) (pc + 1)
  | .aaload => hk1 (decide (len = 1)) (26, 10, 0, []) (pc + 1)
  | .iastore => hk1 (decide (len = 1)) (27, 0, 0, []) (pc + 1)
  | .bastore => hk1 (decide (len = 1)) (27, 1, 0, []) (pc + 1) ++ hk1 (decide (len = 1)) (27, 2, 0, []) (pc + 1)
  | .lastore => hk1 (decide (len = 1)) (27, 3, 0, []) (pc + 1)
  | .aastore => hk1 (decide (len = 1)) (27, 10, 0, []) (pc + 1)
  | .arraylength => hk1 (decide (len = 1)) (28, 0, 0, []) (pc + 1)
  | .new k => ho_new y pc k len
  | .newarray t => hk1 (decide (len = 2) && (match t with | .int => true | .byte => true | .boolean => true | .long => true | _ => false)) (30, (match t with | .int => 0 | .byte => 1 | .boolean => 2 | _ => 3), 0, []) (pc + 2)
  | .anewarray k => ho_anewarray y pc k len
  | .invokevirtual k => ho_invokevirtual y pc k len
  | .invokespecial k => ho_invokespecial y pc k len
  | .invokestatic k => ho_invokestatic y pc k len
  | .return_ => hk1 (decide (len = 1) && decide (hmR y = none)) (33, 0, 0, []) (pc + 1)
  | .ireturn => hk1 (decide (len = 1) && decide (hmR y = some .int)) (33, 1, 0, []) (pc + 1) ++ (hk1 (decide (len = 1) && decide (hmR y = some .boolean)) (33, 2, 0, []) (pc + 1) ++
      (hk1 (decide (len = 1) && decide (hmR y = some .byte)) (33, 5, 0, []) (pc + 1) ++ hk1 (decide (len = 1) && decide (hmR y = some .char)) (33, 6, 0, []) (pc + 1)))
  | .lreturn => hk1 (decide (len = 1) && decide (hmR y = some .long)) (33, 3, 0, []) (pc + 1)
  | .areturn => hk1 (decide (len = 1) && (match hmR y with | some (.object _) => true | some (.array _) => true | _ => false)) (33, 4, 0, []) (pc + 1)
  | .getstatic k => ho_getstatic y pc k len
  | _ => []
/-- the tables of instructions are right -/
def hTok (T : Nat → Nat → Option (hOp × Nat)) : Prop := ∀ y pc op nx, T y pc = some (op, nx) → ∃ i len, decode (hmB y) pc = .ok (i, len) ∧ (op, nx) ∈ hops y pc i len
end
section
/-! What a step of mine says, taken apart. -/
theorem hif_some {α : Type} {b : Bool} {x : Option α} {y : α} (h : hif b x = some y) : b = true ∧ x = some y := by
  unfold hif at h
  split at h
  · rename_i hb; exact ⟨hb, h⟩
  · cases h
section HINV
variable {N0 d y nx k i a : Nat} {E : Nat → AV} {b : Int} {tg : List Int} {ls : hLs} {st : List AV} {σ : hM} {x : hNx ⊕ (hCl ⊕ Option AV)}
theorem hs3 (h : hstep N0 E d y (3, i, b, tg) nx ls st σ = some x) : ∃ v, ls.getD i none = some v ∧ x = .inl (nx, ls, v :: st, σ) ∧ ((b = 0 ∧ ∃ z, v = vI z) ∨ (b = 1 ∧ ∃ z, v = vL z) ∨ (b = 2 ∧ ∃ r, v = vR r)) := by
  simp only [hstep] at h
  split at h
  · rename_i z e; obtain ⟨h1, h2⟩ := hif_some h; exact ⟨_, e, (Option.some.inj h2).symm, Or.inl ⟨of_decide_eq_true h1, z, rfl⟩⟩
  · rename_i z e; obtain ⟨h1, h2⟩ := hif_some h; exact ⟨_, e, (Option.some.inj h2).symm, Or.inr (Or.inl ⟨of_decide_eq_true h1, z, rfl⟩)⟩
  · rename_i z e; obtain ⟨h1, h2⟩ := hif_some h; exact ⟨_, e, (Option.some.inj h2).symm, Or.inr (Or.inr ⟨of_decide_eq_true h1, z, rfl⟩)⟩
  · cases h
theorem hs4 (h : hstep N0 E d y (4, i, b, tg) nx ls st σ = some x) : ∃ v r, st = v :: r ∧ x = .inl (nx, hsto ls i v, r, σ) ∧ ((b = 0 ∧ ∃ z, v = vI z) ∨ (b = 1 ∧ ∃ z, v = vL z) ∨ (b = 2 ∧ ∃ r, v = vR r)) := by
  simp only [hstep] at h
  split at h
  · rename_i z r; obtain ⟨h1, h2⟩ := hif_some h; exact ⟨_, _, rfl, (Option.some.inj h2).symm, Or.inl ⟨of_decide_eq_true h1, z, rfl⟩⟩
  · rename_i z r; obtain ⟨h1, h2⟩ := hif_some h; exact ⟨_, _, rfl, (Option.some.inj h2).symm, Or.inr (Or.inl ⟨of_decide_eq_true h1, z, rfl⟩)⟩
  · rename_i z r; obtain ⟨h1, h2⟩ := hif_some h; exact ⟨_, _, rfl, (Option.some.inj h2).symm, Or.inr (Or.inr ⟨of_decide_eq_true h1, z, rfl⟩)⟩
  · cases h
theorem hs5 (h : hstep N0 E d y (5, i, b, tg) nx ls st σ = some x) : ∃ z, ls.getD i none = some (vI z) ∧ x = .inl (nx, hsto ls i (vI (w32 (z + b))), st, σ) := by
  simp only [hstep] at h
  split at h
  · rename_i z e; exact ⟨z, e, (Option.some.inj h).symm⟩
  · cases h
theorem hs6 (h : hstep N0 E d y (6, i, b, tg) nx ls st σ = some x) : ∃ v r, st = v :: r ∧ hwd v = 1 ∧ x = .inl (nx, ls, v :: v :: r, σ) := by
  simp only [hstep] at h
  split at h
  · obtain ⟨h1, h2⟩ := hif_some h; exact ⟨_, _, rfl, of_decide_eq_true h1, (Option.some.inj h2).symm⟩
  · cases h
theorem hs7 (h : hstep N0 E d y (7, i, b, tg) nx ls st σ = some x) : ∃ v r, st = v :: r ∧ hwd v = 1 ∧ x = .inl (nx, ls, r, σ) := by
  simp only [hstep] at h
  split at h
  · obtain ⟨h1, h2⟩ := hif_some h; exact ⟨_, _, rfl, of_decide_eq_true h1, (Option.some.inj h2).symm⟩
  · cases h
theorem hs8 (h : hstep N0 E d y (8, i, b, tg) nx ls st σ = some x) : ∃ u v r, st = u :: v :: r ∧ hwd u = 1 ∧ hwd v = 1 ∧ x = .inl (nx, ls, u :: v :: u :: v :: r, σ) := by
  simp only [hstep] at h
  split at h
  · obtain ⟨h1, h2⟩ := hif_some h
    rw [Bool.and_eq_true, decide_eq_true_eq, decide_eq_true_eq] at h1
    exact ⟨_, _, _, rfl, h1.1, h1.2, (Option.some.inj h2).symm⟩
  · cases h
theorem hs9 (h : hstep N0 E d y (9, i, b, tg) nx ls st σ = some x) : ∃ v r, st = v :: r ∧ hwd v = 2 ∧ x = .inl (nx, ls, r, σ) := by
  simp only [hstep] at h
  split at h
  · obtain ⟨h1, h2⟩ := hif_some h; exact ⟨_, _, rfl, of_decide_eq_true h1, (Option.some.inj h2).symm⟩
  · cases h
theorem hs10 (h : hstep N0 E d y (10, k, b, tg) nx ls st σ = some x) : ∃ v u r, st = vI v :: vI u :: r ∧ ¬ ((k = 3 ∨ k = 4) ∧ v = 0) ∧ x = .inl (nx, ls, vI (hIB k u v) :: r, σ) := by
  simp only [hstep] at h
  split at h
  · obtain ⟨h1, h2⟩ := hif_some h; exact ⟨_, _, _, rfl, of_decide_eq_true h1, (Option.some.inj h2).symm⟩
  · cases h
theorem hs11 (h : hstep N0 E d y (11, k, b, tg) nx ls st σ = some x) : ∃ v u r, st = vL v :: vL u :: r ∧ ¬ ((k = 3 ∨ k = 4) ∧ v = 0) ∧ x = .inl (nx, ls, vL (hLB k u v) :: r, σ) := by
  simp only [hstep] at h
  split at h
  · obtain ⟨h1, h2⟩ := hif_some h; exact ⟨_, _, _, rfl, of_decide_eq_true h1, (Option.some.inj h2).symm⟩
  · cases h
theorem hs12 (h : hstep N0 E d y (12, k, b, tg) nx ls st σ = some x) : ∃ v u r, st = vI v :: vL u :: r ∧ x = .inl (nx, ls, vL (hLH k u v) :: r, σ) := by
  simp only [hstep] at h
  split at h
  · exact ⟨_, _, _, rfl, (Option.some.inj h).symm⟩
  · cases h
theorem hs13 (h : hstep N0 E d y (13, k, b, tg) nx ls st σ = some x) : ∃ u r, st = vI u :: r ∧ x = .inl (nx, ls, vI (w32 (-u)) :: r, σ) := by
  simp only [hstep] at h
  split at h
  · exact ⟨_, _, rfl, (Option.some.inj h).symm⟩
  · cases h
theorem hs14 (h : hstep N0 E d y (14, k, b, tg) nx ls st σ = some x) : ∃ u r, st = vI u :: r ∧ x = .inl (nx, ls, vL u :: r, σ) := by
  simp only [hstep] at h
  split at h
  · exact ⟨_, _, rfl, (Option.some.inj h).symm⟩
  · cases h
theorem hs15 (h : hstep N0 E d y (15, k, b, tg) nx ls st σ = some x) : ∃ u r, st = vL u :: r ∧ x = .inl (nx, ls, vI (w32 u) :: r, σ) := by
  simp only [hstep] at h
  split at h
  · exact ⟨_, _, rfl, (Option.some.inj h).symm⟩
  · cases h
theorem hs16 (h : hstep N0 E d y (16, k, b, tg) nx ls st σ = some x) : ∃ u r, st = vI u :: r ∧ x = .inl (nx, ls, vI (sb8 u) :: r, σ) := by
  simp only [hstep] at h
  split at h
  · exact ⟨_, _, rfl, (Option.some.inj h).symm⟩
  · cases h
theorem hs35 (h : hstep N0 E d y (35, k, b, tg) nx ls st σ = some x) : ∃ u r, st = vI u :: r ∧ x = .inl (nx, ls, vI (ch16 u) :: r, σ) := by
  simp only [hstep] at h
  split at h
  · exact ⟨_, _, rfl, (Option.some.inj h).symm⟩
  · cases h
theorem hs17 (h : hstep N0 E d y (17, k, b, tg) nx ls st σ = some x) : ∃ v u r, st = vL v :: vL u :: r ∧ x = .inl (nx, ls, vI (cmp64 u v) :: r, σ) := by
  simp only [hstep] at h
  split at h
  · exact ⟨_, _, _, rfl, (Option.some.inj h).symm⟩
  · cases h
theorem hs18 (h : hstep N0 E d y (18, k, b, tg) nx ls st σ = some x) : ∃ u r, st = vI u :: r ∧ x = .inl (bif hcmpB k u 0 then b.toNat else nx, ls, r, σ) := by
  simp only [hstep] at h
  split at h
  · exact ⟨_, _, rfl, (Option.some.inj h).symm⟩
  · cases h
theorem hs19 (h : hstep N0 E d y (19, k, b, tg) nx ls st σ = some x) : ∃ v u r, st = vI v :: vI u :: r ∧ x = .inl (bif hcmpB k u v then b.toNat else nx, ls, r, σ) := by
  simp only [hstep] at h
  split at h
  · exact ⟨_, _, _, rfl, (Option.some.inj h).symm⟩
  · cases h
theorem hs20 (h : hstep N0 E d y (20, k, b, tg) nx ls st σ = some x) : ∃ q r, st = vR q :: r ∧ x = .inl (bif (q.isNone == (k == 0)) then b.toNat else nx, ls, r, σ) := by
  simp only [hstep] at h
  split at h
  · exact ⟨_, _, rfl, (Option.some.inj h).symm⟩
  · cases h
theorem hs21 (h : hstep N0 E d y (21, k, b, tg) nx ls st σ = some x) : ∃ q p r, st = vR q :: vR p :: r ∧ N0 ≤ q.getD N0 ∧ N0 ≤ p.getD N0 ∧ x = .inl (bif (decide (p = q) == (k == 0)) then b.toNat else nx, ls, r, σ) := by
  simp only [hstep] at h
  split at h
  · obtain ⟨h1, h2⟩ := hif_some h
    simp only [Bool.and_eq_true, decide_eq_true_eq] at h1
    exact ⟨_, _, _, rfl, h1.1, h1.2, (Option.some.inj h2).symm⟩
  · cases h
theorem hs23 (h : hstep N0 E d y (23, k, b, tg) nx ls st σ = some x) : ∃ u r, st = vI u :: r ∧ x = .inl (if u < b ∨ b + tg.length ≤ u then k else (tg.getD (u - b).toNat 0).toNat, ls, r, σ) := by
  simp only [hstep] at h
  split at h
  · exact ⟨_, _, rfl, (Option.some.inj h).symm⟩
  · cases h
theorem hs24 (h : hstep N0 E d y (24, k, b, tg) nx ls st σ = some x) : ∃ r rest, st = vR r :: rest ∧ hIsO σ r k = true ∧ x = .inl (nx, ls, hld σ (hFd k b.toNat).2.2.1 (r.getD 0) b.toNat :: rest, σ) := by
  simp only [hstep] at h
  split at h
  · obtain ⟨h1, h2⟩ := hif_some h; exact ⟨_, _, rfl, h1, (Option.some.inj h2).symm⟩
  · cases h
theorem hs25 (h : hstep N0 E d y (25, k, b, tg) nx ls st σ = some x) : ∃ v r rest, st = v :: vR r :: rest ∧ hIsO σ r k = true ∧ N0 ≤ r.getD 0 ∧
    ((∃ z, v = vI z ∧ ((hFd k b.toNat).2.2.1 = 0 ∨ (hFd k b.toNat).2.2.1 = 2 ∧ h01 z = true) ∧ x = .inl (nx, ls, rest, sI σ (r.getD 0) b.toNat z)) ∨ (∃ z, v = vL z ∧ (hFd k b.toNat).2.2.1 = 3 ∧ x = .inl (nx, ls, rest, sI σ (r.getD 0) b.toNat z)) ∨
      ∃ q, v = vR q ∧ (hFd k b.toNat).2.2.1 = 4 ∧ x = .inl (nx, ls, rest, sR σ (r.getD 0) b.toNat q)) := by
  simp only [hstep] at h
  split at h
  · obtain ⟨h1, h2⟩ := hif_some h
    simp only [Bool.and_eq_true, Bool.or_eq_true, decide_eq_true_eq] at h1
    exact ⟨_, _, _, rfl, h1.1.1, h1.1.2, Or.inl ⟨_, rfl, h1.2, (Option.some.inj h2).symm⟩⟩
  · obtain ⟨h1, h2⟩ := hif_some h
    simp only [Bool.and_eq_true, decide_eq_true_eq] at h1
    exact ⟨_, _, _, rfl, h1.1.1, h1.1.2, Or.inr (Or.inl ⟨_, rfl, h1.2, (Option.some.inj h2).symm⟩)⟩
  · obtain ⟨h1, h2⟩ := hif_some h
    simp only [Bool.and_eq_true, decide_eq_true_eq] at h1
    exact ⟨_, _, _, rfl, h1.1.1, h1.1.2, Or.inr (Or.inr ⟨_, rfl, h1.2, (Option.some.inj h2).symm⟩)⟩
  · cases h
theorem hs26 (h : hstep N0 E d y (26, k, b, tg) nx ls st σ = some x) : ∃ j r rest, st = vI j :: vR r :: rest ∧ hIsA σ r k j = true ∧ x = .inl (nx, ls, hld σ (if k = 10 then 4 else k) (r.getD 0) j.toNat :: rest, σ) := by
  simp only [hstep] at h
  split at h
  · obtain ⟨h1, h2⟩ := hif_some h; exact ⟨_, _, _, rfl, h1, (Option.some.inj h2).symm⟩
  · cases h
theorem hs27 (h : hstep N0 E d y (27, k, b, tg) nx ls st σ = some x) : ∃ v j r rest, st = v :: vI j :: vR r :: rest ∧ hIsA σ r k j = true ∧ N0 ≤ r.getD 0 ∧
    ((∃ z, v = vI z ∧ (k = 0 ∨ k = 1 ∨ k = 2 ∧ h01 z = true) ∧ x = .inl (nx, ls, rest, sI σ (r.getD 0) j.toNat (if k = 1 then sb8 z else z))) ∨ (∃ z, v = vL z ∧ k = 3 ∧ x = .inl (nx, ls, rest, sI σ (r.getD 0) j.toNat z)) ∨
      ∃ q, v = vR q ∧ k = 10 ∧ hFit σ r q = true ∧ x = .inl (nx, ls, rest, sR σ (r.getD 0) j.toNat q)) := by
  simp only [hstep] at h
  split at h
  · obtain ⟨h1, h2⟩ := hif_some h
    simp only [Bool.and_eq_true, Bool.or_eq_true, decide_eq_true_eq] at h1
    refine ⟨_, _, _, _, rfl, h1.1.1, h1.1.2, Or.inl ⟨_, rfl, ?_, (Option.some.inj h2).symm⟩⟩
    rcases h1.2 with (a | a) | a
    · exact Or.inl a
    · exact Or.inr (Or.inl a)
    · exact Or.inr (Or.inr a)
  · obtain ⟨h1, h2⟩ := hif_some h
    simp only [Bool.and_eq_true, decide_eq_true_eq] at h1
    exact ⟨_, _, _, _, rfl, h1.1.1, h1.1.2, Or.inr (Or.inl ⟨_, rfl, h1.2, (Option.some.inj h2).symm⟩)⟩
  · obtain ⟨h1, h2⟩ := hif_some h
    simp only [Bool.and_eq_true, decide_eq_true_eq] at h1
    exact ⟨_, _, _, _, rfl, h1.1.1.1, h1.1.1.2, Or.inr (Or.inr ⟨_, rfl, h1.1.2, h1.2, (Option.some.inj h2).symm⟩)⟩
  · cases h
theorem hs28 (h : hstep N0 E d y (28, k, b, tg) nx ls st σ = some x) : ∃ r rest, st = vR r :: rest ∧ hHas σ r = true ∧ x = .inl (nx, ls, vI (hLen σ r) :: rest, σ) := by
  simp only [hstep] at h
  split at h
  · obtain ⟨h1, h2⟩ := hif_some h; exact ⟨_, _, rfl, h1, (Option.some.inj h2).symm⟩
  · cases h
theorem hs30 (h : hstep N0 E d y (30, k, b, tg) nx ls st σ = some x) : ∃ z rest, st = vI z :: rest ∧ 0 ≤ z ∧ z ≤ 1000000 ∧ x = .inl (nx, ls, vR (some σ.1) :: rest, sN σ (Sum.inr (k, z.toNat)) z.toNat) := by
  simp only [hstep] at h
  split at h
  · obtain ⟨h1, h2⟩ := hif_some h
    simp only [Bool.and_eq_true, decide_eq_true_eq] at h1
    exact ⟨_, _, rfl, h1.1, h1.2, (Option.some.inj h2).symm⟩
  · cases h
theorem hs31 (h : hstep N0 E d y (31, k, b, tg) nx ls st σ = some x) : hmN k ≤ st.length ∧ ((st.drop (hmN k)).map hwd).sum ≤ 8 ∧ (hent (st.take (hmN k)).reverse).length ≤ hmL k ∧ (hmK k = 0 ∨ ∃ r as, (st.take (hmN k)).reverse = vR r :: as ∧ hIsO σ r (hmO k) = true) ∧ x = .inr (.inl (k, (st.take (hmN k)).reverse, nx, ls, st.drop (hmN k))) := by
  simp only [hstep] at h
  obtain ⟨h1, h2⟩ := hif_some h
  simp only [Bool.and_eq_true, Bool.or_eq_true, decide_eq_true_eq] at h1
  refine ⟨h1.1.1.1, h1.1.1.2, h1.1.2, ?_, (Option.some.inj h2).symm⟩
  rcases h1.2 with a | a
  · exact Or.inl a
  · right
    split at a
    · rename_i r as e; exact ⟨r, as, e, a⟩
    · cases a
theorem hs32 (h : hstep N0 E d y (32, k, b, tg) nx ls st σ = some x) : ∃ o r, st = vR (some o) :: r ∧ 1 ≤ d ∧ (r.map hwd).sum ≤ 8 ∧ x = .inl (nx, ls, r, σ) := by
  simp only [hstep] at h
  split at h
  · obtain ⟨h1, h2⟩ := hif_some h
    simp only [Bool.and_eq_true, decide_eq_true_eq] at h1
    exact ⟨_, _, rfl, h1.1, h1.2, (Option.some.inj h2).symm⟩
  · cases h
theorem hs33 (h : hstep N0 E d y (33, k, b, tg) nx ls st σ = some x) : ∃ r : Option AV, x = .inr (.inr r) ∧ st = r.toList ∧
    ((r = none ∧ k = 0) ∨ (∃ z, r = some (vI z) ∧ (k = 1 ∨ k = 2 ∧ h01 z = true ∨ k = 5 ∧ -128 ≤ z ∧ z ≤ 127 ∨ k = 6 ∧ 0 ≤ z ∧ z ≤ 65535)) ∨ (∃ z, r = some (vL z) ∧ k = 3) ∨ ∃ q, r = some (vR q) ∧ k = 4) := by
  simp only [hstep] at h
  split at h
  · obtain ⟨h1, h2⟩ := hif_some h
    exact ⟨none, (Option.some.inj h2).symm, rfl, Or.inl ⟨rfl, of_decide_eq_true h1⟩⟩
  · obtain ⟨h1, h2⟩ := hif_some h
    simp only [Bool.and_eq_true, Bool.or_eq_true, decide_eq_true_eq] at h1
    refine ⟨some _, (Option.some.inj h2).symm, rfl, Or.inr (Or.inl ⟨_, rfl, ?_⟩)⟩
    rcases h1 with ((a | a) | a) | a
    · exact Or.inl a
    · exact Or.inr (Or.inl a)
    · exact Or.inr (Or.inr (Or.inl a))
    · exact Or.inr (Or.inr (Or.inr a))
  · obtain ⟨h1, h2⟩ := hif_some h
    exact ⟨some _, (Option.some.inj h2).symm, rfl, Or.inr (Or.inr (Or.inl ⟨_, rfl, of_decide_eq_true h1⟩))⟩
  · obtain ⟨h1, h2⟩ := hif_some h
    exact ⟨some _, (Option.some.inj h2).symm, rfl, Or.inr (Or.inr (Or.inr ⟨_, rfl, of_decide_eq_true h1⟩))⟩
  · cases h
end HINV
theorem hIsO_of {σ : hM} {r : Option Nat} {c : Nat} (h : hIsO σ r c = true) : ∃ a, r = some a ∧ mT σ a = some (Sum.inl c) := by
  unfold hIsO at h
  split at h
  · cases h
  · exact ⟨_, rfl, of_decide_eq_true h⟩
theorem hIsA_of {σ : hM} {r : Option Nat} {ty : Nat} {j : Int} (h : hIsA σ r ty j = true) : ∃ a t len, r = some a ∧ mT σ a = some (Sum.inr (t, len)) ∧ hak ty t = true ∧ 0 ≤ j ∧ j < len := by
  unfold hIsA at h
  split at h
  · cases h
  · split at h
    · rename_i e
      simp only [Bool.and_eq_true, decide_eq_true_eq] at h
      exact ⟨_, _, _, rfl, e, h.1, h.2.1, h.2.2⟩
    · cases h
theorem hHas_of {σ : hM} {r : Option Nat} (h : hHas σ r = true) : ∃ a t len, r = some a ∧ mT σ a = some (Sum.inr (t, len)) ∧ hLen σ r = len := by
  cases r with
  | none => cases h
  | some a =>
    cases e : mT σ a with
    | none => simp [hHas, e] at h
    | some q =>
      rcases q with q | ⟨t, len⟩
      · simp [hHas, e] at h
      · exact ⟨a, t, len, rfl, e, by simp [hLen, e]⟩
theorem hFit_of {σ : hM} {a t len : Nat} {v : Option Nat} (ha : mT σ a = some (Sum.inr (t, len))) (h : hFit σ (some a) v = true) : v = none ∨ ∃ b, v = some b ∧ mT σ b = some (Sum.inl (t - 10)) := by
  unfold hFit at h
  split at h
  · exact Or.inl rfl
  · simp only [Option.getD_some, ha] at h
    exact Or.inr ⟨_, rfl, of_decide_eq_true h⟩
end
section
/-! The Java machine does what a step of mine says: instructions that touch no cell. -/
def hCtx (p : Program) (s : State) (m : MethodId) (args : Array Value) (meth : Method) (c : Code) (y : Nat) : Prop :=
  p.tables.exec = Jvm.exec ∧ c.code = hmB y ∧ c.maxLocals = hmL y ∧ s.vm.findClass (hName (hmO y)) = some m.cls ∧ (∀ w ∈ hBig, w.before args s = true) ∧ (hmK y = 2 → meth.name = "<init>")
def hEnv (ρ : Nat → Nat) (N0 : Nat) (E : Nat → AV) (H00 : Heap) (s : State) : Prop :=
  (∀ q ∈ hLF, q.2.2.2.2.1 ≠ 0 → va_Nw (hwF q) s) ∧ (∀ q ∈ hLM, q.2.2.1 ≠ 9999 → q.2.2.2.1 ≠ 0 → va_Nw (hwL q) s) ∧ (∀ q ∈ hLG, q.2.2.2.1 ≠ 0 → va_Nw (hwG q) s) ∧
  (∀ q ∈ hAq, va_AO (hName q.2) s) ∧
  (∀ q ∈ hLS, ∃ a, E (4 + q.2.2.1) = vR (some a) ∧ vk_R (hName q.1) q.2.1 (hTx.getD q.2.2.1 "") (ρ a) s) ∧
  (∀ j, j < 4 → va_Z (hSn j).1 (hSn j).2.1 (hSn j).2.2 (cv ρ (E j)) (fun q => N0 ≤ q) s H00) ∧ ∀ j, okv (E j)
/-- what is to be shown of an instruction: it does what my step does -/
def hOK (ρ : Nat → Nat) (p : Program) (l : Launch) (e : Env) (R : Room) (s : State) (m : MethodId) (args : Array Value) (below : List Frame) (meth : Method) (c : Code) (Q : State → Prop) (K N0 : Nat) (E : Nat → AV) (H00 : Heap) (y nS zS : Nat) (i : Instr) : Prop :=
  ∀ (pc len : Nat) (op : hOp) (nx d : Nat) (la : hLs) (st : List AV) (σ : hM) (pc1 : Nat) (la1 : hLs) (st1 : List AV) (σ1 : hM) (H : Heap) (locs : List Loc) (ls : Array Slot),
    decode (hmB y) pc = .ok (i, len) → (op, nx) ∈ hops y pc i len → hstep K E d y op nx la st σ = some (Sum.inl (pc1, la1, st1, σ1)) →
    hLoc ρ ls (hmL y) la → (∀ v ∈ st, okv v) → hRel ρ K N0 H00 s σ H → (∀ q ∈ locs, N0 ≤ q.base) → nS ≤ σ.1 → zS ≤ σ.2.1 → σ1.1 ≤ nS + R.cells → σ1.2.1 ≤ zS + R.slots → (1 ≤ d → 1 ≤ R.frames ∧ 20 ≤ R.locals) →
    (∀ (H1 : Heap) (locs1 : List Loc) (ls1 : Array Slot), hLoc ρ ls1 (hmL y) la1 → (∀ v ∈ st1, okv v) → hRel ρ K N0 H00 s σ1 H1 → (∀ q ∈ locs1, N0 ≤ q.base) →
      W p l e R s m args below meth c H1 locs1 (σ1.1 - nS) (σ1.2.1 - zS) Q (F0 m pc1 ls1 (st1.map (cv ρ)))) →
    W p l e R s m args below meth c H locs (σ.1 - nS) (σ.2.1 - zS) Q (F0 m pc ls (st.map (cv ρ)))
theorem fa_cons {P : AV → Prop} {v : AV} {l : List AV} (h : P v) (hl : ∀ w ∈ l, P w) : ∀ w ∈ v :: l, P w := List.forall_mem_cons.mpr ⟨h, hl⟩
theorem fa_hd {P : AV → Prop} {v : AV} {l : List AV} (h : ∀ w ∈ v :: l, P w) : P v := h v List.mem_cons_self
theorem fa_tl {P : AV → Prop} {v : AV} {l : List AV} (h : ∀ w ∈ v :: l, P w) : ∀ w ∈ l, P w := fun w hw => h w (List.mem_cons_of_mem _ hw)
theorem hJ_ok {pc : Nat} {off : Int} (h : 0 ≤ hJ pc off) : (pc : Int) + off = ((hJ pc off).toNat : Int) := by
  rw [Int.toNat_of_nonneg h]; rfl
section HST
variable {p : Program} {l : Launch} {e : Env} {R : Room} {s : State} {m : MethodId} {args : Array Value} {below : List Frame} {meth : Method} {c : Code} {Q : State → Prop} {ρ : Nat → Nat} {K N0 : Nat} {E : Nat → AV} {H00 : Heap} {y nS zS : Nat}
theorem hK_iconst (C : hCtx p s m args meth c y) (n : Int) : hOK ρ p l e R s m args below meth c Q K N0 E H00 y nS zS (.iconst n) := by
  intro pc len op nx d la st σ pc1 la1 st1 σ1 H locs ls hd ho hs hl hst hr hlo hn hz hc hsl hf kk
  obtain ⟨hb, he⟩ := hk1_in ho
  cases he
  simp only [Bool.and_eq_true, decide_eq_true_eq] at hb
  obtain ⟨⟨rfl, h1⟩, h2⟩ := hb
  cases (show some (Sum.inl (pc + 1, la, vI n :: st, σ)) = some (Sum.inl (pc1, la1, st1, σ1)) from hs)
  exact lv_iconst C.1 C.2.1 hd rfl (kk H locs ls hl (fa_cons ⟨by omega, by omega⟩ hst) hr hlo)
theorem hK_bipush (C : hCtx p s m args meth c y) (n : Int) : hOK ρ p l e R s m args below meth c Q K N0 E H00 y nS zS (.bipush n) := by
  intro pc len op nx d la st σ pc1 la1 st1 σ1 H locs ls hd ho hs hl hst hr hlo hn hz hc hsl hf kk
  obtain ⟨hb, he⟩ := hk1_in ho
  cases he
  simp only [Bool.and_eq_true, decide_eq_true_eq] at hb
  obtain ⟨⟨rfl, h1⟩, h2⟩ := hb
  cases (show some (Sum.inl (pc + 2, la, vI n :: st, σ)) = some (Sum.inl (pc1, la1, st1, σ1)) from hs)
  exact lv_bipush C.1 C.2.1 hd (to32 (by rw [Int8.toInt_toInt32, Int8.toInt_ofInt_of_le (by omega) (by omega)])) (kk H locs ls hl (fa_cons ⟨by omega, by omega⟩ hst) hr hlo)
theorem hK_sipush (C : hCtx p s m args meth c y) (n : Int) : hOK ρ p l e R s m args below meth c Q K N0 E H00 y nS zS (.sipush n) := by
  intro pc len op nx d la st σ pc1 la1 st1 σ1 H locs ls hd ho hs hl hst hr hlo hn hz hc hsl hf kk
  obtain ⟨hb, he⟩ := hk1_in ho
  cases he
  simp only [Bool.and_eq_true, decide_eq_true_eq] at hb
  obtain ⟨⟨rfl, h1⟩, h2⟩ := hb
  cases (show some (Sum.inl (pc + 3, la, vI n :: st, σ)) = some (Sum.inl (pc1, la1, st1, σ1)) from hs)
  exact lv_sipush C.1 C.2.1 hd (to32 (by rw [Int16.toInt_toInt32, Int16.toInt_ofInt_of_le (by omega) (by omega)])) (kk H locs ls hl (fa_cons ⟨by omega, by omega⟩ hst) hr hlo)
theorem hK_lconst (C : hCtx p s m args meth c y) (n : Fin 2) : hOK ρ p l e R s m args below meth c Q K N0 E H00 y nS zS (.lconst n) := by
  intro pc len op nx d la st σ pc1 la1 st1 σ1 H locs ls hd ho hs hl hst hr hlo hn hz hc hsl hf kk
  obtain ⟨hb, he⟩ := hk1_in ho
  cases he
  have hb := of_decide_eq_true hb
  subst hb
  cases (show some (Sum.inl (pc + 1, la, vL ((n : Nat) : Int) :: st, σ)) = some (Sum.inl (pc1, la1, st1, σ1)) from hs)
  exact lv_lconst C.1 C.2.1 hd rfl (kk H locs ls hl (fa_cons ⟨by omega, by omega⟩ hst) hr hlo)
theorem hK_ldc2 (C : hCtx p s m args meth c y) (k : Nat) : hOK ρ p l e R s m args below meth c Q K N0 E H00 y nS zS (.ldc2_w k) := by
  intro pc len op nx d la st σ pc1 la1 st1 σ1 H locs ls hd ho hs hl hst hr hlo hn hz hc hsl hf kk
  have ho : (op, nx) ∈ ho_ldc2_w y pc k len := ho
  unfold ho_ldc2_w at ho
  cases e1 : hf3 hLL (hmO y) k with
  | none => rw [e1] at ho; cases ho
  | some x =>
    obtain ⟨v, p1⟩ := x
    rw [e1] at ho
    obtain ⟨hb, he⟩ := hk1_in ho
    cases he
    simp only [Bool.and_eq_true, decide_eq_true_eq] at hb
    obtain ⟨⟨rfl, h1⟩, h2⟩ := hb
    cases (show some (Sum.inl (pc + 3, la, vL v :: st, σ)) = some (Sum.inl (pc1, la1, st1, σ1)) from hs)
    have hw := hwalk_mem hLL_ok (List.mem_map.mpr ⟨_, hf3_in _ _ _ _ e1, rfl⟩)
    exact lv_ldc2 C.1 C.2.1 C.2.2.2.1 (C.2.2.2.2.1 _ (hBig_in hw rfl)) hd (kk H locs ls hl (fa_cons ⟨by omega, by omega⟩ hst) hr hlo)
theorem hK_ldc (C : hCtx p s m args meth c y) (V : hEnv ρ N0 E H00 s) (k : Nat) : hOK ρ p l e R s m args below meth c Q K N0 E H00 y nS zS (.ldc k) := by
  intro pc len op nx d la st σ pc1 la1 st1 σ1 H locs ls hd ho hs hl hst hr hlo hn hz hc hsl hf kk
  have ho : (op, nx) ∈ ho_ldc y pc k len := ho
  unfold ho_ldc at ho
  cases e1 : hf3 hLK (hmO y) k with
  | none =>
    rw [e1] at ho
    dsimp only at ho
    cases e2 : hf3 hLS (hmO y) k with
    | none => rw [e2] at ho; cases ho
    | some x =>
      obtain ⟨j, p1⟩ := x
      rw [e2] at ho
      obtain ⟨hb, he⟩ := hk1_in ho
      cases he
      have hb := of_decide_eq_true hb
      subst hb
      cases (show some (Sum.inl (pc + 2, la, E (4 + j) :: st, σ)) = some (Sum.inl (pc1, la1, st1, σ1)) from hs)
      obtain ⟨a, g1, g2⟩ := V.2.2.2.2.1 _ (hf3_in _ _ _ _ e2)
      have kk := kk H locs ls hl (fa_cons (V.2.2.2.2.2.2 _) hst) hr hlo
      dsimp only at g1 g2
      rw [g1] at kk
      exact va_ldcS C.1 C.2.1 C.2.2.2.1 g2 hd kk
  | some x =>
    obtain ⟨v, p1⟩ := x
    rw [e1] at ho
    obtain ⟨hb, he⟩ := hk1_in ho
    cases he
    simp only [Bool.and_eq_true, decide_eq_true_eq] at hb
    obtain ⟨⟨rfl, h1⟩, h2⟩ := hb
    cases (show some (Sum.inl (pc + 2, la, vI v :: st, σ)) = some (Sum.inl (pc1, la1, st1, σ1)) from hs)
    have hw := hwalk_mem hLK_ok (List.mem_map.mpr ⟨_, hf3_in _ _ _ _ e1, rfl⟩)
    exact lv_ldc C.1 C.2.1 C.2.2.2.1 (C.2.2.2.2.1 _ (hBig_in hw rfl)) hd (kk H locs ls hl (fa_cons ⟨by omega, by omega⟩ hst) hr hlo)
theorem hK_ldcw (C : hCtx p s m args meth c y) (V : hEnv ρ N0 E H00 s) (k : Nat) : hOK ρ p l e R s m args below meth c Q K N0 E H00 y nS zS (.ldc_w k) := by
  intro pc len op nx d la st σ pc1 la1 st1 σ1 H locs ls hd ho hs hl hst hr hlo hn hz hc hsl hf kk
  have ho : (op, nx) ∈ ho_ldc_w y pc k len := ho
  unfold ho_ldc_w at ho
  cases e1 : hf3 hLK (hmO y) k with
  | none =>
    rw [e1] at ho
    dsimp only at ho
    cases e2 : hf3 hLS (hmO y) k with
    | none => rw [e2] at ho; cases ho
    | some x =>
      obtain ⟨j, p1⟩ := x
      rw [e2] at ho
      obtain ⟨hb, he⟩ := hk1_in ho
      cases he
      have hb := of_decide_eq_true hb
      subst hb
      cases (show some (Sum.inl (pc + 3, la, E (4 + j) :: st, σ)) = some (Sum.inl (pc1, la1, st1, σ1)) from hs)
      obtain ⟨a, g1, g2⟩ := V.2.2.2.2.1 _ (hf3_in _ _ _ _ e2)
      have kk := kk H locs ls hl (fa_cons (V.2.2.2.2.2.2 _) hst) hr hlo
      dsimp only at g1 g2
      rw [g1] at kk
      intro T hT X
      obtain ⟨t, a1, b1⟩ := kk T hT X
      have hev : (Term.string (hName (hmO y)) k).eval args s none [] s = some (.ref (ρ a)) := by rw [Term.string_eval_of_vm (args := args) (rfl : s.vm = s.vm)]; exact g2.2
      exact ⟨t, X.ldcStringW C.1 C.2.2.2.1 g2.1 hev (g := F0 m pc ls (st.map (cv ρ))) rfl (by rw [C.2.1]; exact hd) t a1, b1⟩
  | some x =>
    obtain ⟨v, p1⟩ := x
    rw [e1] at ho
    obtain ⟨hb, he⟩ := hk1_in ho
    cases he
    simp only [Bool.and_eq_true, decide_eq_true_eq] at hb
    obtain ⟨⟨rfl, h1⟩, h2⟩ := hb
    cases (show some (Sum.inl (pc + 3, la, vI v :: st, σ)) = some (Sum.inl (pc1, la1, st1, σ1)) from hs)
    have hw := hwalk_mem hLK_ok (List.mem_map.mpr ⟨_, hf3_in _ _ _ _ e1, rfl⟩)
    exact lv_ldcw C.1 C.2.1 C.2.2.2.1 (C.2.2.2.2.1 _ (hBig_in hw rfl)) hd (kk H locs ls hl (fa_cons ⟨by omega, by omega⟩ hst) hr hlo)
theorem hK_null (C : hCtx p s m args meth c y) : hOK ρ p l e R s m args below meth c Q K N0 E H00 y nS zS .aconst_null := by
  intro pc len op nx d la st σ pc1 la1 st1 σ1 H locs ls hd ho hs hl hst hr hlo hn hz hc hsl hf kk
  obtain ⟨hb, he⟩ := hk1_in ho
  cases he
  have hb := of_decide_eq_true hb
  subst hb
  cases (show some (Sum.inl (pc + 1, la, vR none :: st, σ)) = some (Sum.inl (pc1, la1, st1, σ1)) from hs)
  exact lv_null C.1 C.2.1 hd (kk H locs ls hl (fa_cons trivial hst) hr hlo)
theorem hK_iload_n (C : hCtx p s m args meth c y) (k : Fin 4) : hOK ρ p l e R s m args below meth c Q K N0 E H00 y nS zS (.iload_n k) := by
  intro pc len op nx d la st σ pc1 la1 st1 σ1 H locs ls hd ho hs hl hst hr hlo hn hz hc hsl hf kk
  obtain ⟨hb, he⟩ := hk1_in ho
  cases he
  have hb := of_decide_eq_true hb
  subst hb
  obtain ⟨v, g1, g2, g3⟩ := hs3 hs
  cases Sum.inl.inj g2
  obtain ⟨g4, g5⟩ := hl.2.2 _ _ g1
  have kk := kk H locs ls hl (fa_cons g5 hst) hr hlo
  rcases g3 with ⟨-, z, rfl⟩ | ⟨h, -⟩ | ⟨h, -⟩
  · exact lv_iload_n C.1 C.2.1 hd rfl g4 kk
  · cases h
  · cases h
theorem hK_iload (C : hCtx p s m args meth c y) (k : Nat) : hOK ρ p l e R s m args below meth c Q K N0 E H00 y nS zS (.iload k) := by
  intro pc len op nx d la st σ pc1 la1 st1 σ1 H locs ls hd ho hs hl hst hr hlo hn hz hc hsl hf kk
  obtain ⟨hb, he⟩ := hk1_in ho
  cases he
  have hb := of_decide_eq_true hb
  subst hb
  obtain ⟨v, g1, g2, g3⟩ := hs3 hs
  cases Sum.inl.inj g2
  obtain ⟨g4, g5⟩ := hl.2.2 _ _ g1
  have kk := kk H locs ls hl (fa_cons g5 hst) hr hlo
  rcases g3 with ⟨-, z, rfl⟩ | ⟨h, -⟩ | ⟨h, -⟩
  · exact lv_iload C.1 C.2.1 hd g4 kk
  · cases h
  · cases h
theorem hK_lload_n (C : hCtx p s m args meth c y) (k : Fin 4) : hOK ρ p l e R s m args below meth c Q K N0 E H00 y nS zS (.lload_n k) := by
  intro pc len op nx d la st σ pc1 la1 st1 σ1 H locs ls hd ho hs hl hst hr hlo hn hz hc hsl hf kk
  obtain ⟨hb, he⟩ := hk1_in ho
  cases he
  have hb := of_decide_eq_true hb
  subst hb
  obtain ⟨v, g1, g2, g3⟩ := hs3 hs
  cases Sum.inl.inj g2
  obtain ⟨g4, g5⟩ := hl.2.2 _ _ g1
  have kk := kk H locs ls hl (fa_cons g5 hst) hr hlo
  rcases g3 with ⟨h, -⟩ | ⟨-, z, rfl⟩ | ⟨h, -⟩
  · cases h
  · exact lv_lload_n C.1 C.2.1 hd rfl g4 kk
  · cases h
theorem hK_lload (C : hCtx p s m args meth c y) (k : Nat) : hOK ρ p l e R s m args below meth c Q K N0 E H00 y nS zS (.lload k) := by
  intro pc len op nx d la st σ pc1 la1 st1 σ1 H locs ls hd ho hs hl hst hr hlo hn hz hc hsl hf kk
  obtain ⟨hb, he⟩ := hk1_in ho
  cases he
  have hb := of_decide_eq_true hb
  subst hb
  obtain ⟨v, g1, g2, g3⟩ := hs3 hs
  cases Sum.inl.inj g2
  obtain ⟨g4, g5⟩ := hl.2.2 _ _ g1
  have kk := kk H locs ls hl (fa_cons g5 hst) hr hlo
  rcases g3 with ⟨h, -⟩ | ⟨-, z, rfl⟩ | ⟨h, -⟩
  · cases h
  · exact lv_lload C.1 C.2.1 hd g4 kk
  · cases h
theorem hK_aload_n (C : hCtx p s m args meth c y) (k : Fin 4) : hOK ρ p l e R s m args below meth c Q K N0 E H00 y nS zS (.aload_n k) := by
  intro pc len op nx d la st σ pc1 la1 st1 σ1 H locs ls hd ho hs hl hst hr hlo hn hz hc hsl hf kk
  obtain ⟨hb, he⟩ := hk1_in ho
  cases he
  have hb := of_decide_eq_true hb
  subst hb
  obtain ⟨v, g1, g2, g3⟩ := hs3 hs
  cases Sum.inl.inj g2
  obtain ⟨g4, g5⟩ := hl.2.2 _ _ g1
  have kk := kk H locs ls hl (fa_cons g5 hst) hr hlo
  rcases g3 with ⟨h, -⟩ | ⟨h, -⟩ | ⟨-, r, rfl⟩
  · cases h
  · cases h
  · cases r with
    | none => exact lv_aload_nN C.1 C.2.1 hd rfl g4 kk
    | some a => exact lv_aload_n C.1 C.2.1 hd rfl g4 kk
theorem hK_aload (C : hCtx p s m args meth c y) (k : Nat) : hOK ρ p l e R s m args below meth c Q K N0 E H00 y nS zS (.aload k) := by
  intro pc len op nx d la st σ pc1 la1 st1 σ1 H locs ls hd ho hs hl hst hr hlo hn hz hc hsl hf kk
  obtain ⟨hb, he⟩ := hk1_in ho
  cases he
  have hb := of_decide_eq_true hb
  subst hb
  obtain ⟨v, g1, g2, g3⟩ := hs3 hs
  cases Sum.inl.inj g2
  obtain ⟨g4, g5⟩ := hl.2.2 _ _ g1
  have kk := kk H locs ls hl (fa_cons g5 hst) hr hlo
  rcases g3 with ⟨h, -⟩ | ⟨h, -⟩ | ⟨-, r, rfl⟩
  · cases h
  · cases h
  · cases r with
    | none => exact lv_aloadN C.1 C.2.1 hd g4 kk
    | some a => exact lv_aload C.1 C.2.1 hd g4 kk
theorem hK_istore_n (C : hCtx p s m args meth c y) (k : Fin 4) : hOK ρ p l e R s m args below meth c Q K N0 E H00 y nS zS (.istore_n k) := by
  intro pc len op nx d la st σ pc1 la1 st1 σ1 H locs ls hd ho hs hl hst hr hlo hn hz hc hsl hf kk
  obtain ⟨hb, he⟩ := hk1_in ho
  cases he
  simp only [Bool.and_eq_true, decide_eq_true_eq] at hb
  obtain ⟨rfl, hi⟩ := hb
  obtain ⟨v, r, rfl, g2, g3⟩ := hs4 hs
  cases Sum.inl.inj g2
  have g5 := fa_hd hst
  have kk := fun ls1 h1 => kk H locs ls1 h1 (fa_tl hst) hr hlo
  rcases g3 with ⟨-, z, rfl⟩ | ⟨h, -⟩ | ⟨h, -⟩
  · exact lv_istore_n C.1 C.2.1 hd rfl hl.has hi rfl (fun ls1 h1 => kk ls1 (hl.sto1 g5 rfl h1))
  · cases h
  · cases h
theorem hK_istore (C : hCtx p s m args meth c y) (k : Nat) : hOK ρ p l e R s m args below meth c Q K N0 E H00 y nS zS (.istore k) := by
  intro pc len op nx d la st σ pc1 la1 st1 σ1 H locs ls hd ho hs hl hst hr hlo hn hz hc hsl hf kk
  obtain ⟨hb, he⟩ := hk1_in ho
  cases he
  simp only [Bool.and_eq_true, decide_eq_true_eq] at hb
  obtain ⟨rfl, hi⟩ := hb
  obtain ⟨v, r, rfl, g2, g3⟩ := hs4 hs
  cases Sum.inl.inj g2
  have g5 := fa_hd hst
  have kk := fun ls1 h1 => kk H locs ls1 h1 (fa_tl hst) hr hlo
  rcases g3 with ⟨-, z, rfl⟩ | ⟨h, -⟩ | ⟨h, -⟩
  · exact lv_istore C.1 C.2.1 hd hl.has hi rfl (fun ls1 h1 => kk ls1 (hl.sto1 g5 rfl h1))
  · cases h
  · cases h
theorem hK_lstore_n (C : hCtx p s m args meth c y) (k : Fin 4) : hOK ρ p l e R s m args below meth c Q K N0 E H00 y nS zS (.lstore_n k) := by
  intro pc len op nx d la st σ pc1 la1 st1 σ1 H locs ls hd ho hs hl hst hr hlo hn hz hc hsl hf kk
  obtain ⟨hb, he⟩ := hk1_in ho
  cases he
  simp only [Bool.and_eq_true, decide_eq_true_eq] at hb
  obtain ⟨rfl, hi⟩ := hb
  obtain ⟨v, r, rfl, g2, g3⟩ := hs4 hs
  cases Sum.inl.inj g2
  have g5 := fa_hd hst
  have kk := fun ls1 h1 => kk H locs ls1 h1 (fa_tl hst) hr hlo
  rcases g3 with ⟨h, -⟩ | ⟨-, z, rfl⟩ | ⟨h, -⟩
  · cases h
  · exact lv_lstore_n C.1 C.2.1 hd rfl hl.has hi rfl (fun ls1 h1 => kk ls1 (hl.sto2 g5 rfl h1))
  · cases h
theorem hK_lstore (C : hCtx p s m args meth c y) (k : Nat) : hOK ρ p l e R s m args below meth c Q K N0 E H00 y nS zS (.lstore k) := by
  intro pc len op nx d la st σ pc1 la1 st1 σ1 H locs ls hd ho hs hl hst hr hlo hn hz hc hsl hf kk
  obtain ⟨hb, he⟩ := hk1_in ho
  cases he
  simp only [Bool.and_eq_true, decide_eq_true_eq] at hb
  obtain ⟨rfl, hi⟩ := hb
  obtain ⟨v, r, rfl, g2, g3⟩ := hs4 hs
  cases Sum.inl.inj g2
  have g5 := fa_hd hst
  have kk := fun ls1 h1 => kk H locs ls1 h1 (fa_tl hst) hr hlo
  rcases g3 with ⟨h, -⟩ | ⟨-, z, rfl⟩ | ⟨h, -⟩
  · cases h
  · exact lv_lstore C.1 C.2.1 hd hl.has hi rfl (fun ls1 h1 => kk ls1 (hl.sto2 g5 rfl h1))
  · cases h
theorem hK_astore_n (C : hCtx p s m args meth c y) (k : Fin 4) : hOK ρ p l e R s m args below meth c Q K N0 E H00 y nS zS (.astore_n k) := by
  intro pc len op nx d la st σ pc1 la1 st1 σ1 H locs ls hd ho hs hl hst hr hlo hn hz hc hsl hf kk
  obtain ⟨hb, he⟩ := hk1_in ho
  cases he
  simp only [Bool.and_eq_true, decide_eq_true_eq] at hb
  obtain ⟨rfl, hi⟩ := hb
  obtain ⟨v, r, rfl, g2, g3⟩ := hs4 hs
  cases Sum.inl.inj g2
  have g5 := fa_hd hst
  have kk := fun ls1 h1 => kk H locs ls1 h1 (fa_tl hst) hr hlo
  rcases g3 with ⟨h, -⟩ | ⟨h, -⟩ | ⟨-, r, rfl⟩
  · cases h
  · cases h
  · cases r with
    | none => exact lv_astore_nN C.1 C.2.1 hd rfl hl.has hi rfl (fun ls1 h1 => kk ls1 (hl.sto1 g5 rfl h1))
    | some a => exact lv_astore_n C.1 C.2.1 hd rfl hl.has hi rfl (fun ls1 h1 => kk ls1 (hl.sto1 g5 rfl h1))
theorem hK_astore (C : hCtx p s m args meth c y) (k : Nat) : hOK ρ p l e R s m args below meth c Q K N0 E H00 y nS zS (.astore k) := by
  intro pc len op nx d la st σ pc1 la1 st1 σ1 H locs ls hd ho hs hl hst hr hlo hn hz hc hsl hf kk
  obtain ⟨hb, he⟩ := hk1_in ho
  cases he
  simp only [Bool.and_eq_true, decide_eq_true_eq] at hb
  obtain ⟨rfl, hi⟩ := hb
  obtain ⟨v, r, rfl, g2, g3⟩ := hs4 hs
  cases Sum.inl.inj g2
  have g5 := fa_hd hst
  have kk := fun ls1 h1 => kk H locs ls1 h1 (fa_tl hst) hr hlo
  rcases g3 with ⟨h, -⟩ | ⟨h, -⟩ | ⟨-, r, rfl⟩
  · cases h
  · cases h
  · cases r with
    | none => exact lv_astoreN C.1 C.2.1 hd hl.has hi rfl (fun ls1 h1 => kk ls1 (hl.sto1 g5 rfl h1))
    | some a => exact lv_astore C.1 C.2.1 hd hl.has hi rfl (fun ls1 h1 => kk ls1 (hl.sto1 g5 rfl h1))
theorem hK_iadd (C : hCtx p s m args meth c y) : hOK ρ p l e R s m args below meth c Q K N0 E H00 y nS zS .iadd := by
  intro pc len op nx d la st σ pc1 la1 st1 σ1 H locs ls hd ho hs hl hst hr hlo hn hz hc hsl hf kk
  obtain ⟨hb, he⟩ := hk1_in ho
  cases he
  have hb := of_decide_eq_true hb
  subst hb
  obtain ⟨v, u, r, rfl, -, g2⟩ := hs10 hs
  cases Sum.inl.inj g2
  have kk := kk H locs ls hl (fa_cons (hIB_ok _ _ _) (fa_tl (fa_tl hst))) hr hlo
  refine lv_iadd C.1 C.2.1 hd ?_
  rw [add32 (fa_hd (fa_tl hst)) (fa_hd hst)]
  exact kk
theorem hK_isub (C : hCtx p s m args meth c y) : hOK ρ p l e R s m args below meth c Q K N0 E H00 y nS zS .isub := by
  intro pc len op nx d la st σ pc1 la1 st1 σ1 H locs ls hd ho hs hl hst hr hlo hn hz hc hsl hf kk
  obtain ⟨hb, he⟩ := hk1_in ho
  cases he
  have hb := of_decide_eq_true hb
  subst hb
  obtain ⟨v, u, r, rfl, -, g2⟩ := hs10 hs
  cases Sum.inl.inj g2
  have kk := kk H locs ls hl (fa_cons (hIB_ok _ _ _) (fa_tl (fa_tl hst))) hr hlo
  refine lv_isub C.1 C.2.1 hd ?_
  rw [sub32 (fa_hd (fa_tl hst)) (fa_hd hst)]
  exact kk
theorem hK_imul (C : hCtx p s m args meth c y) : hOK ρ p l e R s m args below meth c Q K N0 E H00 y nS zS .imul := by
  intro pc len op nx d la st σ pc1 la1 st1 σ1 H locs ls hd ho hs hl hst hr hlo hn hz hc hsl hf kk
  obtain ⟨hb, he⟩ := hk1_in ho
  cases he
  have hb := of_decide_eq_true hb
  subst hb
  obtain ⟨v, u, r, rfl, -, g2⟩ := hs10 hs
  cases Sum.inl.inj g2
  have kk := kk H locs ls hl (fa_cons (hIB_ok _ _ _) (fa_tl (fa_tl hst))) hr hlo
  refine lv_imul C.1 C.2.1 hd ?_
  rw [mul32 (fa_hd (fa_tl hst)) (fa_hd hst)]
  exact kk
theorem hK_idiv (C : hCtx p s m args meth c y) : hOK ρ p l e R s m args below meth c Q K N0 E H00 y nS zS .idiv := by
  intro pc len op nx d la st σ pc1 la1 st1 σ1 H locs ls hd ho hs hl hst hr hlo hn hz hc hsl hf kk
  obtain ⟨hb, he⟩ := hk1_in ho
  cases he
  have hb := of_decide_eq_true hb
  subst hb
  obtain ⟨v, u, r, rfl, g1, g2⟩ := hs10 hs
  cases Sum.inl.inj g2
  have kk := kk H locs ls hl (fa_cons (hIB_ok _ _ _) (fa_tl (fa_tl hst))) hr hlo
  refine lv_idiv C.1 C.2.1 hd (nz32 (fa_hd hst) (fun z => g1 ⟨Or.inl rfl, z⟩)) ?_
  refine Eq.mp (congrArg (fun z => W p l e R s m args below meth c H locs (σ.1 - nS) (σ.2.1 - zS) Q (F0 m (pc + 1) ls (Value.int z :: r.map (cv ρ)))) (to32 rfl).symm) kk
theorem hK_irem (C : hCtx p s m args meth c y) : hOK ρ p l e R s m args below meth c Q K N0 E H00 y nS zS .irem := by
  intro pc len op nx d la st σ pc1 la1 st1 σ1 H locs ls hd ho hs hl hst hr hlo hn hz hc hsl hf kk
  obtain ⟨hb, he⟩ := hk1_in ho
  cases he
  have hb := of_decide_eq_true hb
  subst hb
  obtain ⟨v, u, r, rfl, g1, g2⟩ := hs10 hs
  cases Sum.inl.inj g2
  have kk := kk H locs ls hl (fa_cons (hIB_ok _ _ _) (fa_tl (fa_tl hst))) hr hlo
  refine lv_irem C.1 C.2.1 hd (nz32 (fa_hd hst) (fun z => g1 ⟨Or.inr rfl, z⟩)) ?_
  refine Eq.mp (congrArg (fun z => W p l e R s m args below meth c H locs (σ.1 - nS) (σ.2.1 - zS) Q (F0 m (pc + 1) ls (Value.int z :: r.map (cv ρ)))) (to32 rfl).symm) kk
theorem hK_iand (C : hCtx p s m args meth c y) : hOK ρ p l e R s m args below meth c Q K N0 E H00 y nS zS .iand := by
  intro pc len op nx d la st σ pc1 la1 st1 σ1 H locs ls hd ho hs hl hst hr hlo hn hz hc hsl hf kk
  obtain ⟨hb, he⟩ := hk1_in ho
  cases he
  have hb := of_decide_eq_true hb
  subst hb
  obtain ⟨v, u, r, rfl, g1, g2⟩ := hs10 hs
  cases Sum.inl.inj g2
  have kk := kk H locs ls hl (fa_cons (hIB_ok _ _ _) (fa_tl (fa_tl hst))) hr hlo
  refine lv_iand C.1 C.2.1 hd ?_
  refine Eq.mp (congrArg (fun z => W p l e R s m args below meth c H locs (σ.1 - nS) (σ.2.1 - zS) Q (F0 m (pc + 1) ls (Value.int z :: r.map (cv ρ)))) (to32 rfl).symm) kk
theorem hK_ior (C : hCtx p s m args meth c y) : hOK ρ p l e R s m args below meth c Q K N0 E H00 y nS zS .ior := by
  intro pc len op nx d la st σ pc1 la1 st1 σ1 H locs ls hd ho hs hl hst hr hlo hn hz hc hsl hf kk
  obtain ⟨hb, he⟩ := hk1_in ho
  cases he
  have hb := of_decide_eq_true hb
  subst hb
  obtain ⟨v, u, r, rfl, g1, g2⟩ := hs10 hs
  cases Sum.inl.inj g2
  have kk := kk H locs ls hl (fa_cons (hIB_ok _ _ _) (fa_tl (fa_tl hst))) hr hlo
  refine lv_ior C.1 C.2.1 hd ?_
  refine Eq.mp (congrArg (fun z => W p l e R s m args below meth c H locs (σ.1 - nS) (σ.2.1 - zS) Q (F0 m (pc + 1) ls (Value.int z :: r.map (cv ρ)))) (to32 rfl).symm) kk
theorem hK_ixor (C : hCtx p s m args meth c y) : hOK ρ p l e R s m args below meth c Q K N0 E H00 y nS zS .ixor := by
  intro pc len op nx d la st σ pc1 la1 st1 σ1 H locs ls hd ho hs hl hst hr hlo hn hz hc hsl hf kk
  obtain ⟨hb, he⟩ := hk1_in ho
  cases he
  have hb := of_decide_eq_true hb
  subst hb
  obtain ⟨v, u, r, rfl, g1, g2⟩ := hs10 hs
  cases Sum.inl.inj g2
  have kk := kk H locs ls hl (fa_cons (hIB_ok _ _ _) (fa_tl (fa_tl hst))) hr hlo
  refine lv_ixor C.1 C.2.1 hd ?_
  refine Eq.mp (congrArg (fun z => W p l e R s m args below meth c H locs (σ.1 - nS) (σ.2.1 - zS) Q (F0 m (pc + 1) ls (Value.int z :: r.map (cv ρ)))) (to32 rfl).symm) kk
theorem hK_ishl (C : hCtx p s m args meth c y) : hOK ρ p l e R s m args below meth c Q K N0 E H00 y nS zS .ishl := by
  intro pc len op nx d la st σ pc1 la1 st1 σ1 H locs ls hd ho hs hl hst hr hlo hn hz hc hsl hf kk
  obtain ⟨hb, he⟩ := hk1_in ho
  cases he
  have hb := of_decide_eq_true hb
  subst hb
  obtain ⟨v, u, r, rfl, g1, g2⟩ := hs10 hs
  cases Sum.inl.inj g2
  have kk := kk H locs ls hl (fa_cons (hIB_ok _ _ _) (fa_tl (fa_tl hst))) hr hlo
  refine lv_ishl C.1 C.2.1 hd ?_
  refine Eq.mp (congrArg (fun z => W p l e R s m args below meth c H locs (σ.1 - nS) (σ.2.1 - zS) Q (F0 m (pc + 1) ls (Value.int z :: r.map (cv ρ)))) (to32 rfl).symm) kk
theorem hK_ishr (C : hCtx p s m args meth c y) : hOK ρ p l e R s m args below meth c Q K N0 E H00 y nS zS .ishr := by
  intro pc len op nx d la st σ pc1 la1 st1 σ1 H locs ls hd ho hs hl hst hr hlo hn hz hc hsl hf kk
  obtain ⟨hb, he⟩ := hk1_in ho
  cases he
  have hb := of_decide_eq_true hb
  subst hb
  obtain ⟨v, u, r, rfl, g1, g2⟩ := hs10 hs
  cases Sum.inl.inj g2
  have kk := kk H locs ls hl (fa_cons (hIB_ok _ _ _) (fa_tl (fa_tl hst))) hr hlo
  refine lv_ishr C.1 C.2.1 hd ?_
  refine Eq.mp (congrArg (fun z => W p l e R s m args below meth c H locs (σ.1 - nS) (σ.2.1 - zS) Q (F0 m (pc + 1) ls (Value.int z :: r.map (cv ρ)))) (to32 rfl).symm) kk
theorem hK_ladd (C : hCtx p s m args meth c y) : hOK ρ p l e R s m args below meth c Q K N0 E H00 y nS zS .ladd := by
  intro pc len op nx d la st σ pc1 la1 st1 σ1 H locs ls hd ho hs hl hst hr hlo hn hz hc hsl hf kk
  obtain ⟨hb, he⟩ := hk1_in ho
  cases he
  have hb := of_decide_eq_true hb
  subst hb
  obtain ⟨v, u, r, rfl, -, g2⟩ := hs11 hs
  cases Sum.inl.inj g2
  have kk := kk H locs ls hl (fa_cons (hLB_ok _ _ _) (fa_tl (fa_tl hst))) hr hlo
  refine lv_ladd C.1 C.2.1 hd ?_
  rw [add64 (fa_hd (fa_tl hst)) (fa_hd hst)]
  exact kk
theorem hK_lsub (C : hCtx p s m args meth c y) : hOK ρ p l e R s m args below meth c Q K N0 E H00 y nS zS .lsub := by
  intro pc len op nx d la st σ pc1 la1 st1 σ1 H locs ls hd ho hs hl hst hr hlo hn hz hc hsl hf kk
  obtain ⟨hb, he⟩ := hk1_in ho
  cases he
  have hb := of_decide_eq_true hb
  subst hb
  obtain ⟨v, u, r, rfl, -, g2⟩ := hs11 hs
  cases Sum.inl.inj g2
  have kk := kk H locs ls hl (fa_cons (hLB_ok _ _ _) (fa_tl (fa_tl hst))) hr hlo
  refine lv_lsub C.1 C.2.1 hd ?_
  rw [sub64 (fa_hd (fa_tl hst)) (fa_hd hst)]
  exact kk
theorem hK_lmul (C : hCtx p s m args meth c y) : hOK ρ p l e R s m args below meth c Q K N0 E H00 y nS zS .lmul := by
  intro pc len op nx d la st σ pc1 la1 st1 σ1 H locs ls hd ho hs hl hst hr hlo hn hz hc hsl hf kk
  obtain ⟨hb, he⟩ := hk1_in ho
  cases he
  have hb := of_decide_eq_true hb
  subst hb
  obtain ⟨v, u, r, rfl, -, g2⟩ := hs11 hs
  cases Sum.inl.inj g2
  have kk := kk H locs ls hl (fa_cons (hLB_ok _ _ _) (fa_tl (fa_tl hst))) hr hlo
  refine lv_lmul C.1 C.2.1 hd ?_
  rw [mul64 (fa_hd (fa_tl hst)) (fa_hd hst)]
  exact kk
theorem hK_ldiv (C : hCtx p s m args meth c y) : hOK ρ p l e R s m args below meth c Q K N0 E H00 y nS zS .ldiv := by
  intro pc len op nx d la st σ pc1 la1 st1 σ1 H locs ls hd ho hs hl hst hr hlo hn hz hc hsl hf kk
  obtain ⟨hb, he⟩ := hk1_in ho
  cases he
  have hb := of_decide_eq_true hb
  subst hb
  obtain ⟨v, u, r, rfl, g1, g2⟩ := hs11 hs
  cases Sum.inl.inj g2
  have kk := kk H locs ls hl (fa_cons (hLB_ok _ _ _) (fa_tl (fa_tl hst))) hr hlo
  refine lv_ldiv C.1 C.2.1 hd (nz64 (fa_hd hst) (fun z => g1 ⟨Or.inl rfl, z⟩)) ?_
  refine Eq.mp (congrArg (fun z => W p l e R s m args below meth c H locs (σ.1 - nS) (σ.2.1 - zS) Q (F0 m (pc + 1) ls (Value.long z :: r.map (cv ρ)))) (to64 rfl).symm) kk
theorem hK_lrem (C : hCtx p s m args meth c y) : hOK ρ p l e R s m args below meth c Q K N0 E H00 y nS zS .lrem := by
  intro pc len op nx d la st σ pc1 la1 st1 σ1 H locs ls hd ho hs hl hst hr hlo hn hz hc hsl hf kk
  obtain ⟨hb, he⟩ := hk1_in ho
  cases he
  have hb := of_decide_eq_true hb
  subst hb
  obtain ⟨v, u, r, rfl, g1, g2⟩ := hs11 hs
  cases Sum.inl.inj g2
  have kk := kk H locs ls hl (fa_cons (hLB_ok _ _ _) (fa_tl (fa_tl hst))) hr hlo
  refine lv_lrem C.1 C.2.1 hd (nz64 (fa_hd hst) (fun z => g1 ⟨Or.inr rfl, z⟩)) ?_
  refine Eq.mp (congrArg (fun z => W p l e R s m args below meth c H locs (σ.1 - nS) (σ.2.1 - zS) Q (F0 m (pc + 1) ls (Value.long z :: r.map (cv ρ)))) (to64 rfl).symm) kk
theorem hK_land (C : hCtx p s m args meth c y) : hOK ρ p l e R s m args below meth c Q K N0 E H00 y nS zS .land := by
  intro pc len op nx d la st σ pc1 la1 st1 σ1 H locs ls hd ho hs hl hst hr hlo hn hz hc hsl hf kk
  obtain ⟨hb, he⟩ := hk1_in ho
  cases he
  have hb := of_decide_eq_true hb
  subst hb
  obtain ⟨v, u, r, rfl, g1, g2⟩ := hs11 hs
  cases Sum.inl.inj g2
  have kk := kk H locs ls hl (fa_cons (hLB_ok _ _ _) (fa_tl (fa_tl hst))) hr hlo
  refine lv_land C.1 C.2.1 hd ?_
  refine Eq.mp (congrArg (fun z => W p l e R s m args below meth c H locs (σ.1 - nS) (σ.2.1 - zS) Q (F0 m (pc + 1) ls (Value.long z :: r.map (cv ρ)))) (to64 rfl).symm) kk
theorem hK_lor (C : hCtx p s m args meth c y) : hOK ρ p l e R s m args below meth c Q K N0 E H00 y nS zS .lor := by
  intro pc len op nx d la st σ pc1 la1 st1 σ1 H locs ls hd ho hs hl hst hr hlo hn hz hc hsl hf kk
  obtain ⟨hb, he⟩ := hk1_in ho
  cases he
  have hb := of_decide_eq_true hb
  subst hb
  obtain ⟨v, u, r, rfl, g1, g2⟩ := hs11 hs
  cases Sum.inl.inj g2
  have kk := kk H locs ls hl (fa_cons (hLB_ok _ _ _) (fa_tl (fa_tl hst))) hr hlo
  refine lv_lor C.1 C.2.1 hd ?_
  refine Eq.mp (congrArg (fun z => W p l e R s m args below meth c H locs (σ.1 - nS) (σ.2.1 - zS) Q (F0 m (pc + 1) ls (Value.long z :: r.map (cv ρ)))) (to64 rfl).symm) kk
theorem hK_lxor (C : hCtx p s m args meth c y) : hOK ρ p l e R s m args below meth c Q K N0 E H00 y nS zS .lxor := by
  intro pc len op nx d la st σ pc1 la1 st1 σ1 H locs ls hd ho hs hl hst hr hlo hn hz hc hsl hf kk
  obtain ⟨hb, he⟩ := hk1_in ho
  cases he
  have hb := of_decide_eq_true hb
  subst hb
  obtain ⟨v, u, r, rfl, g1, g2⟩ := hs11 hs
  cases Sum.inl.inj g2
  have kk := kk H locs ls hl (fa_cons (hLB_ok _ _ _) (fa_tl (fa_tl hst))) hr hlo
  refine lv_lxor C.1 C.2.1 hd ?_
  refine Eq.mp (congrArg (fun z => W p l e R s m args below meth c H locs (σ.1 - nS) (σ.2.1 - zS) Q (F0 m (pc + 1) ls (Value.long z :: r.map (cv ρ)))) (to64 rfl).symm) kk
theorem hK_lshl (C : hCtx p s m args meth c y) : hOK ρ p l e R s m args below meth c Q K N0 E H00 y nS zS .lshl := by
  intro pc len op nx d la st σ pc1 la1 st1 σ1 H locs ls hd ho hs hl hst hr hlo hn hz hc hsl hf kk
  obtain ⟨hb, he⟩ := hk1_in ho
  cases he
  have hb := of_decide_eq_true hb
  subst hb
  obtain ⟨v, u, r, rfl, g2⟩ := hs12 hs
  cases Sum.inl.inj g2
  have kk := kk H locs ls hl (fa_cons (hLH_ok _ _ _) (fa_tl (fa_tl hst))) hr hlo
  exact lv_lshl C.1 C.2.1 hd (to64 rfl) kk
theorem hK_lshr (C : hCtx p s m args meth c y) : hOK ρ p l e R s m args below meth c Q K N0 E H00 y nS zS .lshr := by
  intro pc len op nx d la st σ pc1 la1 st1 σ1 H locs ls hd ho hs hl hst hr hlo hn hz hc hsl hf kk
  obtain ⟨hb, he⟩ := hk1_in ho
  cases he
  have hb := of_decide_eq_true hb
  subst hb
  obtain ⟨v, u, r, rfl, g2⟩ := hs12 hs
  cases Sum.inl.inj g2
  have kk := kk H locs ls hl (fa_cons (hLH_ok _ _ _) (fa_tl (fa_tl hst))) hr hlo
  exact lv_lshr C.1 C.2.1 hd (to64 rfl) kk
theorem hK_ineg (C : hCtx p s m args meth c y) : hOK ρ p l e R s m args below meth c Q K N0 E H00 y nS zS .ineg := by
  intro pc len op nx d la st σ pc1 la1 st1 σ1 H locs ls hd ho hs hl hst hr hlo hn hz hc hsl hf kk
  obtain ⟨hb, he⟩ := hk1_in ho
  cases he
  have hb := of_decide_eq_true hb
  subst hb
  obtain ⟨u, r, rfl, g2⟩ := hs13 hs
  cases Sum.inl.inj g2
  refine lv_ineg C.1 C.2.1 hd ?_
  rw [neg32 (fa_hd hst)]
  exact kk H locs ls hl (fa_cons (w32_ok _) (fa_tl hst)) hr hlo
theorem hK_i2l (C : hCtx p s m args meth c y) : hOK ρ p l e R s m args below meth c Q K N0 E H00 y nS zS .i2l := by
  intro pc len op nx d la st σ pc1 la1 st1 σ1 H locs ls hd ho hs hl hst hr hlo hn hz hc hsl hf kk
  obtain ⟨hb, he⟩ := hk1_in ho
  cases he
  have hb := of_decide_eq_true hb
  subst hb
  obtain ⟨u, r, rfl, g2⟩ := hs14 hs
  cases Sum.inl.inj g2
  exact lv_i2l C.1 C.2.1 hd (i2l_eq (fa_hd hst)) (kk H locs ls hl (fa_cons (i2l_ok (fa_hd hst)) (fa_tl hst)) hr hlo)
theorem hK_l2i (C : hCtx p s m args meth c y) : hOK ρ p l e R s m args below meth c Q K N0 E H00 y nS zS .l2i := by
  intro pc len op nx d la st σ pc1 la1 st1 σ1 H locs ls hd ho hs hl hst hr hlo hn hz hc hsl hf kk
  obtain ⟨hb, he⟩ := hk1_in ho
  cases he
  have hb := of_decide_eq_true hb
  subst hb
  obtain ⟨u, r, rfl, g2⟩ := hs15 hs
  cases Sum.inl.inj g2
  exact lv_l2i C.1 C.2.1 hd (l2i_eq (fa_hd hst)) (kk H locs ls hl (fa_cons (w32_ok _) (fa_tl hst)) hr hlo)
theorem hK_i2b (C : hCtx p s m args meth c y) : hOK ρ p l e R s m args below meth c Q K N0 E H00 y nS zS .i2b := by
  intro pc len op nx d la st σ pc1 la1 st1 σ1 H locs ls hd ho hs hl hst hr hlo hn hz hc hsl hf kk
  obtain ⟨hb, he⟩ := hk1_in ho
  cases he
  have hb := of_decide_eq_true hb
  subst hb
  obtain ⟨u, r, rfl, g2⟩ := hs16 hs
  cases Sum.inl.inj g2
  exact lv_i2b C.1 C.2.1 hd (to32 rfl) (kk H locs ls hl (fa_cons (ok_t32 _) (fa_tl hst)) hr hlo)
theorem hK_i2c (C : hCtx p s m args meth c y) : hOK ρ p l e R s m args below meth c Q K N0 E H00 y nS zS .i2c := by
  intro pc len op nx d la st σ pc1 la1 st1 σ1 H locs ls hd ho hs hl hst hr hlo hn hz hc hsl hf kk
  obtain ⟨hb, he⟩ := hk1_in ho
  cases he
  have hb := of_decide_eq_true hb
  subst hb
  obtain ⟨u, r, rfl, g2⟩ := hs35 hs
  cases Sum.inl.inj g2
  exact lv_i2c C.1 C.2.1 hd (to32 rfl) (kk H locs ls hl (fa_cons (ok_t32 _) (fa_tl hst)) hr hlo)
theorem hK_lcmp (C : hCtx p s m args meth c y) : hOK ρ p l e R s m args below meth c Q K N0 E H00 y nS zS .lcmp := by
  intro pc len op nx d la st σ pc1 la1 st1 σ1 H locs ls hd ho hs hl hst hr hlo hn hz hc hsl hf kk
  obtain ⟨hb, he⟩ := hk1_in ho
  cases he
  have hb := of_decide_eq_true hb
  subst hb
  obtain ⟨v, u, r, rfl, g2⟩ := hs17 hs
  cases Sum.inl.inj g2
  refine W.lcmp C.1 C.2.1 hd ?_
  rw [cmp_eq (fa_hd (fa_tl hst)) (fa_hd hst)]
  exact kk H locs ls hl (fa_cons (cmp_ok _ _) (fa_tl (fa_tl hst))) hr hlo
theorem hK_dup (C : hCtx p s m args meth c y) : hOK ρ p l e R s m args below meth c Q K N0 E H00 y nS zS .dup := by
  intro pc len op nx d la st σ pc1 la1 st1 σ1 H locs ls hd ho hs hl hst hr hlo hn hz hc hsl hf kk
  obtain ⟨hb, he⟩ := hk1_in ho
  cases he
  have hb := of_decide_eq_true hb
  subst hb
  obtain ⟨v, r, rfl, g1, g2⟩ := hs6 hs
  cases Sum.inl.inj g2
  exact lv_dup C.1 C.2.1 hd ((cv_cat v).trans g1) (kk H locs ls hl (fa_cons (fa_hd hst) hst) hr hlo)
theorem hK_pop (C : hCtx p s m args meth c y) : hOK ρ p l e R s m args below meth c Q K N0 E H00 y nS zS .pop := by
  intro pc len op nx d la st σ pc1 la1 st1 σ1 H locs ls hd ho hs hl hst hr hlo hn hz hc hsl hf kk
  obtain ⟨hb, he⟩ := hk1_in ho
  cases he
  have hb := of_decide_eq_true hb
  subst hb
  obtain ⟨v, r, rfl, g1, g2⟩ := hs7 hs
  cases Sum.inl.inj g2
  exact lv_pop C.1 C.2.1 hd ((cv_cat v).trans g1) (kk H locs ls hl (fa_tl hst) hr hlo)
theorem hK_dup2 (C : hCtx p s m args meth c y) : hOK ρ p l e R s m args below meth c Q K N0 E H00 y nS zS .dup2 := by
  intro pc len op nx d la st σ pc1 la1 st1 σ1 H locs ls hd ho hs hl hst hr hlo hn hz hc hsl hf kk
  obtain ⟨hb, he⟩ := hk1_in ho
  cases he
  have hb := of_decide_eq_true hb
  subst hb
  obtain ⟨u, v, r, rfl, g0, g1, g2⟩ := hs8 hs
  cases Sum.inl.inj g2
  exact lv_dup2_11 C.1 C.2.1 hd ((cv_cat u).trans g0) ((cv_cat v).trans g1) (kk H locs ls hl (fa_cons (fa_hd hst) (fa_cons (fa_hd (fa_tl hst)) hst)) hr hlo)
theorem hK_pop2 (C : hCtx p s m args meth c y) : hOK ρ p l e R s m args below meth c Q K N0 E H00 y nS zS .pop2 := by
  intro pc len op nx d la st σ pc1 la1 st1 σ1 H locs ls hd ho hs hl hst hr hlo hn hz hc hsl hf kk
  obtain ⟨hb, he⟩ := hk1_in ho
  cases he
  have hb := of_decide_eq_true hb
  subst hb
  obtain ⟨v, r, rfl, g1, g2⟩ := hs9 hs
  cases Sum.inl.inj g2
  exact lv_pop2_2 C.1 C.2.1 hd ((cv_cat v).trans g1) (kk H locs ls hl (fa_tl hst) hr hlo)
end HST
end
section
/-! The Java machine does what a step of mine says: branches, cells. -/
section HST2
variable {p : Program} {l : Launch} {e : Env} {R : Room} {s : State} {m : MethodId} {args : Array Value} {below : List Frame} {meth : Method} {c : Code} {Q : State → Prop} {ρ : Nat → Nat} {K N0 : Nat} {E : Nat → AV} {H00 : Heap} {y nS zS : Nat}
theorem hK_ifC (C : hCtx p s m args meth c y) (cd : ClassFile.Cond) (off : Int) : hOK ρ p l e R s m args below meth c Q K N0 E H00 y nS zS (.ifCond cd off) := by
  intro pc len op nx d la st σ pc1 la1 st1 σ1 H locs ls hd ho hs hl hst hr hlo hn hz hc hsl hf kk
  obtain ⟨hb, he⟩ := hk1_in ho
  cases he
  simp only [Bool.and_eq_true, decide_eq_true_eq] at hb
  obtain ⟨rfl, h0⟩ := hb
  obtain ⟨u, r, rfl, g2⟩ := hs18 hs
  cases Sum.inl.inj g2
  have ou := fa_hd hst
  have kk := kk H locs ls hl (fa_tl hst) hr hlo
  cases cd with
  | eq =>
    refine lv_if_eq C.1 C.2.1 hd (hJ_ok h0) (fun q => ?_) (fun q => ?_)
    · rw [(hcmpB_iff (hcn ClassFile.Cond.eq) u 0).mpr ((eq32 ou ok0).mp q)] at kk; exact kk
    · rw [Bool.eq_false_iff.mpr (fun z => q ((eq32 ou ok0).mpr ((hcmpB_iff (hcn ClassFile.Cond.eq) u 0).mp z)))] at kk; exact kk
  | ne =>
    refine lv_if_ne C.1 C.2.1 hd (hJ_ok h0) (fun q => ?_) (fun q => ?_)
    · rw [(hcmpB_iff (hcn ClassFile.Cond.ne) u 0).mpr (fun z => q ((eq32 ou ok0).mpr z))] at kk; exact kk
    · rw [Bool.eq_false_iff.mpr (fun z => (hcmpB_iff (hcn ClassFile.Cond.ne) u 0).mp z ((eq32 ou ok0).mp q))] at kk; exact kk
  | lt =>
    refine lv_if_lt C.1 C.2.1 hd (hJ_ok h0) (fun q => ?_) (fun q => ?_)
    · rw [(hcmpB_iff (hcn ClassFile.Cond.lt) u 0).mpr ((lt32 ou ok0).mp q)] at kk; exact kk
    · rw [Bool.eq_false_iff.mpr (fun z => q ((lt32 ou ok0).mpr ((hcmpB_iff (hcn ClassFile.Cond.lt) u 0).mp z)))] at kk; exact kk
  | ge =>
    refine lv_if_ge C.1 C.2.1 hd (hJ_ok h0) (fun q => ?_) (fun q => ?_)
    · rw [(hcmpB_iff (hcn ClassFile.Cond.ge) u 0).mpr ((le32 ok0 ou).mp q)] at kk; exact kk
    · rw [Bool.eq_false_iff.mpr (fun z => q ((le32 ok0 ou).mpr ((hcmpB_iff (hcn ClassFile.Cond.ge) u 0).mp z)))] at kk; exact kk
  | gt =>
    refine lv_if_gt C.1 C.2.1 hd (hJ_ok h0) (fun q => ?_) (fun q => ?_)
    · rw [(hcmpB_iff (hcn ClassFile.Cond.gt) u 0).mpr ((lt32 ok0 ou).mp q)] at kk; exact kk
    · rw [Bool.eq_false_iff.mpr (fun z => q ((lt32 ok0 ou).mpr ((hcmpB_iff (hcn ClassFile.Cond.gt) u 0).mp z)))] at kk; exact kk
  | le =>
    refine lv_if_le C.1 C.2.1 hd (hJ_ok h0) (fun q => ?_) (fun q => ?_)
    · rw [(hcmpB_iff (hcn ClassFile.Cond.le) u 0).mpr ((le32 ou ok0).mp q)] at kk; exact kk
    · rw [Bool.eq_false_iff.mpr (fun z => q ((le32 ou ok0).mpr ((hcmpB_iff (hcn ClassFile.Cond.le) u 0).mp z)))] at kk; exact kk
theorem hK_icmp (C : hCtx p s m args meth c y) (cd : ClassFile.Cond) (off : Int) : hOK ρ p l e R s m args below meth c Q K N0 E H00 y nS zS (.if_icmp cd off) := by
  intro pc len op nx d la st σ pc1 la1 st1 σ1 H locs ls hd ho hs hl hst hr hlo hn hz hc hsl hf kk
  obtain ⟨hb, he⟩ := hk1_in ho
  cases he
  simp only [Bool.and_eq_true, decide_eq_true_eq] at hb
  obtain ⟨rfl, h0⟩ := hb
  obtain ⟨v, u, r, rfl, g2⟩ := hs19 hs
  cases Sum.inl.inj g2
  have ov := fa_hd hst
  have ou := fa_hd (fa_tl hst)
  have kk := kk H locs ls hl (fa_tl (fa_tl hst)) hr hlo
  cases cd with
  | eq =>
    refine lv_icmp_eq C.1 C.2.1 hd (hJ_ok h0) (fun q => ?_) (fun q => ?_)
    · rw [(hcmpB_iff (hcn ClassFile.Cond.eq) u v).mpr ((eq32 ou ov).mp q)] at kk; exact kk
    · rw [Bool.eq_false_iff.mpr (fun z => q ((eq32 ou ov).mpr ((hcmpB_iff (hcn ClassFile.Cond.eq) u v).mp z)))] at kk; exact kk
  | ne =>
    refine lv_icmp_ne C.1 C.2.1 hd (hJ_ok h0) (fun q => ?_) (fun q => ?_)
    · rw [(hcmpB_iff (hcn ClassFile.Cond.ne) u v).mpr (fun z => q ((eq32 ou ov).mpr z))] at kk; exact kk
    · rw [Bool.eq_false_iff.mpr (fun z => (hcmpB_iff (hcn ClassFile.Cond.ne) u v).mp z ((eq32 ou ov).mp q))] at kk; exact kk
  | lt =>
    refine lv_icmp_lt C.1 C.2.1 hd (hJ_ok h0) (fun q => ?_) (fun q => ?_)
    · rw [(hcmpB_iff (hcn ClassFile.Cond.lt) u v).mpr ((lt32 ou ov).mp q)] at kk; exact kk
    · rw [Bool.eq_false_iff.mpr (fun z => q ((lt32 ou ov).mpr ((hcmpB_iff (hcn ClassFile.Cond.lt) u v).mp z)))] at kk; exact kk
  | ge =>
    refine lv_icmp_ge C.1 C.2.1 hd (hJ_ok h0) (fun q => ?_) (fun q => ?_)
    · rw [(hcmpB_iff (hcn ClassFile.Cond.ge) u v).mpr ((le32 ov ou).mp q)] at kk; exact kk
    · rw [Bool.eq_false_iff.mpr (fun z => q ((le32 ov ou).mpr ((hcmpB_iff (hcn ClassFile.Cond.ge) u v).mp z)))] at kk; exact kk
  | gt =>
    refine lv_icmp_gt C.1 C.2.1 hd (hJ_ok h0) (fun q => ?_) (fun q => ?_)
    · rw [(hcmpB_iff (hcn ClassFile.Cond.gt) u v).mpr ((lt32 ov ou).mp q)] at kk; exact kk
    · rw [Bool.eq_false_iff.mpr (fun z => q ((lt32 ov ou).mpr ((hcmpB_iff (hcn ClassFile.Cond.gt) u v).mp z)))] at kk; exact kk
  | le =>
    refine lv_icmp_le C.1 C.2.1 hd (hJ_ok h0) (fun q => ?_) (fun q => ?_)
    · rw [(hcmpB_iff (hcn ClassFile.Cond.le) u v).mpr ((le32 ou ov).mp q)] at kk; exact kk
    · rw [Bool.eq_false_iff.mpr (fun z => q ((le32 ou ov).mpr ((hcmpB_iff (hcn ClassFile.Cond.le) u v).mp z)))] at kk; exact kk
theorem hK_ifnull (C : hCtx p s m args meth c y) (off : Int) : hOK ρ p l e R s m args below meth c Q K N0 E H00 y nS zS (.ifnull off) := by
  intro pc len op nx d la st σ pc1 la1 st1 σ1 H locs ls hd ho hs hl hst hr hlo hn hz hc hsl hf kk
  obtain ⟨hb, he⟩ := hk1_in ho
  cases he
  simp only [Bool.and_eq_true, decide_eq_true_eq] at hb
  obtain ⟨rfl, h0⟩ := hb
  obtain ⟨q, r, rfl, g2⟩ := hs20 hs
  cases Sum.inl.inj g2
  have kk := kk H locs ls hl (fa_tl hst) hr hlo
  cases q with
  | none => exact lv_ifnullN C.1 C.2.1 hd (hJ_ok h0) kk
  | some a => exact lv_ifnull C.1 C.2.1 hd kk
theorem hK_ifnonnull (C : hCtx p s m args meth c y) (off : Int) : hOK ρ p l e R s m args below meth c Q K N0 E H00 y nS zS (.ifnonnull off) := by
  intro pc len op nx d la st σ pc1 la1 st1 σ1 H locs ls hd ho hs hl hst hr hlo hn hz hc hsl hf kk
  obtain ⟨hb, he⟩ := hk1_in ho
  cases he
  simp only [Bool.and_eq_true, decide_eq_true_eq] at hb
  obtain ⟨rfl, h0⟩ := hb
  obtain ⟨q, r, rfl, g2⟩ := hs20 hs
  cases Sum.inl.inj g2
  have kk := kk H locs ls hl (fa_tl hst) hr hlo
  cases q with
  | none => exact lv_ifnonnullN C.1 C.2.1 hd kk
  | some a => exact lv_ifnonnull C.1 C.2.1 hd (hJ_ok h0) kk
theorem hK_acmp (C : hCtx p s m args meth c y) (cd : ClassFile.ACond) (off : Int) : hOK ρ p l e R s m args below meth c Q K N0 E H00 y nS zS (.if_acmp cd off) := by
  intro pc len op nx d la st σ pc1 la1 st1 σ1 H locs ls hd ho hs hl hst hr hlo hn hz hc hsl hf kk
  obtain ⟨hb, he⟩ := hk1_in ho
  cases he
  simp only [Bool.and_eq_true, decide_eq_true_eq] at hb
  obtain ⟨rfl, h0⟩ := hb
  obtain ⟨q, z, r, rfl, gq, gz, g2⟩ := hs21 hs
  cases Sum.inl.inj g2
  have kk := kk H locs ls hl (fa_tl (fa_tl hst)) hr hlo
  have hin := hr.1.2.1.opt gz gq
  cases cd with
  | eq =>
    refine lv_acmp_eq C.1 C.2.1 hd (hJ_ok h0) (fun h => ?_) (fun h => ?_)
    · rw [decide_eq_true (hin.mp h)] at kk; exact kk
    · rw [decide_eq_false (fun e => h (hin.mpr e))] at kk; exact kk
  | ne =>
    refine lv_acmp_ne C.1 C.2.1 hd (hJ_ok h0) (fun h => ?_) (fun h => ?_)
    · rw [decide_eq_false (fun e => h (hin.mpr e))] at kk; exact kk
    · rw [decide_eq_true (hin.mp h)] at kk; exact kk
theorem hK_goto (C : hCtx p s m args meth c y) (off : Int) : hOK ρ p l e R s m args below meth c Q K N0 E H00 y nS zS (.goto off) := by
  intro pc len op nx d la st σ pc1 la1 st1 σ1 H locs ls hd ho hs hl hst hr hlo hn hz hc hsl hf kk
  obtain ⟨hb, he⟩ := hk1_in ho
  cases he
  simp only [Bool.and_eq_true, decide_eq_true_eq] at hb
  obtain ⟨rfl, h0⟩ := hb
  cases (show some (Sum.inl ((hJ pc off).toNat, la, st, σ)) = some (Sum.inl (pc1, la1, st1, σ1)) from hs)
  exact lv_goto C.1 C.2.1 hd (hJ_ok h0) (kk H locs ls hl hst hr hlo)
theorem hK_tsw (C : hCtx p s m args meth c y) (dflt lo hi : Int) (offs : Array Int) : hOK ρ p l e R s m args below meth c Q K N0 E H00 y nS zS (.tableswitch dflt lo hi offs) := by
  intro pc len op nx d la st σ pc1 la1 st1 σ1 H locs ls hd ho hs hl hst hr hlo hn hz hc hsl hf kk
  obtain ⟨hb, he⟩ := hk1_in ho
  cases he
  simp only [Bool.and_eq_true, decide_eq_true_eq] at hb
  obtain ⟨⟨h0, h1⟩, h2⟩ := hb
  obtain ⟨u, r, rfl, g2⟩ := hs23 hs
  cases Sum.inl.inj g2
  have ou := fa_hd hst
  have kk := kk H locs ls hl (fa_tl hst) hr hlo
  have hu : (Int32.ofInt u).toInt = u := i32r ou
  have hlen : (offs.toList.map (hJ pc)).length = offs.size := by simp
  by_cases q : u < lo ∨ lo + (offs.toList.map (hJ pc)).length ≤ u
  · rw [if_pos q] at kk
    exact lv_tableOut C.1 C.2.1 hd (by rw [hu]; rw [hlen] at q; rcases q with q | q; exact Or.inl q; exact Or.inr (by omega)) (hJ_ok h0) kk
  · rw [if_neg q] at kk
    rw [hlen] at q
    have hi1 : (u - lo).toNat < offs.size := by omega
    have ho1 : offs[(u - lo).toNat]? = some offs[(u - lo).toNat] := Array.getElem?_eq_getElem hi1
    have hj : 0 ≤ hJ pc offs[(u - lo).toNat] := of_decide_eq_true (List.all_eq_true.mp h2 _ (by simp))
    refine lv_tableIn C.1 C.2.1 hd (by rw [hu]; omega) (by rw [hu]; omega) (by rw [hu]; exact ho1) (hJ_ok hj) ?_
    have e1 : (offs.toList.map (hJ pc)).getD (u - lo).toNat 0 = hJ pc offs[(u - lo).toNat] := by
      rw [List.getD_eq_getElem?_getD, List.getElem?_map]
      simp [hi1]
    rw [e1] at kk
    exact kk
end HST2
end
section
/-! The Java machine does what a step of mine says: cells. -/
theorem hMin {c w : Nat} (h : hNew c = some w) : (Cond.instantiable (hName c) w ∈ lw_tbl) ∧ hMade c = true ∧ Cond.initialized (hName c) ∈ lw_tbl := by
  unfold hNew at h
  cases e : hNq.find? (fun e => decide (e.2.1 = c)) with
  | none => rw [e] at h; cases h
  | some x =>
    obtain ⟨p1, c1, w1⟩ := x
    rw [e] at h
    cases h
    have hm := List.mem_of_find?_eq_some e
    have hc : c1 = c := of_decide_eq_true (List.find?_some (p := fun (e : Nat × Nat × Nat) => decide (e.2.1 = c)) e)
    subst hc
    have hmade : hMade c1 = true := hMade_of (List.any_eq_true.mpr ⟨_, hm, decide_eq_true rfl⟩)
    refine ⟨hwalk_mem hNq_ok (List.mem_map.mpr ⟨_, hm, rfl⟩), hmade, ?_⟩
    unfold hMade at hmade
    simp only [Bool.and_eq_true] at hmade
    obtain ⟨q, hq, h1⟩ := List.any_eq_true.mp hmade.1.1.2
    have h2 := of_decide_eq_true h1
    obtain ⟨p2, c2⟩ := q
    cases h2
    exact hwalk_mem hIq_ok (List.mem_map.mpr ⟨_, hq, rfl⟩)
theorem hMade_new {c : Nat} (h : hMade c = true) : ∃ w, Cond.instantiable (hName c) w ∈ lw_tbl := by
  unfold hMade at h
  simp only [Bool.and_eq_true] at h
  obtain ⟨q, hq, h1⟩ := List.any_eq_true.mp h.1.1.1.1
  have h2 := of_decide_eq_true h1
  obtain ⟨p2, c2, w2⟩ := q
  cases h2
  exact ⟨w2, hwalk_mem hNq_ok (List.mem_map.mpr ⟨_, hq, rfl⟩)⟩
theorem hLF_in {o k c k1 ns : Nat} {x : Nat × String} (h : hf3 hLF o k = some (c, k1, ns, x)) : hwF (o, k, c, k1, ns, x) ∈ lw_tbl := by
  have hm := hf3_in _ _ _ _ h
  exact hwalk_mem (p := x.1) hLF_ok (List.mem_map.mpr ⟨_, hm, rfl⟩)
theorem hld_sI {σ : hM} {a k b j : Nat} {z : Int} (h : ¬ (b = a ∧ j = k)) (ty : Nat) : hld (sI σ a k z) ty b j = hld σ ty b j := by
  unfold hld
  simp only [mI_sI, if_neg h]
  rfl
theorem hld_sR {σ : hM} {a k b j : Nat} {z : Option Nat} (h : ¬ (b = a ∧ j = k)) (ty : Nat) : hld (sR σ a k z) ty b j = hld σ ty b j := by
  unfold hld
  simp only [mR_sR, if_neg h]
  rfl
theorem hld_sIs {σ : hM} {a k ty : Nat} {z : Int} : (ty ≠ 4 → ty ≠ 3 → hld (sI σ a k z) ty a k = vI z) ∧ (ty = 3 → hld (sI σ a k z) ty a k = vL z) := by
  unfold hld
  refine ⟨fun h1 h2 => ?_, fun h => ?_⟩
  · rw [if_neg h1, if_neg h2, mI_sI, if_pos ⟨rfl, rfl⟩]
  · subst h
    rw [if_neg (by decide), if_pos rfl, mI_sI, if_pos ⟨rfl, rfl⟩]
theorem hld_sRs {σ : hM} {a k : Nat} {z : Option Nat} : hld (sR σ a k z) 4 a k = vR z := by
  unfold hld
  rw [if_pos rfl, mR_sR, if_pos ⟨rfl, rfl⟩]
section HST3
variable {p : Program} {l : Launch} {e : Env} {R : Room} {s : State} {m : MethodId} {args : Array Value} {below : List Frame} {meth : Method} {c : Code} {Q : State → Prop} {ρ : Nat → Nat} {K N0 : Nat} {E : Nat → AV} {H00 : Heap} {y nS zS : Nat}
theorem hK_getfield (C : hCtx p s m args meth c y) (V : hEnv ρ N0 E H00 s) (k : Nat) : hOK ρ p l e R s m args below meth c Q K N0 E H00 y nS zS (.getfield k) := by
  intro pc len op nx d la st σ pc1 la1 st1 σ1 H locs ls hd ho hs hl hst hr hlo hn hz hc hsl hf kk
  have ho : (op, nx) ∈ ho_getfield y pc k len := ho
  unfold ho_getfield at ho
  cases e1 : hf3 hLF (hmO y) k with
  | none => rw [e1] at ho; cases ho
  | some x =>
    obtain ⟨c1, k1, ns, xx⟩ := x
    rw [e1] at ho
    obtain ⟨hb, he⟩ := hk1_in ho
    cases he
    simp only [Bool.and_eq_true, decide_eq_true_eq] at hb
    obtain ⟨rfl, hk⟩ := hb
    obtain ⟨r, rest, rfl, g1, g2⟩ := hs24 hs
    cases Sum.inl.inj g2
    obtain ⟨a, rfl, ha⟩ := hIsO_of g1
    obtain ⟨cell, b1, b2, b3, b4, b5, b6⟩ := hr.2.2.2.1 a c1 ha
    obtain ⟨cf, kc, fi, f, f1, f2, f3, f4⟩ := b6 k1 hk
    have kk := kk H locs ls hl (fa_cons f4 (fa_tl hst)) hr hlo
    have hw := hLF_in e1
    by_cases hns : ns = 0
    · subst hns
      exact W.getf C.1 C.2.1 C.2.2.2.1 (C.2.2.2.2.1 _ (hBig_in (w := .fieldLink (hName (hmO y)) k (hName c1) (hFd c1 k1).1 (hFd c1 k1).2.1) hw rfl)) f1 f2 b1 b2 f3 rfl rfl hd kk
    · have hx := V.1 _ (hf3_in _ _ _ _ e1) hns
      have e2 : hwF (hmO y, k, c1, k1, ns, xx) = .fieldLinkNest (hName (hmO y)) k (hName c1) (hFd c1 k1).1 (hFd c1 k1).2.1 xx.2 := if_neg hns
      rw [e2] at hx
      exact va_Wgetf C.1 C.2.1 C.2.2.2.1 (va_Nw.use rfl hx) f1 f2 b1 b2 f3 rfl rfl hd kk
theorem fits_ok {k : Nat} {ty : FieldType} (hk : hTyk k ty) {v : AV} (hv : (∃ z, v = vI z ∧ (k = 0 ∨ k = 2 ∧ h01 z = true)) ∨ (∃ z, v = vL z ∧ k = 3) ∨ ∃ q, v = vR q ∧ k = 4) : narrow ty (cv ρ v) = cv ρ v ∧ fits ty (cv ρ v) = true := by
  rcases hv with ⟨z, rfl, hz⟩ | ⟨z, rfl, rfl⟩ | ⟨q, rfl, rfl⟩
  · rcases hz with rfl | ⟨rfl, hz⟩
    · rcases hk with ⟨-, rfl⟩ | ⟨h, -⟩ | ⟨h, -⟩ | ⟨h, -⟩
      · exact ⟨rfl, rfl⟩
      · cases h
      · cases h
      · cases h
    · rcases hk with ⟨h, -⟩ | ⟨-, rfl⟩ | ⟨h, -⟩ | ⟨h, -⟩
      · cases h
      · unfold h01 at hz
        simp only [Bool.or_eq_true, decide_eq_true_eq] at hz
        rcases hz with rfl | rfl
        · exact ⟨show narrow .boolean (.int (Int32.ofInt 0)) = .int (Int32.ofInt 0) by decide, show fits .boolean (.int (Int32.ofInt 0)) = true by decide⟩
        · exact ⟨show narrow .boolean (.int (Int32.ofInt 1)) = .int (Int32.ofInt 1) by decide, show fits .boolean (.int (Int32.ofInt 1)) = true by decide⟩
      · cases h
      · cases h
  · rcases hk with ⟨h, -⟩ | ⟨h, -⟩ | ⟨-, rfl⟩ | ⟨h, -⟩
    · cases h
    · cases h
    · exact ⟨rfl, rfl⟩
    · cases h
  · rcases hk with ⟨h, -⟩ | ⟨h, -⟩ | ⟨h, -⟩ | ⟨-, ⟨n, rfl⟩ | ⟨t, rfl⟩⟩
    · cases h
    · cases h
    · cases h
    · cases q <;> exact ⟨rfl, rfl⟩
    · cases q <;> exact ⟨rfl, rfl⟩
/-- the written cell holds the fields of the written memory -/
theorem hObj_put {ρ : Nat → Nat} {K : Nat} {s : State} {σ σ1 : hM} {H H1 : Heap} {a c1 k1 : Nat} {v : AV} {f : Field} {cell : Cell} {cf fi : Nat} {kc : Class} (hts : ∀ w ∈ hBig, w.before args s = true) (hm : hMade c1 = true) (hk : k1 < hFn c1)
    (ho : hObj ρ s σ H K a c1) (hcell : H[ρ a]? = some cell) (hf : s.fieldFound? (hName c1) (hFd c1 k1).1 (hFd c1 k1).2.1 = some (cf, kc, fi, f)) (hH : H1[ρ a]? = some (cell.setSlot f.slot (cv ρ v))) (hov : okv v)
    (hself : hld σ1 (hFd c1 k1).2.2.1 a k1 = v) (hoth : ∀ k, k ≠ k1 → ∀ ty, hld σ1 ty a k = hld σ ty a k) : hObj ρ s σ1 H1 K a c1 := by
  obtain ⟨cell', b1, b2, b3, b4, b5, b6⟩ := ho
  cases hcell.symm.trans b1
  refine ⟨_, hH, b2, b3, b4, b5, fun k hk2 => ?_⟩
  obtain ⟨cf2, kc2, fi2, f2, g1, g2, g3, g4⟩ := b6 k hk2
  refine ⟨cf2, kc2, fi2, f2, g1, g2, ?_⟩
  obtain ⟨cf0, kc0, fi0, f0, e1, e2, e3, e4⟩ := b6 k1 hk
  cases hf.symm.trans e1
  have hlt : f.slot < cell.slots.size := (Array.getElem?_eq_some_iff.mp e3).1
  rw [hset_slot _ _ _ _ hlt]
  by_cases hkk : k = k1
  · subst hkk
    cases hf.symm.trans g1
    rw [if_pos rfl, hself]
    exact ⟨rfl, hov⟩
  · have hne : f2.slot ≠ f.slot := by
      obtain ⟨ty2, ht2, -⟩ := hTy_of hm hk2
      obtain ⟨ty1, ht1, -⟩ := hTy_of hm hk
      refine u_apart (hV_lays hts hm hk2) (hV_lays hts hm hk) g1 hf ?_
      rw [(State.fieldFound?_type g1 ht2).1, (State.fieldFound?_type hf ht1).1]
      exact hNm_ne hm hk2 hk hkk
    rw [if_neg hne, hoth k hkk]
    exact ⟨g3, g4⟩
theorem hK_putfield (C : hCtx p s m args meth c y) (k : Nat) : hOK ρ p l e R s m args below meth c Q K N0 E H00 y nS zS (.putfield k) := by
  intro pc len op nx d la st σ pc1 la1 st1 σ1 H locs ls hd ho hs hl hst hr hlo hn hz hc hsl hf kk
  have ho : (op, nx) ∈ ho_putfield y pc k len := ho
  unfold ho_putfield at ho
  cases e1 : hf3 hLF (hmO y) k with
  | none => rw [e1] at ho; cases ho
  | some x =>
    obtain ⟨c1, k1, ns, xx⟩ := x
    rw [e1] at ho
    obtain ⟨hb, he⟩ := hk1_in ho
    cases he
    simp only [Bool.and_eq_true, decide_eq_true_eq] at hb
    obtain ⟨⟨rfl, rfl⟩, hpo⟩ := hb
    unfold hPutOk at hpo
    simp only [Bool.and_eq_true, Bool.or_eq_true, decide_eq_true_eq, Bool.not_eq_true'] at hpo
    obtain ⟨⟨hm, hk⟩, hfin⟩ := hpo
    obtain ⟨v, r, rest, rfl, g1, g2, g3⟩ := hs25 hs
    obtain ⟨a, rfl, ha⟩ := hIsO_of g1
    have hO := hr.2.2.2.1 a c1 ha
    obtain ⟨cell, b1, b2, b3, b4, b5, b6⟩ := hO
    obtain ⟨cf, kc, fi, f, f1, f2, f3, f4⟩ := b6 k1 hk
    have hw := hLF_in e1
    have hlink := C.2.2.2.2.1 _ (hBig_in (w := .fieldLink (hName (hmO y)) k (hName c1) (hFd c1 k1).1 (hFd c1 k1).2.1) hw rfl)
    obtain ⟨w, hins⟩ := hMade_new hm
    obtain ⟨cC, kC, hfc, hkC, hkind, -⟩ := Cond.instantiable_spec (C.2.2.2.2.1 _ (hBig_in hins rfl))
    have hcC : cC = cell.cls := Option.some.inj (hfc.symm.trans b4)
    subst hcC
    have haN : K ≤ a := g2
    have hvm := b5 haN
    obtain ⟨ty, hty, htk⟩ := hTy_of hm hk
    have hov : okv v := fa_hd hst
    have hlt : f.slot < cell.slots.size := (Array.getElem?_eq_some_iff.mp f3).1
    have key : ∀ σ2 : hM, σ2.1 = σ.1 → σ2.2.1 = σ.2.1 → mT σ2 = mT σ → (∀ b, b ≠ a → ∀ j, mI σ2 b j = mI σ b j ∧ mR σ2 b j = mR σ b j) → hld σ2 (hFd c1 k1).2.2.1 a k1 = v → (∀ k, k ≠ k1 → ∀ ty, hld σ2 ty a k = hld σ ty a k) →
        (narrow ty (cv ρ v) = cv ρ v ∧ fits ty (cv ρ v) = true) → (pc1, la1, st1, σ1) = (pc + 3, la, rest, σ2) →
        W p l e R s m args below meth c H locs (σ.1 - nS) (σ.2.1 - zS) Q (F0 m pc ls ((v :: vR (some a) :: rest).map (cv ρ))) := by
      intro σ2 h1 h2 h3 h4 h5 h6 h7 h8
      simp only [Prod.mk.injEq] at h8
      obtain ⟨x1, x2, x3, x4⟩ := h8
      have x2 := x2.symm
      have x3 := x3.symm
      have x4 := x4.symm
      subst x1
      subst x2
      subst x3
      subst x4
      have kk2 : ∀ H' : Heap, H'[ρ a]? = some (cell.setSlot f.slot (cv ρ v)) → H'.size = H.size → (∀ q, q ≠ ρ a → H'[q]? = H[q]?) → W p l e R s m args below meth c H' (locs ++ [⟨ρ a, f.slot⟩]) (σ.1 - nS) (σ.2.1 - zS) Q (F0 m (pc + 3) ls (rest.map (cv ρ))) := by
        intro H' q1 q2 q3
        have := kk H' (locs ++ [⟨ρ a, f.slot⟩]) ls hl (fa_tl (fa_tl hst)) (hr.put haN q2 q3 h1 h3 h4 (fun c2 hc2 => ?_) (fun t len2 hc2 => ?_)) (fun q hq => ?_)
        · rw [h1, h2] at this; exact this
        · rw [ha] at hc2
          cases hc2
          exact hObj_put C.2.2.2.2.1 hm hk ⟨cell, b1, b2, b3, b4, b5, b6⟩ b1 f1 q1 hov h5 h6
        · rw [ha] at hc2; cases hc2
        · rcases List.mem_append.mp hq with hq | hq
          · exact hlo q hq
          · rw [List.mem_singleton.mp hq]; exact hr.1.2.1.ge haN
      by_cases hfi : (hFd c1 k1).2.2.2 = true
      · have hin := hfin.resolve_left (by rw [hfi]; decide)
        have hlay := C.2.2.2.2.1 _ (hBig_in (hV_of hm hk) (by unfold hwV; rw [if_pos hfi]; rfl))
        unfold hwV at hlay
        rw [if_pos hfi] at hlay
        have hcf : m.cls = cf := by
          obtain ⟨_, _, c', _, _, _, -, -, hf', -, -, -, hown2, -⟩ := Cond.laysFinal_spec hlay
          have e5 : c' = cf := by have := f1.symm.trans hf'; simp at this; exact this.1.symm
          rw [← e5]
          have h9 := C.2.2.2.1
          rw [hin.2] at h9
          exact Option.some.inj (h9.symm.trans hown2)
        exact W.putFinK C.1 C.2.1 C.2.2.2.1 hlink f1 f2 hcf (C.2.2.2.2.2 hin.1) (u_fits hfc hkC hkind (Or.inr hlay) f1 hty h7.1 h7.2) b1 hvm hlt rfl rfl hd kk2
      · have hlay := C.2.2.2.2.1 _ (hBig_in (hV_of hm hk) (by unfold hwV; rw [if_neg hfi]; rfl))
        unfold hwV at hlay
        rw [if_neg hfi] at hlay
        exact W.putK C.1 C.2.1 (f := f) ⟨C.2.2.2.1, hlink, ⟨_, _, _, f1⟩, f2⟩ (u_store hfc hkC hkind hlay f1 hty h7.1 h7.2) b1 hvm hlt rfl rfl hd kk2
    rcases g3 with ⟨z, rfl, hz, g4⟩ | ⟨z, rfl, hz, g4⟩ | ⟨q, rfl, hz, g4⟩
    · have hz : (hFd c1 k1).2.2.1 = 0 ∨ (hFd c1 k1).2.2.1 = 2 ∧ h01 z = true := hz
      refine key (sI σ a k1 z) rfl rfl rfl (fun b hb j => ⟨by rw [mI_sI, if_neg (fun q => hb q.1)], rfl⟩) ?_ (fun k2 hk2 ty2 => hld_sI (fun q => hk2 q.2) ty2) (fits_ok htk (Or.inl ⟨z, rfl, hz⟩)) (Sum.inl.inj g4)
      rcases hz with hz | ⟨hz, -⟩
      · exact hld_sIs.1 (by rw [hz]; decide) (by rw [hz]; decide)
      · exact hld_sIs.1 (by rw [hz]; decide) (by rw [hz]; decide)
    · have hz : (hFd c1 k1).2.2.1 = 3 := hz
      exact key (sI σ a k1 z) rfl rfl rfl (fun b hb j => ⟨by rw [mI_sI, if_neg (fun q => hb q.1)], rfl⟩) (hld_sIs.2 hz) (fun k2 hk2 ty2 => hld_sI (fun q => hk2 q.2) ty2) (fits_ok htk (Or.inr (Or.inl ⟨z, rfl, hz⟩))) (Sum.inl.inj g4)
    · have hz : (hFd c1 k1).2.2.1 = 4 := hz
      exact key (sR σ a k1 q) rfl rfl rfl (fun b hb j => ⟨rfl, by rw [mR_sR, if_neg (fun q => hb q.1)]⟩) (by rw [hz]; exact hld_sRs) (fun k2 hk2 ty2 => hld_sR (fun q => hk2 q.2) ty2) (fits_ok htk (Or.inr (Or.inr ⟨q, rfl, hz⟩))) (Sum.inl.inj g4)
end HST3
end
section
/-! The Java machine does what a step of mine says: arrays, new cells, the end of a method. -/
theorem cv_len {len : Nat} (h : len ≤ 1000000) : len.toInt32 = Int32.ofInt (len : Int) ∧ okv (vI (len : Int)) :=
  ⟨to32 (Int32.toInt_ofNat_of_lt (by omega)), ⟨by omega, by omega⟩⟩
theorem hRow_put {ρ : Nat → Nat} {K : Nat} {s : State} {σ σ1 : hM} {H H1 : Heap} {a t len j : Nat} {v : AV} {cell : Cell} (hr : hRow ρ s σ H K a t len) (hcell : H[ρ a]? = some cell) (hj : j < len) (hH : H1[ρ a]? = some (cell.setSlot j (cv ρ v))) (hov : okv v)
    (hself : hld σ1 (hat t) a j = v) (hoth : ∀ k, k ≠ j → ∀ ty, hld σ1 ty a k = hld σ ty a k) : hRow ρ s σ1 H1 K a t len := by
  obtain ⟨cell', b1, b2, b3, b4, b5, b6, b7, b8⟩ := hr
  cases hcell.symm.trans b1
  refine ⟨_, hH, b2, b3, b4, b5, by rw [hset_size]; exact b6, b7, fun k hk => ?_⟩
  rw [hset_slot _ _ _ _ (by have := b6.1; omega)]
  by_cases hkj : k = j
  · subst hkj; rw [if_pos rfl, hself]; exact ⟨rfl, hov⟩
  · rw [if_neg hkj, hoth k hkj]; exact b8 k hk
theorem hst_go {ρ : Nat → Nat} {K N0 : Nat} {s : State} {σ σ2 : hM} {H H' H00 : Heap} {a t len j : Nat} {v : AV} {cell : Cell} (hr : hRel ρ K N0 H00 s σ H) (haN : K ≤ a) (ha : mT σ a = some (Sum.inr (t, len))) (hj : j < len) (h1 : σ2.1 = σ.1) (h3 : mT σ2 = mT σ)
    (h4 : ∀ b, b ≠ a → ∀ k, mI σ2 b k = mI σ b k ∧ mR σ2 b k = mR σ b k) (h5 : hld σ2 (hat t) a j = v) (h6 : ∀ k, k ≠ j → ∀ ty, hld σ2 ty a k = hld σ ty a k) (hov : okv v) (hcell : H[ρ a]? = some cell)
    (q1 : H'[ρ a]? = some (cell.setSlot j (cv ρ v))) (q2 : H'.size = H.size) (q3 : ∀ q, q ≠ ρ a → H'[q]? = H[q]?) : hRel ρ K N0 H00 s σ2 H' :=
  hr.put haN q2 q3 h1 h3 h4 (fun c hc => by rw [ha] at hc; cases hc) (fun t2 len2 hc => by rw [ha] at hc; cases hc; exact hRow_put (hr.2.2.2.2 a t len ha) hcell hj q1 hov h5 h6)
theorem asg_refl {vm : Vm} {c : ClassId} : vm.assignable c c = true := by
  show vm.assignableAux (255 + 1) c c = true
  rw [Vm.assignableAux]
  simp
def hBp (t : Nat) : Nat := ((hBq.find? (fun e => decide (e.2 = t))).map (fun e => e.1)).getD 0
theorem hArr_ref (c : Nat) : hArr (10 + c) = .object (hName c) := by
  rw [show 10 + c = (c + 6) + 4 by omega]
  show FieldType.object (hName (c + 6 - 6)) = _
  rw [Nat.add_sub_cancel]
theorem h01_narrow {ρ : Nat → Nat} {z : Int} (h : h01 z = true) : narrow .boolean (.int (Int32.ofInt z)) = cv ρ (vI z) ∧ okv (vI z) := by
  unfold h01 at h
  simp only [Bool.or_eq_true, decide_eq_true_eq] at h
  rcases h with rfl | rfl
  · exact ⟨show narrow .boolean (.int (Int32.ofInt 0)) = .int (Int32.ofInt 0) by decide, ⟨by omega, by omega⟩⟩
  · exact ⟨show narrow .boolean (.int (Int32.ofInt 1)) = .int (Int32.ofInt 1) by decide, ⟨by omega, by omega⟩⟩
theorem sb8_narrow {ρ : Nat → Nat} (z : Int) : narrow .byte (.int (Int32.ofInt z)) = cv ρ (vI (sb8 z)) ∧ okv (vI (sb8 z)) := by
  refine ⟨?_, ok_t32 _⟩
  show Value.int ((Int32.ofInt z).toInt8.toInt32) = Value.int (Int32.ofInt (Int32.ofInt z).toInt8.toInt32.toInt)
  rw [Int32.ofInt_toInt]
theorem hRel.push {ρ : Nat → Nat} {K N0 : Nat} {s : State} {σ : hM} {H H00 : Heap} {w : Nat} {sh : Nat ⊕ (Nat × Nat)} {cell : Cell} (h : hRel ρ K N0 H00 s σ H) (hO : ∀ c, sh = .inl c → hObj ρ s (sN σ sh w) (H.push cell) K σ.1 c)
    (hR : ∀ t len, sh = .inr (t, len) → hRow ρ s (sN σ sh w) (H.push cell) K σ.1 t len) : hRel ρ K N0 H00 s (sN σ sh w) (H.push cell) := by
  obtain ⟨h1, h2, h3, h4, h5⟩ := h
  have hlt : ∀ q, q < H.size → (H.push cell)[q]? = H[q]? := fun q hq => by
    rw [Array.getElem?_push, if_neg (by omega)]
  have hmT : ∀ a, a ≠ σ.1 → mT (sN σ sh w) a = mT σ a := fun a ha => if_neg ha
  have hm : ∀ a, a ≠ σ.1 → ∀ j, mI (sN σ sh w) a j = mI σ a j ∧ mR (sN σ sh w) a j = mR σ a j := fun a ha j => ⟨if_neg ha, if_neg ha⟩
  refine ⟨⟨by rw [Array.size_push]; show H.size + 1 + K = N0 + (σ.1 + 1); have := h1.1; omega, h1.2.1, (hmT 1 (by have := h1.2.2.2; omega)).trans h1.2.2.1, h1.2.2.2⟩, Nat.le_succ_of_le h2, fun a ha => (hlt a (by have := h1.1; omega)).trans (h3 a ha), fun a c hc => ?_, fun a t len hc => ?_⟩
  · by_cases ha : a = σ.1
    · subst ha
      refine hO c ?_
      have : mT (sN σ sh w) σ.1 = some sh := if_pos rfl
      rw [this] at hc
      exact Option.some.inj hc
    · rw [hmT a ha] at hc
      have h6 := h4 a c hc
      obtain ⟨cell', e1, -⟩ := h4 a c hc
      exact h6.kept (hlt _ (Array.getElem?_eq_some_iff.mp e1).1) (hm a ha)
  · by_cases ha : a = σ.1
    · subst ha
      refine hR t len ?_
      have : mT (sN σ sh w) σ.1 = some sh := if_pos rfl
      rw [this] at hc
      exact Option.some.inj hc
    · rw [hmT a ha] at hc
      have h6 := h5 a t len hc
      obtain ⟨cell', e1, -⟩ := h5 a t len hc
      exact h6.kept (hlt _ (Array.getElem?_eq_some_iff.mp e1).1) (hm a ha)
theorem hld_new (σ : hM) (sh : Nat ⊕ (Nat × Nat)) (w k j : Nat) : hld (sN σ sh w) k σ.1 j = if k = 4 then vR none else if k = 3 then vL 0 else vI 0 := by
  have h1 : mI (sN σ sh w) σ.1 j = 0 := if_pos rfl
  have h2 : mR (sN σ sh w) σ.1 j = none := if_pos rfl
  unfold hld
  rw [h1, h2]
theorem okz (k : Nat) : okv (if k = 4 then vR none else if k = 3 then vL 0 else vI 0) := by
  split
  · trivial
  · split
    · exact ⟨by omega, by omega⟩
    · exact ⟨by omega, by omega⟩
theorem defv {ρ : Nat → Nat} {k : Nat} {ty : FieldType} (h : hTyk k ty) : defaultValue ty = cv ρ (if k = 4 then vR none else if k = 3 then vL 0 else vI 0) := by
  rcases h with ⟨rfl, rfl⟩ | ⟨rfl, rfl⟩ | ⟨rfl, rfl⟩ | ⟨rfl, ⟨n, rfl⟩ | ⟨t, rfl⟩⟩ <;> rfl
section HST4
variable {p : Program} {l : Launch} {e : Env} {R : Room} {s : State} {m : MethodId} {args : Array Value} {below : List Frame} {meth : Method} {c : Code} {Q : State → Prop} {ρ : Nat → Nat} {K N0 : Nat} {E : Nat → AV} {H00 : Heap} {y nS zS : Nat}
theorem hK_iaload (C : hCtx p s m args meth c y) : hOK ρ p l e R s m args below meth c Q K N0 E H00 y nS zS .iaload := by
  intro pc len op nx d la st σ pc1 la1 st1 σ1 H locs ls hd ho hs hl hst hr hlo hn hz hc hsl hf kk
  obtain ⟨hb, he⟩ := hk1_in ho
  cases he
  have hb := of_decide_eq_true hb
  subst hb
  obtain ⟨j, r, rest, rfl, g1, g2⟩ := hs26 hs
  cases Sum.inl.inj g2
  obtain ⟨a, t, n, rfl, ha, hak, h0, h1⟩ := hIsA_of g1
  have ht : t = 0 := of_decide_eq_true (show decide (t = 0) = true from hak)
  subst ht
  obtain ⟨cell, b1, b2, b3, b4, b5, b6, b7, b8⟩ := hr.2.2.2.2 a 0 n ha
  have oj := fa_hd hst
  obtain ⟨v1, v2⟩ := b8 j.toNat (by omega)
  have kk := kk H locs ls hl (fa_cons v2 (fa_tl (fa_tl hst))) hr hlo
  exact W.iald C.1 C.2.1 b1 b3 b2 (ix_in oj h0 (by have := b6.1; omega)) (by rw [ix_at oj]; exact v1) rfl rfl hd kk
theorem hK_laload (C : hCtx p s m args meth c y) : hOK ρ p l e R s m args below meth c Q K N0 E H00 y nS zS .laload := by
  intro pc len op nx d la st σ pc1 la1 st1 σ1 H locs ls hd ho hs hl hst hr hlo hn hz hc hsl hf kk
  obtain ⟨hb, he⟩ := hk1_in ho
  cases he
  have hb := of_decide_eq_true hb
  subst hb
  obtain ⟨j, r, rest, rfl, g1, g2⟩ := hs26 hs
  cases Sum.inl.inj g2
  obtain ⟨a, t, n, rfl, ha, hak, h0, h1⟩ := hIsA_of g1
  have ht : t = 3 := of_decide_eq_true (show decide (t = 3) = true from hak)
  subst ht
  obtain ⟨cell, b1, b2, b3, b4, b5, b6, b7, b8⟩ := hr.2.2.2.2 a 3 n ha
  have oj := fa_hd hst
  obtain ⟨v1, v2⟩ := b8 j.toNat (by omega)
  have kk := kk H locs ls hl (fa_cons v2 (fa_tl (fa_tl hst))) hr hlo
  exact W.lald C.1 C.2.1 b1 b3 b2 (ix_in oj h0 (by have := b6.1; omega)) (by rw [ix_at oj]; exact v1) rfl rfl hd kk
theorem hK_baload (C : hCtx p s m args meth c y) : hOK ρ p l e R s m args below meth c Q K N0 E H00 y nS zS .baload := by
  intro pc len op nx d la st σ pc1 la1 st1 σ1 H locs ls hd ho hs hl hst hr hlo hn hz hc hsl hf kk
  rcases List.mem_append.mp ho with ho | ho
  · obtain ⟨hb, he⟩ := hk1_in ho
    cases he
    have hb := of_decide_eq_true hb
    subst hb
    obtain ⟨j, r, rest, rfl, g1, g2⟩ := hs26 hs
    cases Sum.inl.inj g2
    obtain ⟨a, t, n, rfl, ha, hak, h0, h1⟩ := hIsA_of g1
    have ht : t = 1 := of_decide_eq_true (show decide (t = 1) = true from hak)
    subst ht
    obtain ⟨cell, b1, b2, b3, b4, b5, b6, b7, b8⟩ := hr.2.2.2.2 a 1 n ha
    have oj := fa_hd hst
    obtain ⟨v1, v2⟩ := b8 j.toNat (by omega)
    have kk := kk H locs ls hl (fa_cons v2 (fa_tl (fa_tl hst))) hr hlo
    exact W.bald C.1 C.2.1 b1 b3 b2 (ix_in oj h0 (by have := b6.1; omega)) (by rw [ix_at oj]; exact v1) rfl rfl hd kk
  · obtain ⟨hb, he⟩ := hk1_in ho
    cases he
    have hb := of_decide_eq_true hb
    subst hb
    obtain ⟨j, r, rest, rfl, g1, g2⟩ := hs26 hs
    cases Sum.inl.inj g2
    obtain ⟨a, t, n, rfl, ha, hak, h0, h1⟩ := hIsA_of g1
    have ht : t = 2 := of_decide_eq_true (show decide (t = 2) = true from hak)
    subst ht
    obtain ⟨cell, b1, b2, b3, b4, b5, b6, b7, b8⟩ := hr.2.2.2.2 a 2 n ha
    have oj := fa_hd hst
    obtain ⟨v1, v2⟩ := b8 j.toNat (by omega)
    have kk := kk H locs ls hl (fa_cons v2 (fa_tl (fa_tl hst))) hr hlo
    exact W.zald C.1 C.2.1 b1 b3 b2 (ix_in oj h0 (by have := b6.1; omega)) (by rw [ix_at oj]; exact v1) rfl rfl hd kk
theorem hK_aaload (C : hCtx p s m args meth c y) : hOK ρ p l e R s m args below meth c Q K N0 E H00 y nS zS .aaload := by
  intro pc len op nx d la st σ pc1 la1 st1 σ1 H locs ls hd ho hs hl hst hr hlo hn hz hc hsl hf kk
  obtain ⟨hb, he⟩ := hk1_in ho
  cases he
  have hb := of_decide_eq_true hb
  subst hb
  obtain ⟨j, r, rest, rfl, g1, g2⟩ := hs26 hs
  cases Sum.inl.inj g2
  obtain ⟨a, t, n, rfl, ha, hak, h0, h1⟩ := hIsA_of g1
  have ht : 10 ≤ t := of_decide_eq_true (show decide (10 ≤ t) = true from hak)
  obtain ⟨cell, b1, b2, b3, b4, b5, b6, b7, b8⟩ := hr.2.2.2.2 a t n ha
  have oj := fa_hd hst
  obtain ⟨v1, v2⟩ := b8 j.toNat (by omega)
  rw [show hat t = 4 from if_pos ht] at v1 v2
  have kk := kk H locs ls hl (fa_cons v2 (fa_tl (fa_tl hst))) hr hlo
  obtain ⟨q, rfl⟩ : ∃ q, t = 10 + q := ⟨t - 10, by omega⟩
  rw [hArr_ref] at b3
  exact W.aald C.1 C.2.1 b1 b3 rfl b2 (ix_in oj h0 (by have := b6.1; omega)) (by rw [ix_at oj]; exact v1) rfl rfl hd kk
theorem hK_alen (C : hCtx p s m args meth c y) : hOK ρ p l e R s m args below meth c Q K N0 E H00 y nS zS .arraylength := by
  intro pc len op nx d la st σ pc1 la1 st1 σ1 H locs ls hd ho hs hl hst hr hlo hn hz hc hsl hf kk
  obtain ⟨hb, he⟩ := hk1_in ho
  cases he
  have hb := of_decide_eq_true hb
  subst hb
  obtain ⟨r, rest, rfl, g1, g2⟩ := hs28 hs
  cases Sum.inl.inj g2
  obtain ⟨a, t, n, rfl, ha, hn2⟩ := hHas_of g1
  rw [hn2] at kk
  obtain ⟨cell, b1, b2, b3, b4, b5, b6, b7, b8⟩ := hr.2.2.2.2 a t n ha
  obtain ⟨l1, l2⟩ := cv_len b7
  have kk := kk H locs ls hl (fa_cons l2 (fa_tl hst)) hr hlo
  exact W.alen C.1 C.2.1 b1 b3 b6.2 rfl rfl hd kk
theorem hK_iastore (C : hCtx p s m args meth c y) : hOK ρ p l e R s m args below meth c Q K N0 E H00 y nS zS .iastore := by
  intro pc len op nx d la st σ pc1 la1 st1 σ1 H locs ls hd ho hs hl hst hr hlo hn hz hc hsl hf kk
  obtain ⟨hb, he⟩ := hk1_in ho
  cases he
  have hb := of_decide_eq_true hb
  subst hb
  obtain ⟨v, j, r, rest, rfl, g1, g2, g3⟩ := hs27 hs
  obtain ⟨a, t, n, rfl, ha, hak, h0, h1⟩ := hIsA_of g1
  have ht : t = 0 := of_decide_eq_true (show decide (t = 0) = true from hak)
  subst ht
  have haN : K ≤ a := g2
  obtain ⟨cell, b1, b2, b3, b4, b5, b6, b7, b8⟩ := hr.2.2.2.2 a 0 n ha
  have oj := fa_hd (fa_tl hst)
  rcases g3 with ⟨z, rfl, hz2, g4⟩ | ⟨z, rfl, hz2, g4⟩ | ⟨q, rfl, hz2, g4⟩
  · cases Sum.inl.inj g4
    refine W.iast C.1 C.2.1 b1 b3 b2 (ix_in oj h0 (by have := b6.1; omega)) rfl rfl hd fun H1 q1 q2 q3 => ?_
    rw [ix_at oj] at q1
    exact kk H1 _ ls hl (fa_tl (fa_tl (fa_tl hst))) (hst_go (σ2 := sI σ a j.toNat z) (v := vI z) hr haN ha (by omega) rfl rfl (fun b hb k => ⟨by rw [mI_sI, if_neg (fun q => hb q.1)], rfl⟩) (hld_sIs.1 (by decide) (by decide)) (fun k2 hk2 ty2 => hld_sI (fun q => hk2 q.2) ty2) (fa_hd hst) b1 q1 q2 q3) (fun q hq => (List.mem_append.mp hq).elim (hlo q) (fun h => by rw [List.mem_singleton.mp h]; exact hr.1.2.1.ge haN))
  · cases hz2
  · cases hz2
theorem hK_lastore (C : hCtx p s m args meth c y) : hOK ρ p l e R s m args below meth c Q K N0 E H00 y nS zS .lastore := by
  intro pc len op nx d la st σ pc1 la1 st1 σ1 H locs ls hd ho hs hl hst hr hlo hn hz hc hsl hf kk
  obtain ⟨hb, he⟩ := hk1_in ho
  cases he
  have hb := of_decide_eq_true hb
  subst hb
  obtain ⟨v, j, r, rest, rfl, g1, g2, g3⟩ := hs27 hs
  obtain ⟨a, t, n, rfl, ha, hak, h0, h1⟩ := hIsA_of g1
  have ht : t = 3 := of_decide_eq_true (show decide (t = 3) = true from hak)
  subst ht
  have haN : K ≤ a := g2
  obtain ⟨cell, b1, b2, b3, b4, b5, b6, b7, b8⟩ := hr.2.2.2.2 a 3 n ha
  have oj := fa_hd (fa_tl hst)
  rcases g3 with ⟨z, rfl, hz2, g4⟩ | ⟨z, rfl, hz2, g4⟩ | ⟨q, rfl, hz2, g4⟩
  · rcases hz2 with h | h | ⟨h, -⟩ <;> cases h
  · cases Sum.inl.inj g4
    refine W.last C.1 C.2.1 b1 b3 b2 (ix_in oj h0 (by have := b6.1; omega)) rfl rfl hd fun H1 q1 q2 q3 => ?_
    rw [ix_at oj] at q1
    exact kk H1 _ ls hl (fa_tl (fa_tl (fa_tl hst))) (hst_go (σ2 := sI σ a j.toNat z) (v := vL z) hr haN ha (by omega) rfl rfl (fun b hb k => ⟨by rw [mI_sI, if_neg (fun q => hb q.1)], rfl⟩) (hld_sIs.2 rfl) (fun k2 hk2 ty2 => hld_sI (fun q => hk2 q.2) ty2) (fa_hd hst) b1 q1 q2 q3) (fun q hq => (List.mem_append.mp hq).elim (hlo q) (fun h => by rw [List.mem_singleton.mp h]; exact hr.1.2.1.ge haN))
  · cases hz2
theorem hK_bastore (C : hCtx p s m args meth c y) : hOK ρ p l e R s m args below meth c Q K N0 E H00 y nS zS .bastore := by
  intro pc len op nx d la st σ pc1 la1 st1 σ1 H locs ls hd ho hs hl hst hr hlo hn hz hc hsl hf kk
  rcases List.mem_append.mp ho with ho | ho
  · obtain ⟨hb, he⟩ := hk1_in ho
    cases he
    have hb := of_decide_eq_true hb
    subst hb
    obtain ⟨v, j, r, rest, rfl, g1, g2, g3⟩ := hs27 hs
    obtain ⟨a, t, n, rfl, ha, hak, h0, h1⟩ := hIsA_of g1
    have ht : t = 1 := of_decide_eq_true (show decide (t = 1) = true from hak)
    subst ht
    have haN : K ≤ a := g2
    obtain ⟨cell, b1, b2, b3, b4, b5, b6, b7, b8⟩ := hr.2.2.2.2 a 1 n ha
    have oj := fa_hd (fa_tl hst)
    rcases g3 with ⟨z, rfl, hz2, g4⟩ | ⟨z, rfl, hz2, g4⟩ | ⟨q, rfl, hz2, g4⟩
    · cases Sum.inl.inj g4
      refine W.bast C.1 C.2.1 b1 b3 b2 (ix_in oj h0 (by have := b6.1; omega)) rfl rfl hd fun H1 q1 q2 q3 => ?_
      rw [ix_at oj, (sb8_narrow (ρ := ρ) z).1] at q1
      exact kk H1 _ ls hl (fa_tl (fa_tl (fa_tl hst))) (hst_go (σ2 := sI σ a j.toNat (sb8 z)) (v := vI (sb8 z)) hr haN ha (by omega) rfl rfl (fun b hb k => ⟨by rw [mI_sI, if_neg (fun q => hb q.1)], rfl⟩) (hld_sIs.1 (by decide) (by decide)) (fun k2 hk2 ty2 => hld_sI (fun q => hk2 q.2) ty2) (sb8_narrow (ρ := ρ) z).2 b1 q1 q2 q3) (fun q hq => (List.mem_append.mp hq).elim (hlo q) (fun h => by rw [List.mem_singleton.mp h]; exact hr.1.2.1.ge haN))
    · cases hz2
    · cases hz2
  · obtain ⟨hb, he⟩ := hk1_in ho
    cases he
    have hb := of_decide_eq_true hb
    subst hb
    obtain ⟨v, j, r, rest, rfl, g1, g2, g3⟩ := hs27 hs
    obtain ⟨a, t, n, rfl, ha, hak, h0, h1⟩ := hIsA_of g1
    have ht : t = 2 := of_decide_eq_true (show decide (t = 2) = true from hak)
    subst ht
    have haN : K ≤ a := g2
    obtain ⟨cell, b1, b2, b3, b4, b5, b6, b7, b8⟩ := hr.2.2.2.2 a 2 n ha
    have oj := fa_hd (fa_tl hst)
    rcases g3 with ⟨z, rfl, hz2, g4⟩ | ⟨z, rfl, hz2, g4⟩ | ⟨q, rfl, hz2, g4⟩
    · cases Sum.inl.inj g4
      have hz3 : h01 z = true := hz2.elim (fun h => by cases h) (fun h => h.elim (fun h => by cases h) (fun h => h.2))
      refine W.zast C.1 C.2.1 b1 b3 b2 (ix_in oj h0 (by have := b6.1; omega)) rfl rfl hd fun H1 q1 q2 q3 => ?_
      rw [ix_at oj, (h01_narrow (ρ := ρ) hz3).1] at q1
      exact kk H1 _ ls hl (fa_tl (fa_tl (fa_tl hst))) (hst_go (σ2 := sI σ a j.toNat z) (v := vI z) hr haN ha (by omega) rfl rfl (fun b hb k => ⟨by rw [mI_sI, if_neg (fun q => hb q.1)], rfl⟩) (hld_sIs.1 (by decide) (by decide)) (fun k2 hk2 ty2 => hld_sI (fun q => hk2 q.2) ty2) (fa_hd hst) b1 q1 q2 q3) (fun q hq => (List.mem_append.mp hq).elim (hlo q) (fun h => by rw [List.mem_singleton.mp h]; exact hr.1.2.1.ge haN))
    · cases hz2
    · cases hz2
theorem hK_aastore (C : hCtx p s m args meth c y) : hOK ρ p l e R s m args below meth c Q K N0 E H00 y nS zS .aastore := by
  intro pc len op nx d la st σ pc1 la1 st1 σ1 H locs ls hd ho hs hl hst hr hlo hn hz hc hsl hf kk
  obtain ⟨hb, he⟩ := hk1_in ho
  cases he
  have hb := of_decide_eq_true hb
  subst hb
  obtain ⟨v, j, r, rest, rfl, g1, g2, g3⟩ := hs27 hs
  obtain ⟨a, t, n, rfl, ha, hak, h0, h1⟩ := hIsA_of g1
  have ht : 10 ≤ t := of_decide_eq_true (show decide (10 ≤ t) = true from hak)
  have haN : K ≤ a := g2
  have hrow := hr.2.2.2.2 a t n ha
  obtain ⟨cell, b1, b2, b3, b4, b5, b6, b7, b8⟩ := hrow
  obtain ⟨kA, comp, k1, k2, k3⟩ := b5 ht
  have hat4 : hat t = 4 := if_pos ht
  have oj := fa_hd (fa_tl hst)
  rcases g3 with ⟨z, rfl, hz2, g4⟩ | ⟨z, rfl, hz2, g4⟩ | ⟨q, rfl, hz2, hfit, g4⟩
  · rcases hz2 with h | h | ⟨h, -⟩ <;> cases h
  · cases hz2
  · cases Sum.inl.inj g4
    have fin : ∀ (H1 : Heap), H1[ρ a]? = some (cell.setSlot (Int32.ofInt j).toNatClampNeg (cv ρ (vR q))) → H1.size = H.size → (∀ x, x ≠ ρ a → H1[x]? = H[x]?) → W p l e R s m args below meth c H1 (locs ++ [⟨ρ a, (Int32.ofInt j).toNatClampNeg⟩]) (σ.1 - nS) (σ.2.1 - zS) Q (F0 m (pc + 1) ls (st1.map (cv ρ))) := by
      intro H1 q1 q2 q3
      rw [ix_at oj] at q1
      exact kk H1 _ ls hl (fa_tl (fa_tl (fa_tl hst))) (hst_go (σ2 := sR σ a j.toNat q) (v := vR q) hr haN ha (by omega) rfl rfl (fun b hb k => ⟨rfl, by rw [mR_sR, if_neg (fun q => hb q.1)]⟩) (by rw [hat4]; exact hld_sRs) (fun k2 hk2 ty2 => hld_sR (fun q => hk2 q.2) ty2) trivial b1 q1 q2 q3) (fun q hq => (List.mem_append.mp hq).elim (hlo q) (fun h => by rw [List.mem_singleton.mp h]; exact hr.1.2.1.ge haN))
    rcases hFit_of ha hfit with rfl | ⟨b, rfl, hb⟩
    · obtain ⟨q, rfl⟩ : ∃ q, t = 10 + q := ⟨t - 10, by omega⟩
      rw [hArr_ref] at b3
      exact va_WaastN C.1 C.2.1 b1 b3 b2 (ix_in oj h0 (by have := b6.1; omega)) rfl rfl hd fin
    · obtain ⟨cellV, e1, e2, e3, e4, e5, e6⟩ := hr.2.2.2.1 b _ hb
      have hcomp : comp = cellV.cls := Option.some.inj (k3.symm.trans e4)
      obtain ⟨kC, hkC, -⟩ := Vm.findClass_spec e4
      have hin := ix_in (n := cell.slots.size) oj h0 (by have := b6.1; omega)
      refine W.aast C.1 C.2.1 b1 (fun q h => b3.1 q h) b2 k1 k2 rfl (by rw [hcomp]; exact hkC) ⟨fun h => hin (Or.inl h), Nat.not_le.mp (fun h => hin (Or.inr h))⟩ e1 (fun q h => by rw [h] at e3; cases e3) hkC (by rw [hcomp]; exact asg_refl) rfl rfl hd fin
theorem hK_new (C : hCtx p s m args meth c y) (k : Nat) : hOK ρ p l e R s m args below meth c Q K N0 E H00 y nS zS (.new k) := by
  intro pc len op nx d la st σ pc1 la1 st1 σ1 H locs ls hd ho hs hl hst hr hlo hn hz hc hsl hf kk
  have ho : (op, nx) ∈ ho_new y pc k len := ho
  unfold ho_new at ho
  cases e1 : hf3 hLN (hmO y) k with
  | none => rw [e1] at ho; cases ho
  | some x =>
    obtain ⟨c1, pp⟩ := x
    rw [e1] at ho
    dsimp only at ho
    cases e2 : hNew c1 with
    | none => rw [e2] at ho; cases ho
    | some w =>
      rw [e2] at ho
      obtain ⟨hb, he⟩ := hk1_in ho
      cases he
      have hb := of_decide_eq_true hb
      subst hb
      cases (show some (Sum.inl (pc + 3, la, vR (some σ.1) :: st, sN σ (Sum.inl c1) w)) = some (Sum.inl (pc1, la1, st1, σ1)) from hs)
      obtain ⟨hw1, hmade, hw3⟩ := hMin e2
      have hcl := hwalk_mem hLN_ok (List.mem_map.mpr ⟨_, hf3_in _ _ _ _ e1, rfl⟩)
      have hts := C.2.2.2.2.1
      have hc2 : σ.1 + 1 ≤ nS + R.cells := hc
      have hsl2 : σ.2.1 + w ≤ zS + R.slots := hsl
      refine W.newc C.1 C.2.1 C.2.2.2.1 (hts _ (hBig_in hcl rfl)) (hts _ (hBig_in hw1 rfl)) (hts _ (hBig_in hw3 rfl)) rfl hd (by omega) (by omega) fun cC kC hfc hkC hkind hsize => ?_
      have hr1 : hRel ρ K N0 H00 s (sN σ (Sum.inl c1) w) (H.push { cls := cC, slots := kC.instanceTypes.map defaultValue, vm := .none }) := by
        refine hr.push (fun c2 hc2 => ?_) (fun t len h => by cases h)
        cases hc2
        refine ⟨{ cls := cC, slots := kC.instanceTypes.map defaultValue, vm := .none }, by rw [hr.top, Array.getElem?_push_size], (fun h => by cases h), rfl, hfc, fun _ => rfl, fun k1 hk1 => ?_⟩
        obtain ⟨cf, kf, fi, fd, hi, hst2, hcast, hty⟩ := laid_facts hfc hkC (hV_lays hts hmade hk1)
        obtain ⟨ty, hpt, htk⟩ := hTy_of hmade hk1
        have hft : fd.type = ty := (State.fieldFound?_type hi hpt).2
        refine ⟨cf, kf, fi, fd, hi, hst2, ?_, ?_⟩
        · rw [hld_new, ← defv htk, ← hft]
          show (kC.instanceTypes.map defaultValue)[fd.slot]? = _
          rw [Array.getElem?_map, hty]
          rfl
        · rw [hld_new]
          exact okz _
      have kk := kk _ locs ls hl (fa_cons trivial hst) hr1 hlo
      rw [show (sN σ (Sum.inl c1) w).1 - nS = σ.1 - nS + 1 by show σ.1 + 1 - nS = _; omega, show (sN σ (Sum.inl c1) w).2.1 - zS = σ.2.1 - zS + w by show σ.2.1 + w - zS = _; omega] at kk
      rw [List.map_cons, show cv ρ (vR (some σ.1)) = .ref H.size by show Value.ref (ρ σ.1) = _; rw [hr.top]] at kk
      exact kk
theorem newa_size {H H00 : Heap} {σ : hM} {z t : Nat} {cA : ClassId} {dv : Value} {comp : ClassId} {kA : Class} (hr : hRel ρ K N0 H00 s σ H) (hz : z ≤ 1000000) (hkA : s.vm.classes[cA]? = some kA) (hkind : kA.kind = .array comp (hArr t)) (hcomp : 10 ≤ t → s.vm.findClass (hName (t - 10)) = some comp ∧ hArr t = .object (hName (t - 10)))
    (hdv : dv = cv ρ (if hat t = 4 then vR none else if hat t = 3 then vL 0 else vI 0)) : hRel ρ K N0 H00 s (sN σ (Sum.inr (t, z)) z) (H.push { cls := cA, slots := Array.replicate z dv, vm := .none }) := by
  refine hr.push (fun c2 h => by cases h) (fun t2 len2 h => ?_)
  cases h
  refine ⟨{ cls := cA, slots := Array.replicate z dv, vm := .none }, by rw [hr.top, Array.getElem?_push_size], (fun h => by cases h), ⟨(fun q h => by cases h), kA, hkA, comp, hkind⟩, fun _ => rfl, fun h => ⟨kA, comp, hkA, by rw [hkind, (hcomp h).2], (hcomp h).1⟩, ⟨by rw [Array.size_replicate]; exact Nat.le_refl _, by rw [Array.size_replicate]; exact (cv_len hz).1⟩, hz, fun j hj => ?_⟩
  rw [hld_new]
  refine ⟨?_, okz _⟩
  show (Array.replicate z dv)[j]? = _
  rw [Array.getElem?_replicate, if_pos hj, hdv]
theorem hK_newarray (C : hCtx p s m args meth c y) (k : ArrayType) : hOK ρ p l e R s m args below meth c Q K N0 E H00 y nS zS (.newarray k) := by
  intro pc len op nx d la st σ pc1 la1 st1 σ1 H locs ls hd ho hs hl hst hr hlo hn hz hc hsl hf kk
  obtain ⟨hb, he⟩ := hk1_in ho
  simp only [Bool.and_eq_true, decide_eq_true_eq] at hb
  obtain ⟨rfl, hb2⟩ := hb
  have fin : ∀ (ty : Nat) (FT : FieldType), newarray.typeOf k = FT → hArr ty = FT → ty < 4 → Cond.arrayClass FT ∈ lw_tbl → componentBytes FT ≤ 8 → defaultValue FT = cv ρ (if hat ty = 4 then vR none else if hat ty = 3 then vL 0 else vI 0) → (op, nx) = ((30, ty, 0, []), pc + 2) → W p l e R s m args below meth c H locs (σ.1 - nS) (σ.2.1 - zS) Q (F0 m pc ls (st.map (cv ρ))) := by
    intro ty FT hFT hty hlt hw hcb hdv he
    cases he
    obtain ⟨z, rest, rfl, g1, g2, g3⟩ := hs30 hs
    cases Sum.inl.inj g3
    have oz := fa_hd hst
    have hc2 : σ.1 + 1 ≤ nS + R.cells := hc
    have hsl2 : σ.2.1 + z.toNat ≤ zS + R.slots := hsl
    have hts := C.2.2.2.2.1
    refine W.newa C.1 C.2.1 (by rw [hFT]; exact hts _ (hBig_in hw rfl)) rfl hd rfl (fun h => absurd ((lt32 oz ok0).mp h) (by omega)) (by rw [ix_at oz, hFT]; exact Nat.le_trans (Nat.mul_le_mul (show z.toNat ≤ 1000000 by omega) hcb) (by decide)) (by omega) (by rw [ix_at oz]; omega) fun cA kA comp hfc hkA hkind => ?_
    rw [hFT] at hkind ⊢
    rw [ix_at oz]
    have kk := kk _ locs ls hl (fa_cons trivial (fa_tl hst)) (newa_size (t := ty) (z := z.toNat) (dv := defaultValue FT) hr (by omega) hkA (by rw [hty]; exact hkind) (fun h => absurd h (by omega)) hdv) hlo
    rw [show (sN σ (Sum.inr (ty, z.toNat)) z.toNat).1 - nS = σ.1 - nS + 1 by show σ.1 + 1 - nS = _; omega, show (sN σ (Sum.inr (ty, z.toNat)) z.toNat).2.1 - zS = σ.2.1 - zS + z.toNat by show σ.2.1 + z.toNat - zS = _; omega] at kk
    rw [List.map_cons, show cv ρ (vR (some σ.1)) = .ref H.size by show Value.ref (ρ σ.1) = _; rw [hr.top]] at kk
    exact kk
  cases k with
  | int => exact fin 0 .int rfl rfl (by decide) (hwalk_mem hBq_ok (List.mem_map.mpr ⟨_, (by decide : (hBp 0, 0) ∈ hBq), rfl⟩)) (by decide) rfl he
  | byte => exact fin 1 .byte rfl rfl (by decide) (hwalk_mem hBq_ok (List.mem_map.mpr ⟨_, (by decide : (hBp 1, 1) ∈ hBq), rfl⟩)) (by decide) rfl he
  | boolean => exact fin 2 .boolean rfl rfl (by decide) (hwalk_mem hBq_ok (List.mem_map.mpr ⟨_, (by decide : (hBp 2, 2) ∈ hBq), rfl⟩)) (by decide) rfl he
  | long => exact fin 3 .long rfl rfl (by decide) (hwalk_mem hBq_ok (List.mem_map.mpr ⟨_, (by decide : (hBp 3, 3) ∈ hBq), rfl⟩)) (by decide) rfl he
  | _ => exact absurd hb2 (by decide)
theorem hK_anewarray (C : hCtx p s m args meth c y) (V : hEnv ρ N0 E H00 s) (k : Nat) : hOK ρ p l e R s m args below meth c Q K N0 E H00 y nS zS (.anewarray k) := by
  intro pc len op nx d la st σ pc1 la1 st1 σ1 H locs ls hd ho hs hl hst hr hlo hn hz hc hsl hf kk
  have ho : (op, nx) ∈ ho_anewarray y pc k len := ho
  unfold ho_anewarray at ho
  cases e1 : hf3 hLN (hmO y) k with
  | none => rw [e1] at ho; cases ho
  | some x =>
    obtain ⟨c1, pp⟩ := x
    rw [e1] at ho
    obtain ⟨hb, he⟩ := hk1_in ho
    cases he
    simp only [Bool.and_eq_true, decide_eq_true_eq] at hb
    obtain ⟨rfl, hover⟩ := hb
    obtain ⟨z, rest, rfl, g1, g2, g3⟩ := hs30 hs
    cases Sum.inl.inj g3
    have oz := fa_hd hst
    have hc2 : σ.1 + 1 ≤ nS + R.cells := hc
    have hsl2 : σ.2.1 + z.toNat ≤ zS + R.slots := hsl
    have hts := C.2.2.2.2.1
    have hcl := hwalk_mem hLN_ok (List.mem_map.mpr ⟨_, hf3_in _ _ _ _ e1, rfl⟩)
    obtain ⟨q, hq, hq2⟩ := List.any_eq_true.mp hover
    have hq2 := of_decide_eq_true hq2
    have hov := V.2.2.2.1 q hq
    rw [hq2] at hov
    refine W.anew C.1 C.2.1 C.2.2.2.1 (hts _ (hBig_in hcl rfl)) (va_AO.use hov) rfl hd rfl (fun h => absurd ((lt32 oz ok0).mp h) (by omega)) (by rw [ix_at oz]; omega) (by omega) (by rw [ix_at oz]; omega) fun cA kA comp hfc hkA hkind hco => ?_
    rw [ix_at oz]
    have h10 : 10 + c1 - 10 = c1 := by omega
    have kk := kk _ locs ls hl (fa_cons trivial (fa_tl hst)) (newa_size (t := 10 + c1) (z := z.toNat) (dv := .null) hr (by omega) hkA (by rw [hArr_ref]; exact hkind) (fun h => by rw [h10, hArr_ref]; exact ⟨hco, rfl⟩) (by rw [show hat (10 + c1) = 4 from if_pos (by omega)]; rfl)) hlo
    rw [show (sN σ (Sum.inr (10 + c1, z.toNat)) z.toNat).1 - nS = σ.1 - nS + 1 by show σ.1 + 1 - nS = _; omega, show (sN σ (Sum.inr (10 + c1, z.toNat)) z.toNat).2.1 - zS = σ.2.1 - zS + z.toNat by show σ.2.1 + z.toNat - zS = _; omega] at kk
    rw [List.map_cons, show cv ρ (vR (some σ.1)) = .ref H.size by show Value.ref (ρ σ.1) = _; rw [hr.top]] at kk
    exact kk
theorem hK_objInit (C : hCtx p s m args meth c y) (k : Nat) (hsz : c.maxLocals = hmL y) {pc len nx d : Nat} {op : hOp} {la : hLs} {st : List AV} {σ : hM} {pc1 : Nat} {la1 : hLs} {st1 : List AV} {σ1 : hM} {H : Heap} {locs : List Loc} {ls : Array Slot}
    (hd : decode (hmB y) pc = .ok (.invokespecial k, len)) {x : Nat × Nat × String} (e1 : hf3 hLM (hmO y) k = some (9999, x)) (ho : (op, nx) = ((32, 0, 0, []), pc + 3)) (hlen : len = 3) (hs : hstep K E d y op nx la st σ = some (Sum.inl (pc1, la1, st1, σ1)))
    (hl : hLoc ρ ls (hmL y) la) (hst : ∀ v ∈ st, okv v) (hr : hRel ρ K N0 H00 s σ H) (hlo : ∀ q ∈ locs, N0 ≤ q.base) (hf : 1 ≤ d → 1 ≤ R.frames ∧ 20 ≤ R.locals)
    (kk : ∀ (H1 : Heap) (locs1 : List Loc) (ls1 : Array Slot), hLoc ρ ls1 (hmL y) la1 → (∀ v ∈ st1, okv v) → hRel ρ K N0 H00 s σ1 H1 → (∀ q ∈ locs1, N0 ≤ q.base) →
      W p l e R s m args below meth c H1 locs1 (σ1.1 - nS) (σ1.2.1 - zS) Q (F0 m pc1 ls1 (st1.map (cv ρ)))) :
    W p l e R s m args below meth c H locs (σ.1 - nS) (σ.2.1 - zS) Q (F0 m pc ls (st.map (cv ρ))) := by
  cases ho
  subst hlen
  obtain ⟨o, r, rfl, g1, g2, g3⟩ := hs32 hs
  cases Sum.inl.inj g3
  have hts := C.2.2.2.2.1
  have hw := hwalk_mem hLM_ok (List.mem_map.mpr ⟨_, hf3_in _ _ _ _ e1, rfl⟩)
  have hw : Cond.methodLink (hName (hmO y)) k hOb ∈ lw_tbl := hw
  obtain ⟨f1, f2⟩ := hf g1
  refine W.objInit (a := ρ o) C.1 C.2.1 C.2.2.2.1 (hts _ (hBig_in hw rfl)) (hts _ (hBig_in hObI rfl)) (hts _ (hBig_in hObC rfl)) rfl (by show ls.size = _; rw [hsz]; exact hl.1) rfl hd f1 ?_ (kk H locs ls hl (fa_tl hst) hr hlo)
  have e5 : ((st1.map (cv ρ)).map fun v => v.category).sum = (st1.map hwd).sum := by
    rw [List.map_map]
    congr 1
    exact List.map_congr_left (fun v _ => cv_cat v)
  show 2 * 0 + ((st1.map (cv ρ)).map fun v => v.category).sum + 12 ≤ _
  rw [e5]
  omega
theorem hK_gets (C : hCtx p s m args meth c y) (V : hEnv ρ N0 E H00 s) (k : Nat) : hOK ρ p l e R s m args below meth c Q K N0 E H00 y nS zS (.getstatic k) := by
  intro pc len op nx d la st σ pc1 la1 st1 σ1 H locs ls hd ho hs hl hst hr hlo hn hz hc hsl hf kk
  have ho : (op, nx) ∈ ho_getstatic y pc k len := ho
  unfold ho_getstatic at ho
  cases e1 : hf3 hLG (hmO y) k with
  | none => rw [e1] at ho; cases ho
  | some x =>
    obtain ⟨j, ns, pp, host⟩ := x
    rw [e1] at ho
    obtain ⟨hb, he⟩ := hk1_in ho
    cases he
    simp only [Bool.and_eq_true, decide_eq_true_eq] at hb
    obtain ⟨rfl, hj⟩ := hb
    cases (show some (Sum.inl (pc + 3, la, E j :: st, σ)) = some (Sum.inl (pc1, la1, st1, σ1)) from hs)
    have hw := hwalk_mem hLG_ok (List.mem_map.mpr ⟨_, hf3_in _ _ _ _ e1, rfl⟩)
    obtain ⟨cf, kf, fi, f, a, cell, h1, h2, h3, h4, h5, h6, h7, h8⟩ := V.2.2.2.2.2.1 j hj
    have kk := kk H locs ls hl (fa_cons (V.2.2.2.2.2.2 j) hst) hr hlo
    have hcell : H[a]? = some cell := by rw [hr.2.2.1 a (Nat.not_le.mp h8)]; exact h5
    by_cases hns : ns = 0
    · subst hns
      exact W.gets C.1 C.2.1 C.2.2.2.1 (C.2.2.2.2.1 _ (hBig_in (w := .fieldLink (hName (hmO y)) k (hSn j).1 (hSn j).2.1 (hSn j).2.2) hw rfl)) h1 h2 h3 h4 hcell (fun e => by rw [e] at h6; cases h6) h7 rfl hd kk
    · have hx := V.2.2.1 _ (hf3_in _ _ _ _ e1) hns
      have e2 : hwG (hmO y, k, j, ns, pp, host) = .fieldLinkNest (hName (hmO y)) k (hSn j).1 (hSn j).2.1 (hSn j).2.2 host := if_neg hns
      rw [e2] at hx
      exact va_WgetsN C.1 C.2.1 C.2.2.2.1 (va_Nw.use rfl hx) h1 h2 h3 h4 hcell (fun e => by rw [e] at h6; cases h6) h7 rfl hd kk
end HST4
end
section
/-! Calls, ends, and all of it together: what the small machine comes to, the Java machine comes to. -/
theorem hEnv.warm {ρ : Nat → Nat} {N0 : Nat} {E : Nat → AV} {H00 : Heap} {s U : State} (hW : s.WarmedH U.vm) (h : hEnv ρ N0 E H00 s) : hEnv ρ N0 E H00 U := by
  obtain ⟨h1, h2, h3, h4, h5, h6, h7⟩ := h
  refine ⟨fun q hq hn => ?_, fun q hq hn hn2 => ?_, fun q hq hn => ?_, fun q hq => va_AO.moved hW.alike (h4 q hq), fun q hq => ?_, fun j hj => (h6 j hj).moved hW.alike, h7⟩
  · have h := h1 q hq hn
    have e : hwF q = .fieldLinkNest (hName q.1) q.2.1 (hName q.2.2.1) (hFd q.2.2.1 q.2.2.2.1).1 (hFd q.2.2.1 q.2.2.2.1).2.1 q.2.2.2.2.2.2 := if_neg hn
    rw [e] at h ⊢
    exact va_Nw.warmF hW h
  · have h := h2 q hq hn hn2
    have e : hwL q = .methodLinkNest (hName q.1) q.2.1 (hmY q.2.2.1) q.2.2.2.2.2 := (if_neg hn).trans (if_neg hn2)
    rw [e] at h ⊢
    exact va_Nw.warmM hW h
  · have h := h3 q hq hn
    have e : hwG q = .fieldLinkNest (hName q.1) q.2.1 (hSn q.2.2.1).1 (hSn q.2.2.1).2.1 (hSn q.2.2.1).2.2 q.2.2.2.2.2 := if_neg hn
    rw [e] at h ⊢
    exact va_Nw.warmF hW h
  · obtain ⟨a, e, h⟩ := h5 q hq
    exact ⟨a, e, vk_R.warm hW h⟩
theorem hEnv.same {ρ : Nat → Nat} {N0 : Nat} {E : Nat → AV} {H00 : Heap} {s U : State} (hv : U.vm = s.vm) (h : hEnv ρ N0 E H00 s) : hEnv ρ N0 E H00 U := by
  obtain ⟨h1, h2, h3, h4, h5, h6, h7⟩ := h
  have ha : s.vm.Alike U.vm := by rw [hv]; exact Vm.Alike.refl _
  refine ⟨fun q hq hn => ?_, fun q hq hn hn2 => ?_, fun q hq hn => ?_, fun q hq => va_AO.moved ha (h4 q hq), fun q hq => ?_, fun j hj => (h6 j hj).moved ha, h7⟩
  · have h := h1 q hq hn
    have e : hwF q = .fieldLinkNest (hName q.1) q.2.1 (hName q.2.2.1) (hFd q.2.2.1 q.2.2.2.1).1 (hFd q.2.2.1 q.2.2.2.1).2.1 q.2.2.2.2.2.2 := if_neg hn
    rw [e] at h ⊢
    exact va_Nw.same rfl hv.symm h
  · have h := h2 q hq hn hn2
    have e : hwL q = .methodLinkNest (hName q.1) q.2.1 (hmY q.2.2.1) q.2.2.2.2.2 := (if_neg hn).trans (if_neg hn2)
    rw [e] at h ⊢
    exact va_Nw.same rfl hv.symm h
  · have h := h3 q hq hn
    have e : hwG q = .fieldLinkNest (hName q.1) q.2.1 (hSn q.2.2.1).1 (hSn q.2.2.1).2.1 (hSn q.2.2.1).2.2 q.2.2.2.2.2 := if_neg hn
    rw [e] at h ⊢
    exact va_Nw.same rfl hv.symm h
  · obtain ⟨a, e, h⟩ := h5 q hq
    exact ⟨a, e, vk_R.same hv h⟩
def hWs (y : Nat) : List Cond := Cond.code (hmY y) (hmB y) (hmL y) (hmR y) :: hBig
def hRm (d mc ms : Nat) : Room := { frames := d, cells := mc, slots := ms, locals := 40 * d }
def hPc (ρ : Nat → Nat) (K N0 : Nat) (E : Nat → AV) (H00 : Heap) (as : List AV) (σ : hM) : Array Value → State → Prop := fun a U => a = (as.map (cv ρ)).toArray ∧ (∀ v ∈ as, okv v) ∧ hRel ρ K N0 H00 U σ U.heap ∧ hEnv ρ N0 E H00 U
def hQc (ρ : Nat → Nat) (K N0 : Nat) (H00 : Heap) (r : Option AV) (σ : hM) : Array Value → State → Outcome → State → Prop := fun _ _ o t => o = .returned (r.map (cv ρ)) ∧ (∀ v ∈ r.toList, okv v) ∧ hRel ρ K N0 H00 t σ t.heap
theorem hPc_blind (ρ : Nat → Nat) (K N0 : Nat) (E : Nat → AV) (H00 : Heap) (as : List AV) (σ : hM) : FrameBlind (hPc ρ K N0 E H00 as σ) := by
  intro a U g mk h
  obtain ⟨h1, h2, h3, h4⟩ := h
  refine ⟨h1, h2, ?_, hEnv.same (s := U) rfl h4⟩
  exact hRel.moved (s := U) (s1 := U.calling g mk a) (Vm.Alike.refl _) h3
theorem hGood : GoodIn hBig hBig := fun w h => ⟨h, good_of_word (hBig_ok w h).2⟩
theorem hGoodW {y : Nat} (h : y < hNM) : GoodIn hBig (hWs y) := by
  intro w hw
  rcases List.mem_cons.mp hw with rfl | hw
  · exact ⟨hBig_in (hMw_of h).1 rfl, good_of_word rfl⟩
  · exact hGood w hw
theorem hmO_cls (y : Nat) : (hmY y).cls = hName (hmO y) := rfl
/-- sizes only grow -/
theorem hstep_mono {K d y nx : Nat} {E : Nat → AV} {op : hOp} {ls : hLs} {st : List AV} {σ : hM} {pc1 : Nat} {ls1 : hLs} {st1 : List AV} {σ1 : hM} (h : hstep K E d y op nx ls st σ = some (Sum.inl (pc1, ls1, st1, σ1))) : σ.1 ≤ σ1.1 ∧ σ.2.1 ≤ σ1.2.1 := by
  unfold hstep at h
  split at h
  all_goals (repeat' split at h)
  all_goals first
    | (cases h; done)
    | (obtain ⟨-, h2⟩ := hif_some h; cases h2; done)
    | (obtain ⟨-, h2⟩ := hif_some h; cases h2; first | exact ⟨Nat.le_refl _, Nat.le_refl _⟩ | exact ⟨Nat.le_succ _, Nat.le_add_right _ _⟩)
    | (cases h; first | exact ⟨Nat.le_refl _, Nat.le_refl _⟩ | exact ⟨Nat.le_succ _, Nat.le_add_right _ _⟩)
theorem hstep_call {K d y nx : Nat} {E : Nat → AV} {op : hOp} {ls : hLs} {st : List AV} {σ : hM} {z : hCl} (h : hstep K E d y op nx ls st σ = some (Sum.inr (Sum.inl z))) : ∃ y1 b tg, op = (31, y1, b, tg) := by
  unfold hstep at h
  split at h
  all_goals (repeat' split at h)
  all_goals first
    | exact ⟨_, _, _, rfl⟩
    | (cases h; done)
    | (obtain ⟨-, h2⟩ := hif_some h; cases h2; done)
theorem hstep_ret {K d y nx : Nat} {E : Nat → AV} {op : hOp} {ls : hLs} {st : List AV} {σ : hM} {z : Option AV} (h : hstep K E d y op nx ls st σ = some (Sum.inr (Sum.inr z))) : ∃ k b tg, op = (33, k, b, tg) := by
  unfold hstep at h
  split at h
  all_goals (repeat' split at h)
  all_goals first
    | exact ⟨_, _, _, rfl⟩
    | (cases h; done)
    | (obtain ⟨-, h2⟩ := hif_some h; cases h2; done)
theorem hx_mono (K : Nat) (E : Nat → AV) (T : Nat → Nat → Option (hOp × Nat)) : ∀ (n d y pc : Nat) (ls : hLs) (st : List AV) (σ : hM) (r : Option AV) (σ1 : hM), hx K E T n d y pc ls st σ = some (r, σ1) → σ.1 ≤ σ1.1 ∧ σ.2.1 ≤ σ1.2.1 := by
  intro n
  induction n with
  | zero => intro d y pc ls st σ r σ1 h; cases h
  | succ n ih =>
    intro d y pc ls st σ r σ1 h
    unfold hx at h
    split at h
    · cases h
    · split at h
      · cases h
      · rename_i e
        have h1 := hstep_mono e
        have h2 := ih _ _ _ _ _ _ _ _ h
        exact ⟨Nat.le_trans h1.1 h2.1, Nat.le_trans h1.2 h2.2⟩
      · split at h
        · cases h
        · split at h
          · cases h
          · rename_i e
            have h1 := ih _ _ _ _ _ _ _ _ e
            have h2 := ih _ _ _ _ _ _ _ _ h
            exact ⟨Nat.le_trans h1.1 h2.1, Nat.le_trans h1.2 h2.2⟩
      · cases h
        exact ⟨Nat.le_refl _, Nat.le_refl _⟩
theorem nar_byte {z : Int} (h1 : -128 ≤ z) (h2 : z ≤ 127) : narrow .byte (.int (Int32.ofInt z)) = .int (Int32.ofInt z) := by
  have oz : okv (vI z) := ⟨by omega, by omega⟩
  show Value.int (Int32.ofInt z).toInt8.toInt32 = Value.int (Int32.ofInt z)
  rw [show (Int32.ofInt z).toInt8.toInt32 = Int32.ofInt z from to32 (by rw [Int8.toInt_toInt32, Int32.toInt_toInt8, i32r oz]; exact Int.bmod_eq_of_le (by omega) (by omega))]
theorem nar_char {z : Int} (h1 : 0 ≤ z) (h2 : z ≤ 65535) : narrow .char (.int (Int32.ofInt z)) = .int (Int32.ofInt z) := by
  have e0 : (Int32.ofInt z).toUInt32.toNat = z.toNat := by
    show (BitVec.ofInt 32 z).toNat = _
    rw [BitVec.toNat_ofInt]
    omega
  have e : (Int32.ofInt z).toUInt32.toUInt16.toUInt32 = (Int32.ofInt z).toUInt32 := by
    apply UInt32.toNat_inj.mp
    rw [UInt16.toNat_toUInt32, UInt32.toNat_toUInt16, e0]
    omega
  show Value.int (Int32.ofInt z).toUInt32.toUInt16.toUInt32.toInt32 = _
  rw [e]
  rfl
theorem hret_no {y pc len nx k : Nat} {b : Int} {tg : List Int} {i : Instr} (h1 : i ≠ .return_) (h2 : i ≠ .lreturn) (h3 : i ≠ .areturn) (h4 : i ≠ .ireturn) : ((33, k, b, tg), nx) ∉ hops y pc i len := by
  intro ho
  cases i with
  | return_ => exact h1 rfl
  | lreturn => exact h2 rfl
  | areturn => exact h3 rfl
  | ireturn => exact h4 rfl
  | ldc j =>
    exfalso
    have ho : _ ∈ ho_ldc y pc j len := ho
    unfold ho_ldc at ho
    repeat' split at ho
    all_goals first
      | (cases ho; done)
      | (obtain ⟨-, he⟩ := hk1_in ho; cases he; done)
  | ldc_w j =>
    exfalso
    have ho : _ ∈ ho_ldc_w y pc j len := ho
    unfold ho_ldc_w at ho
    repeat' split at ho
    all_goals first
      | (cases ho; done)
      | (obtain ⟨-, he⟩ := hk1_in ho; cases he; done)
  | ldc2_w j =>
    exfalso
    have ho : _ ∈ ho_ldc2_w y pc j len := ho
    unfold ho_ldc2_w at ho
    repeat' split at ho
    all_goals first
      | (cases ho; done)
      | (obtain ⟨-, he⟩ := hk1_in ho; cases he; done)
  | getfield j =>
    exfalso
    have ho : _ ∈ ho_getfield y pc j len := ho
    unfold ho_getfield at ho
    repeat' split at ho
    all_goals first
      | (cases ho; done)
      | (obtain ⟨-, he⟩ := hk1_in ho; cases he; done)
  | putfield j =>
    exfalso
    have ho : _ ∈ ho_putfield y pc j len := ho
    unfold ho_putfield at ho
    repeat' split at ho
    all_goals first
      | (cases ho; done)
      | (obtain ⟨-, he⟩ := hk1_in ho; cases he; done)
  | new j =>
    exfalso
    have ho : _ ∈ ho_new y pc j len := ho
    unfold ho_new at ho
    repeat' split at ho
    all_goals first
      | (cases ho; done)
      | (obtain ⟨-, he⟩ := hk1_in ho; cases he; done)
  | anewarray j =>
    exfalso
    have ho : _ ∈ ho_anewarray y pc j len := ho
    unfold ho_anewarray at ho
    repeat' split at ho
    all_goals first
      | (cases ho; done)
      | (obtain ⟨-, he⟩ := hk1_in ho; cases he; done)
  | getstatic j =>
    exfalso
    have ho : _ ∈ ho_getstatic y pc j len := ho
    unfold ho_getstatic at ho
    repeat' split at ho
    all_goals first
      | (cases ho; done)
      | (obtain ⟨-, he⟩ := hk1_in ho; cases he; done)
  | invokevirtual j =>
    exfalso
    have ho : _ ∈ ho_invokevirtual y pc j len := ho
    unfold ho_invokevirtual at ho
    repeat' split at ho
    all_goals first
      | (cases ho; done)
      | (obtain ⟨-, he⟩ := hk1_in ho; cases he; done)
  | invokespecial j =>
    exfalso
    have ho : _ ∈ ho_invokespecial y pc j len := ho
    unfold ho_invokespecial at ho
    repeat' split at ho
    all_goals first
      | (cases ho; done)
      | (obtain ⟨-, he⟩ := hk1_in ho; cases he; done)
  | invokestatic j =>
    exfalso
    have ho : _ ∈ ho_invokestatic y pc j len := ho
    unfold ho_invokestatic at ho
    repeat' split at ho
    all_goals first
      | (cases ho; done)
      | (obtain ⟨-, he⟩ := hk1_in ho; cases he; done)
  | _ => first
    | exact List.not_mem_nil ho
    | (obtain ⟨-, he⟩ := hk1_in ho; cases he; done)
    | (rcases List.mem_append.mp ho with ho | ho <;> (obtain ⟨-, he⟩ := hk1_in ho; cases he))
theorem hcall_no {y pc len nx k : Nat} {b : Int} {tg : List Int} {i : Instr} (ho : ((31, k, b, tg), nx) ∈ hops y pc i len) : (∃ j, i = .invokevirtual j) ∨ (∃ j, i = .invokespecial j) ∨ ∃ j, i = .invokestatic j := by
  cases i with
  | invokevirtual j => exact Or.inl ⟨_, rfl⟩
  | invokespecial j => exact Or.inr (Or.inl ⟨_, rfl⟩)
  | invokestatic j => exact Or.inr (Or.inr ⟨_, rfl⟩)
  | ldc j =>
    exfalso
    have ho : _ ∈ ho_ldc y pc j len := ho
    unfold ho_ldc at ho
    repeat' split at ho
    all_goals first
      | (cases ho; done)
      | (obtain ⟨-, he⟩ := hk1_in ho; cases he; done)
  | ldc_w j =>
    exfalso
    have ho : _ ∈ ho_ldc_w y pc j len := ho
    unfold ho_ldc_w at ho
    repeat' split at ho
    all_goals first
      | (cases ho; done)
      | (obtain ⟨-, he⟩ := hk1_in ho; cases he; done)
  | ldc2_w j =>
    exfalso
    have ho : _ ∈ ho_ldc2_w y pc j len := ho
    unfold ho_ldc2_w at ho
    repeat' split at ho
    all_goals first
      | (cases ho; done)
      | (obtain ⟨-, he⟩ := hk1_in ho; cases he; done)
  | getfield j =>
    exfalso
    have ho : _ ∈ ho_getfield y pc j len := ho
    unfold ho_getfield at ho
    repeat' split at ho
    all_goals first
      | (cases ho; done)
      | (obtain ⟨-, he⟩ := hk1_in ho; cases he; done)
  | putfield j =>
    exfalso
    have ho : _ ∈ ho_putfield y pc j len := ho
    unfold ho_putfield at ho
    repeat' split at ho
    all_goals first
      | (cases ho; done)
      | (obtain ⟨-, he⟩ := hk1_in ho; cases he; done)
  | new j =>
    exfalso
    have ho : _ ∈ ho_new y pc j len := ho
    unfold ho_new at ho
    repeat' split at ho
    all_goals first
      | (cases ho; done)
      | (obtain ⟨-, he⟩ := hk1_in ho; cases he; done)
  | anewarray j =>
    exfalso
    have ho : _ ∈ ho_anewarray y pc j len := ho
    unfold ho_anewarray at ho
    repeat' split at ho
    all_goals first
      | (cases ho; done)
      | (obtain ⟨-, he⟩ := hk1_in ho; cases he; done)
  | getstatic j =>
    exfalso
    have ho : _ ∈ ho_getstatic y pc j len := ho
    unfold ho_getstatic at ho
    repeat' split at ho
    all_goals first
      | (cases ho; done)
      | (obtain ⟨-, he⟩ := hk1_in ho; cases he; done)
  | _ => first
    | exact absurd ho List.not_mem_nil
    | (obtain ⟨-, he⟩ := hk1_in ho; cases he; done)
    | (exfalso; rcases List.mem_append.mp ho with ho | ho <;> (obtain ⟨-, he⟩ := hk1_in ho; cases he; done))
    | (exfalso; rcases List.mem_append.mp ho with ho | ho
       · obtain ⟨-, he⟩ := hk1_in ho; cases he
       · rcases List.mem_append.mp ho with ho | ho
         · obtain ⟨-, he⟩ := hk1_in ho; cases he
         · rcases List.mem_append.mp ho with ho | ho <;> (obtain ⟨-, he⟩ := hk1_in ho; cases he))
section HFIN
variable {p : Program} {l : Launch} {e : Env} {R : Room} {s : State} {m : MethodId} {args : Array Value} {below : List Frame} {meth : Method} {c : Code} {Q : State → Prop} {ρ : Nat → Nat} {K N0 : Nat} {E : Nat → AV} {H00 : Heap} {y nS zS : Nat}
theorem hK_iinc (C : hCtx p s m args meth c y) (k : Nat) (n : Int) : hOK ρ p l e R s m args below meth c Q K N0 E H00 y nS zS (.iinc k n) := by
  intro pc len op nx d la st σ pc1 la1 st1 σ1 H locs ls hd ho hs hl hst hr hlo hn hz hc hsl hf kk
  obtain ⟨hb, he⟩ := hk1_in ho
  cases he
  simp only [Bool.and_eq_true, decide_eq_true_eq] at hb
  obtain ⟨⟨⟨rfl, hi⟩, h1⟩, h2⟩ := hb
  obtain ⟨z, g1, g2⟩ := hs5 hs
  cases Sum.inl.inj g2
  have hz2 := (hl.2.2 _ _ g1).2
  obtain ⟨q, hq⟩ := List.getElem?_of_mem ((hprs_in la 0 (0 + k, cv ρ (vI z))).mpr ⟨k, _, g1, rfl⟩)
  rw [Nat.zero_add] at hq
  exact lv_iinc C.1 C.2.1 hd hl.has hq (add32 hz2 ⟨by omega, by omega⟩) hi rfl (fun ls1 g3 => kk H locs ls1 (hl.sto1 (v := vI (w32 (z + n))) (w32_ok _) rfl g3) hst hr hlo)
theorem hK_inv31 {pc nx d : Nat} {k : Nat} {b : Int} {tg : List Int} {la : hLs} {st : List AV} {σ : hM} {x : hNx} (hs : hstep K E d y (31, k, b, tg) nx la st σ = some (Sum.inl x)) : False := by
  obtain ⟨-, -, -, -, h⟩ := hs31 hs
  cases h
theorem hK_inv33 {pc nx d : Nat} {k : Nat} {b : Int} {tg : List Int} {la : hLs} {st : List AV} {σ : hM} {x : hNx} (hs : hstep K E d y (33, k, b, tg) nx la st σ = some (Sum.inl x)) : False := by
  obtain ⟨r, h, -⟩ := hs33 hs
  cases h
theorem hK_special (C : hCtx p s m args meth c y) (hsz : c.maxLocals = hmL y) (k : Nat) : hOK ρ p l e R s m args below meth c Q K N0 E H00 y nS zS (.invokespecial k) := by
  intro pc len op nx d la st σ pc1 la1 st1 σ1 H locs ls hd ho hs hl hst hr hlo hn hz hc hsl hf kk
  have ho : (op, nx) ∈ ho_invokespecial y pc k len := ho
  unfold ho_invokespecial at ho
  cases e1 : hf3 hLM (hmO y) k with
  | none => rw [e1] at ho; cases ho
  | some x =>
    obtain ⟨y1, ns, xx⟩ := x
    rw [e1] at ho
    dsimp only at ho
    by_cases h9 : y1 = 9999
    · subst h9
      rw [if_pos rfl] at ho
      obtain ⟨hb, he⟩ := hk1_in ho
      exact hK_objInit C k hsz hd e1 he (of_decide_eq_true hb) hs hl hst hr hlo hf kk
    · rw [if_neg h9] at ho
      obtain ⟨hb, he⟩ := hk1_in ho
      cases he
      exact (hK_inv31 (pc := pc) hs).elim
theorem hK_virtual (C : hCtx p s m args meth c y) (k : Nat) : hOK ρ p l e R s m args below meth c Q K N0 E H00 y nS zS (.invokevirtual k) := by
  intro pc len op nx d la st σ pc1 la1 st1 σ1 H locs ls hd ho hs hl hst hr hlo hn hz hc hsl hf kk
  have ho : (op, nx) ∈ ho_invokevirtual y pc k len := ho
  unfold ho_invokevirtual at ho
  cases e1 : hf3 hLM (hmO y) k with
  | none => rw [e1] at ho; cases ho
  | some x =>
    obtain ⟨y1, ns, xx⟩ := x
    rw [e1] at ho
    obtain ⟨hb, he⟩ := hk1_in ho
    cases he
    exact (hK_inv31 (pc := pc) hs).elim
theorem hK_static (C : hCtx p s m args meth c y) (k : Nat) : hOK ρ p l e R s m args below meth c Q K N0 E H00 y nS zS (.invokestatic k) := by
  intro pc len op nx d la st σ pc1 la1 st1 σ1 H locs ls hd ho hs hl hst hr hlo hn hz hc hsl hf kk
  have ho : (op, nx) ∈ ho_invokestatic y pc k len := ho
  unfold ho_invokestatic at ho
  cases e1 : hf3 hLM (hmO y) k with
  | none => rw [e1] at ho; cases ho
  | some x =>
    obtain ⟨y1, ns, xx⟩ := x
    rw [e1] at ho
    obtain ⟨hb, he⟩ := hk1_in ho
    cases he
    exact (hK_inv31 (pc := pc) hs).elim
theorem hK_rets (i : Instr) (hi : ∀ pc len op nx, (op, nx) ∈ hops y pc i len → ∃ k b tg, op = (33, k, b, tg)) : hOK ρ p l e R s m args below meth c Q K N0 E H00 y nS zS i := by
  intro pc len op nx d la st σ pc1 la1 st1 σ1 H locs ls hd ho hs hl hst hr hlo hn hz hc hsl hf kk
  obtain ⟨k, b, tg, rfl⟩ := hi pc len op nx ho
  exact (hK_inv33 (pc := pc) hs).elim
theorem hop_ret : ∀ pc len op nx, (op, nx) ∈ hops y pc .return_ len → ∃ k b tg, op = (33, k, b, tg) := by
  intro pc len op nx ho
  obtain ⟨-, he⟩ := hk1_in ho
  cases he
  exact ⟨_, _, _, rfl⟩
theorem hop_lret : ∀ pc len op nx, (op, nx) ∈ hops y pc .lreturn len → ∃ k b tg, op = (33, k, b, tg) := by
  intro pc len op nx ho
  obtain ⟨-, he⟩ := hk1_in ho
  cases he
  exact ⟨_, _, _, rfl⟩
theorem hop_aret : ∀ pc len op nx, (op, nx) ∈ hops y pc .areturn len → ∃ k b tg, op = (33, k, b, tg) := by
  intro pc len op nx ho
  obtain ⟨-, he⟩ := hk1_in ho
  cases he
  exact ⟨_, _, _, rfl⟩
theorem hop_iret : ∀ pc len op nx, (op, nx) ∈ hops y pc .ireturn len → ∃ k b tg, op = (33, k, b, tg) := by
  intro pc len op nx ho
  have ho : (op, nx) ∈ hk1 (decide (len = 1) && decide (hmR y = some .int)) (33, 1, 0, []) (pc + 1) ++ (hk1 (decide (len = 1) && decide (hmR y = some .boolean)) (33, 2, 0, []) (pc + 1) ++
      (hk1 (decide (len = 1) && decide (hmR y = some .byte)) (33, 5, 0, []) (pc + 1) ++ hk1 (decide (len = 1) && decide (hmR y = some .char)) (33, 6, 0, []) (pc + 1))) := ho
  rcases List.mem_append.mp ho with ho | ho
  · obtain ⟨-, he⟩ := hk1_in ho
    cases he
    exact ⟨_, _, _, rfl⟩
  · rcases List.mem_append.mp ho with ho | ho
    · obtain ⟨-, he⟩ := hk1_in ho
      cases he
      exact ⟨_, _, _, rfl⟩
    · rcases List.mem_append.mp ho with ho | ho
      · obtain ⟨-, he⟩ := hk1_in ho
        cases he
        exact ⟨_, _, _, rfl⟩
      · obtain ⟨-, he⟩ := hk1_in ho
        cases he
        exact ⟨_, _, _, rfl⟩
theorem hOK_all (C : hCtx p s m args meth c y) (V : hEnv ρ N0 E H00 s) (hsz : c.maxLocals = hmL y) (i : Instr) : hOK ρ p l e R s m args below meth c Q K N0 E H00 y nS zS i := by
  cases i with
  | iconst n => exact hK_iconst C n
  | bipush n => exact hK_bipush C n
  | sipush n => exact hK_sipush C n
  | lconst n => exact hK_lconst C n
  | iload_n k => exact hK_iload_n C k
  | iload k => exact hK_iload C k
  | lload_n k => exact hK_lload_n C k
  | lload k => exact hK_lload C k
  | aload_n k => exact hK_aload_n C k
  | aload k => exact hK_aload C k
  | istore_n k => exact hK_istore_n C k
  | istore k => exact hK_istore C k
  | lstore_n k => exact hK_lstore_n C k
  | lstore k => exact hK_lstore C k
  | astore_n k => exact hK_astore_n C k
  | astore k => exact hK_astore C k
  | iinc k n => exact hK_iinc C k n
  | iadd => exact hK_iadd C 
  | isub => exact hK_isub C 
  | imul => exact hK_imul C 
  | idiv => exact hK_idiv C 
  | irem => exact hK_irem C 
  | iand => exact hK_iand C 
  | ior => exact hK_ior C 
  | ixor => exact hK_ixor C 
  | ishl => exact hK_ishl C 
  | ishr => exact hK_ishr C 
  | ladd => exact hK_ladd C 
  | lsub => exact hK_lsub C 
  | lmul => exact hK_lmul C 
  | ldiv => exact hK_ldiv C 
  | lrem => exact hK_lrem C 
  | land => exact hK_land C 
  | lor => exact hK_lor C 
  | lxor => exact hK_lxor C 
  | lshl => exact hK_lshl C 
  | lshr => exact hK_lshr C 
  | ineg => exact hK_ineg C 
  | i2l => exact hK_i2l C 
  | l2i => exact hK_l2i C 
  | i2b => exact hK_i2b C 
  | i2c => exact hK_i2c C 
  | lcmp => exact hK_lcmp C 
  | dup => exact hK_dup C 
  | pop => exact hK_pop C 
  | dup2 => exact hK_dup2 C 
  | pop2 => exact hK_pop2 C 
  | ifnull k => exact hK_ifnull C k
  | ifnonnull k => exact hK_ifnonnull C k
  | iaload => exact hK_iaload C 
  | laload => exact hK_laload C 
  | baload => exact hK_baload C 
  | aaload => exact hK_aaload C 
  | iastore => exact hK_iastore C 
  | lastore => exact hK_lastore C 
  | bastore => exact hK_bastore C 
  | aastore => exact hK_aastore C 
  | putfield k => exact hK_putfield C k
  | new k => exact hK_new C k
  | newarray k => exact hK_newarray C k
  | ldc2_w k => exact hK_ldc2 C k
  | ldc k => exact hK_ldc C V k
  | ldc_w k => exact hK_ldcw C V k
  | aconst_null => exact hK_null C
  | ifCond cd off => exact hK_ifC C cd off
  | if_icmp cd off => exact hK_icmp C cd off
  | if_acmp cd off => exact hK_acmp C cd off
  | goto off => exact hK_goto C off
  | tableswitch a b c1 d => exact hK_tsw C a b c1 d
  | getfield k => exact hK_getfield C V k
  | arraylength => exact hK_alen C
  | anewarray k => exact hK_anewarray C V k
  | getstatic k => exact hK_gets C V k
  | invokevirtual k => exact hK_virtual C k
  | invokespecial k => exact hK_special C hsz k
  | invokestatic k => exact hK_static C k
  | return_ => exact hK_rets _ hop_ret
  | ireturn => exact hK_rets _ hop_iret
  | lreturn => exact hK_rets _ hop_lret
  | areturn => exact hK_rets _ hop_aret
  | _ =>
    intro pc len op nx d la st σ pc1 la1 st1 σ1 H locs ls hd ho
    exact absurd ho List.not_mem_nil
theorem hcall_go {cells slots mc ms pc : Nat} {H : Heap} {locs : List Loc} {ls : Array Slot} {st0 rest : List Value} {r : Option AV} {σ1 : hM} (hr : va_Run p l e R s m args below meth c H locs cells slots mc ms (F0 m pc ls st0) rest (fun _ o t => o = .returned (r.map (cv ρ)) ∧ (∀ v ∈ r.toList, okv v) ∧ hRel ρ K N0 H00 t σ1 t.heap) (fun q => N0 ≤ q)) (hlo : ∀ q ∈ locs, N0 ≤ q.base)
    (kk : ∀ (H1 : Heap) (locs1 : List Loc), (∀ v ∈ r.toList, okv v) → hRel ρ K N0 H00 s σ1 H1 → (∀ q ∈ locs1, N0 ≤ q.base) → W p l e R s m args below meth c H1 locs1 (cells + mc) (slots + ms) Q (F0 m (pc + 3) ls ((r.map (cv ρ)).toList ++ rest))) : W p l e R s m args below meth c H locs cells slots Q (F0 m pc ls st0) := by
  intro T hT X
  obtain ⟨v, st₀, t, T', L, h0, X', hL, e1, e2, ⟨hv, hokr, hrel⟩, st⟩ := hr T hT X
  have hv : v = r.map (cv ρ) := by injection hv
  subst hv
  obtain ⟨t2, a1, b1⟩ := kk T'.heap (locs ++ L) hokr (by rw [e1]; exact hrel.moved (by rw [← e2]; exact X'.warmed.alike.symm)) (fun q hq => (List.mem_append.mp hq).elim (hlo q) (hL q)) T' rfl X'
  exact ⟨t2, st t2 a1, b1⟩
/-- the three ends of a method -/
theorem hK_ret (C : hCtx p s m args meth c y) (hR : meth.sig.returnType = hmR y) (hlocks : meth.locks = false) {i : Instr} {pc len nx d k : Nat} {b : Int} {tg : List Int} {la : hLs} {st : List AV} {σ : hM} {r : Option AV} {Qc : Array Value → State → Outcome → State → Prop} {free : Addr → Prop} {H : Heap} {locs : List Loc} {ls : Array Slot} {cells slots : Nat}
    (hd : decode (hmB y) pc = .ok (i, len)) (ho : ((33, k, b, tg), nx) ∈ hops y pc i len) (hs : hstep K E d y (33, k, b, tg) nx la st σ = some (Sum.inr (Sum.inr r)))
    (hq : ∀ t : State, t.heap = H → s.WarmedH t.vm → Qc args s (.returned (r.map (cv ρ))) t) (hf : ∀ q ∈ locs, free q.base) :
    W p l e R s m args below meth c H locs cells slots (MQ below Qc args s cells slots free) (F0 m pc ls (st.map (cv ρ))) := by
  obtain ⟨r', h1, hst, h3⟩ := hs33 hs
  cases Sum.inr.inj (Sum.inr.inj h1)
  subst hst
  cases i with
  | return_ =>
    obtain ⟨hb, he⟩ := hk1_in ho
    cases he
    simp only [Bool.and_eq_true, decide_eq_true_eq] at hb
    obtain ⟨rfl, hb⟩ := hb
    rcases h3 with ⟨rfl, -⟩ | ⟨z, rfl, h | ⟨h, -⟩ | ⟨h, -⟩ | ⟨h, -⟩⟩ | ⟨z, rfl, h⟩ | ⟨q, rfl, h⟩
    · exact W.vret C.1 C.2.1 (hR.trans hb) hq hf hd hlocks
    all_goals cases h
  | lreturn =>
    obtain ⟨hb, he⟩ := hk1_in ho
    cases he
    simp only [Bool.and_eq_true, decide_eq_true_eq] at hb
    obtain ⟨rfl, hb⟩ := hb
    rcases h3 with ⟨rfl, h⟩ | ⟨z, rfl, h | ⟨h, -⟩ | ⟨h, -⟩ | ⟨h, -⟩⟩ | ⟨z, rfl, -⟩ | ⟨q, rfl, h⟩
    · cases h
    · cases h
    · cases h
    · cases h
    · cases h
    · exact W.lret C.1 C.2.1 (hR.trans hb) hq hf hd hlocks
    · cases h
  | areturn =>
    obtain ⟨hb, he⟩ := hk1_in ho
    cases he
    simp only [Bool.and_eq_true, decide_eq_true_eq] at hb
    obtain ⟨rfl, hb⟩ := hb
    rcases h3 with ⟨rfl, h⟩ | ⟨z, rfl, h | ⟨h, -⟩ | ⟨h, -⟩ | ⟨h, -⟩⟩ | ⟨z, rfl, h⟩ | ⟨q, rfl, -⟩
    · cases h
    · cases h
    · cases h
    · cases h
    · cases h
    · cases h
    · have hty : ∃ rt, hmR y = some rt ∧ ((∃ n, rt = .object n) ∨ ∃ t, rt = .array t) := by
        split at hb
        · rename_i n e1; exact ⟨_, e1, Or.inl ⟨_, rfl⟩⟩
        · rename_i n e1; exact ⟨_, e1, Or.inr ⟨_, rfl⟩⟩
        · cases hb
      obtain ⟨rt, e1, e2⟩ := hty
      exact W.aret C.1 C.2.1 (hR.trans e1) e2 (by cases q; exact Or.inl rfl; exact Or.inr ⟨_, rfl⟩) hq hf hd hlocks
  | ireturn =>
    have ho : ((33, k, b, tg), nx) ∈ hk1 (decide (len = 1) && decide (hmR y = some .int)) (33, 1, 0, []) (pc + 1) ++ (hk1 (decide (len = 1) && decide (hmR y = some .boolean)) (33, 2, 0, []) (pc + 1) ++
        (hk1 (decide (len = 1) && decide (hmR y = some .byte)) (33, 5, 0, []) (pc + 1) ++ hk1 (decide (len = 1) && decide (hmR y = some .char)) (33, 6, 0, []) (pc + 1))) := ho
    have key : ∀ ty : FieldType, len = 1 → hmR y = some ty → (∀ z, r = some (vI z) → narrow ty (.int (Int32.ofInt z)) = .int (Int32.ofInt z)) → (∃ z, r = some (vI z)) → W p l e R s m args below meth c H locs cells slots (MQ below Qc args s cells slots free) (F0 m pc ls (r.toList.map (cv ρ))) := by
      intro ty hlen hty hnar hz
      subst hlen
      obtain ⟨z, rfl⟩ := hz
      exact W.zret C.1 C.2.1 (hR.trans hty) (hnar z rfl) hq hf hd hlocks
    rcases List.mem_append.mp ho with ho | ho
    · obtain ⟨hb, he⟩ := hk1_in ho
      cases he
      simp only [Bool.and_eq_true, decide_eq_true_eq] at hb
      rcases h3 with ⟨rfl, h⟩ | ⟨z, rfl, -⟩ | ⟨z, rfl, h⟩ | ⟨q, rfl, h⟩
      · cases h
      · exact key .int hb.1 hb.2 (fun z _ => rfl) ⟨z, rfl⟩
      · cases h
      · cases h
    · rcases List.mem_append.mp ho with ho | ho
      · obtain ⟨hb, he⟩ := hk1_in ho
        cases he
        simp only [Bool.and_eq_true, decide_eq_true_eq] at hb
        rcases h3 with ⟨rfl, h⟩ | ⟨z, rfl, h | ⟨-, h⟩ | ⟨h, -⟩ | ⟨h, -⟩⟩ | ⟨z, rfl, h⟩ | ⟨q, rfl, h⟩
        · cases h
        · cases h
        · exact key .boolean hb.1 hb.2 (fun z' e => by cases e; exact (h01_narrow (ρ := ρ) h).1) ⟨z, rfl⟩
        · cases h
        · cases h
        · cases h
        · cases h
      · rcases List.mem_append.mp ho with ho | ho
        · obtain ⟨hb, he⟩ := hk1_in ho
          cases he
          simp only [Bool.and_eq_true, decide_eq_true_eq] at hb
          rcases h3 with ⟨rfl, h⟩ | ⟨z, rfl, h | ⟨h, -⟩ | ⟨-, h⟩ | ⟨h, -⟩⟩ | ⟨z, rfl, h⟩ | ⟨q, rfl, h⟩
          · cases h
          · cases h
          · cases h
          · exact key .byte hb.1 hb.2 (fun z' e => by cases e; exact nar_byte h.1 h.2) ⟨z, rfl⟩
          · cases h
          · cases h
          · cases h
        · obtain ⟨hb, he⟩ := hk1_in ho
          cases he
          simp only [Bool.and_eq_true, decide_eq_true_eq] at hb
          rcases h3 with ⟨rfl, h⟩ | ⟨z, rfl, h | ⟨h, -⟩ | ⟨h, -⟩ | ⟨-, h⟩⟩ | ⟨z, rfl, h⟩ | ⟨q, rfl, h⟩
          · cases h
          · cases h
          · cases h
          · cases h
          · exact key .char hb.1 hb.2 (fun z' e => by cases e; exact nar_char h.1 h.2) ⟨z, rfl⟩
          · cases h
          · cases h
  | _ => exact absurd ho (hret_no (by intro h; cases h) (by intro h; cases h) (by intro h; cases h) (by intro h; cases h))
end HFIN
end
section
/-! Whatever the small machine comes to, the Java machine comes to: by induction on the small machine's steps. -/
theorem hmF {y : Nat} (h : y < hNM) : ((hmY y).cls ≠ "java/lang/invoke/MethodHandle" ∧ (hmY y).cls ≠ "java/lang/invoke/VarHandle") ∧ plainFor (hmY y) = true ∧ (parseMethodDescriptor (hmY y).desc).map (fun d => d.parameters.length) = some (hmN y - (if hmK y = 0 then 0 else 1)) ∧ hmL y ≤ 17 ∧ (hmK y = 0 ∨ 1 ≤ hmN y) ∧
    (hmK y ≤ 1 ∨ (hmY y).name = "<init>" ∧ hmR y = none ∧ hmK y = 2) := by
  have h1 := List.all_eq_true.mp hmOk1_all y (List.mem_range.mpr h)
  have h2 := List.all_eq_true.mp hmOk2_all y (List.mem_range.mpr h)
  have h3 := List.all_eq_true.mp hmOk3_all y (List.mem_range.mpr h)
  unfold hmOk1 at h1
  unfold hmOk2 at h2
  unfold hmOk3 at h3
  simp only [Bool.and_eq_true, Bool.or_eq_true, decide_eq_true_eq] at h1 h2 h3
  exact ⟨⟨h1.1.1, h1.1.2⟩, h1.2, h2.1.1, h2.1.2, h2.2, h3.1.imp id (fun q => ⟨q.1.1, q.1.2, q.2⟩)⟩
theorem opt_map {ρ : Nat → Nat} (r : Option AV) : r.toList.map (cv ρ) = (r.map (cv ρ)).toList := by cases r <;> rfl
theorem hmC_word {y : Nat} (h : y < hNM) : Cond.code (hmY y) (hmB y) (hmL y) (hmR y) ∈ lw_tbl := (hMw_of h).1
theorem hmS_word {y : Nat} (h : y < hNM) (hk : hmK y = 0) : Cond.static (hmY y) ∈ lw_tbl := by
  have h1 := (hMw_of h).2.2.1
  have e : hwM y 2 = .static (hmY y) := if_pos hk
  rw [e] at h1
  exact h1
theorem hmI_word {y : Nat} (h : y < hNM) (hk : hmK y ≠ 0) : Cond.instanceMethod (hmY y) ∈ lw_tbl := by
  have h1 := (hMw_of h).2.2.1
  have e : hwM y 2 = .instanceMethod (hmY y) := if_neg hk
  rw [e] at h1
  exact h1
theorem hmV_word {y : Nat} (h : y < hNM) (hk : hmK y = 1) : Cond.selects (hName (hmO y)) (hmY y) (hmY y) ∈ lw_tbl := (hMw_of h).2.2.2 hk
theorem hLM_word {o k y1 ns pp : Nat} {host : String} (e : hf3 hLM o k = some (y1, ns, pp, host)) : hwL (o, k, y1, ns, pp, host) ∈ lw_tbl := hwalk_mem hLM_ok (List.mem_map.mpr ⟨_, hf3_in _ _ _ _ e, rfl⟩)
section HBODY
variable {p : Program} {l : Launch} {e : Env} {R : Room} {s : State} {m : MethodId} {args : Array Value} {below : List Frame} {meth : Method} {c : Code} {Q : State → Prop} {ρ : Nat → Nat} {K N0 : Nat} {E : Nat → AV} {H00 : Heap} {y nS zS : Nat}
theorem hx_call (C : hCtx p s m args meth c y) (V : hEnv ρ N0 E H00 s) (hsz : c.maxLocals = hmL y) {i : Instr} {pc len nx d1 y1 : Nat} {b : Int} {tg : List Int} {la : hLs} {st : List AV} {σ σ2 : hM} {r : Option AV} {y2 : Nat} {as : List AV} {pc1 : Nat} {la1 : hLs} {st1 : List AV} {H : Heap} {locs : List Loc} {ls : Array Slot}
    (hd : decode (hmB y) pc = .ok (i, len)) (ho : ((31, y1, b, tg), nx) ∈ hops y pc i len) (hs : hstep K E (d1 + 1) y (31, y1, b, tg) nx la st σ = some (Sum.inr (Sum.inl (y2, as, pc1, la1, st1))))
    (hM : y2 < hNM → as.length = hmN y2 → (hent as).length ≤ hmL y2 → Met l (hmY y2) (hWs y2) (hRm d1 (σ2.1 - σ.1) (σ2.2.1 - σ.2.1)) (hPc ρ K N0 E H00 as σ) (hQc ρ K N0 H00 r σ2) (σ2.1 - σ.1) (σ2.2.1 - σ.2.1) (fun q => N0 ≤ q))
    (hst : ∀ v ∈ st, okv v) (hl : hLoc ρ ls (hmL y) la) (hr : hRel ρ K N0 H00 s σ H) (hlo : ∀ q ∈ locs, N0 ≤ q.base) (hRf : d1 + 1 ≤ R.frames) (hRl : 40 * (d1 + 1) ≤ R.locals) (hc : σ.1 - nS + (σ2.1 - σ.1) ≤ R.cells) (hz : σ.2.1 - zS + (σ2.2.1 - σ.2.1) ≤ R.slots)
    (kk : ∀ (H1 : Heap) (locs1 : List Loc), (∀ v ∈ r.toList, okv v) → hRel ρ K N0 H00 s σ2 H1 → (∀ q ∈ locs1, N0 ≤ q.base) → W p l e R s m args below meth c H1 locs1 (σ.1 - nS + (σ2.1 - σ.1)) (σ.2.1 - zS + (σ2.2.1 - σ.2.1)) Q (F0 m pc1 ls ((r.map (cv ρ)).toList ++ st1.map (cv ρ)))) :
    W p l e R s m args below meth c H locs (σ.1 - nS) (σ.2.1 - zS) Q (F0 m pc ls (st.map (cv ρ))) := by
  obtain ⟨g1, g2, g3, g4, g5⟩ := hs31 hs
  have g5 := Sum.inl.inj (Sum.inr.inj g5)
  simp only [Prod.mk.injEq] at g5
  obtain ⟨rfl, rfl, rfl, rfl, rfl⟩ := g5
  have hlen : ((st.take (hmN y2)).reverse).length = hmN y2 := by rw [List.length_reverse, List.length_take]; omega
  have hts := C.2.2.2.2.1
  have hargs : ∀ v ∈ (st.take (hmN y2)).reverse, okv v := fun v hv => hst v (List.mem_of_mem_take (List.mem_reverse.mp hv))
  have hstk : st.map (cv ρ) = (((st.take (hmN y2)).reverse).map (cv ρ)).reverse ++ (st.drop (hmN y2)).map (cv ρ) := by
    rw [← List.map_reverse, List.reverse_reverse, ← List.map_append, List.take_append_drop]
  have hPre : ∀ U : State, U.heap = H → s.WarmedH U.vm → hPc ρ K N0 E H00 (st.take (hmN y2)).reverse σ (((st.take (hmN y2)).reverse).map (cv ρ)).toArray U := fun U hU hW => ⟨rfl, hargs, by rw [hU]; exact hr.moved hW.alike, V.warm hW⟩
  have hcat : 2 * 0 + (((st.drop (hmN y2)).map (cv ρ)).map fun v => v.category).sum ≤ 8 := by
    have e5 : (((st.drop (hmN y2)).map (cv ρ)).map fun v => v.category).sum = ((st.drop (hmN y2)).map hwd).sum := by
      rw [List.map_map]
      congr 1
      exact List.map_congr_left (fun v _ => cv_cat v)
    rw [e5]
    omega
  have hS : CallFix p m c (hmB y) (hmL y) s args hBig (hName (hmO y)) := ⟨C.1, C.2.1, hsz, C.2.2.2.1, hts⟩
  have hlsz : (F0 m pc ls (st.map (cv ρ))).locals.size = hmL y := hl.1
  generalize has : (st.take (hmN y2)).reverse = as at hlen hargs hstk hPre hM g3 g4
  have hinst : ∀ (hk : hmK y2 ≠ 0), ∃ (a : Nat) (as' : List AV), as = vR (some a) :: as' ∧ (∃ cellB : Cell, H[ρ a]? = some cellB ∧ cellB.vm.isStatics = false ∧ s.vm.findClass (hName (hmO y2)) = some cellB.cls) := by
    intro hk
    rcases g4 with h | ⟨r0, as', e1, h⟩
    · exact absurd h hk
    · obtain ⟨a, rfl, ha⟩ := hIsO_of h
      obtain ⟨cell, b1, b2, b3, b4, -⟩ := hr.2.2.2.1 a _ ha
      exact ⟨a, as', e1, cell, b1, b3, b4⟩
  rcases hcall_no ho with ⟨k, rfl⟩ | ⟨k, rfl⟩ | ⟨k, rfl⟩
  · have ho : ((31, y2, b, tg), pc1) ∈ ho_invokevirtual y pc k len := ho
    unfold ho_invokevirtual at ho
    cases e1 : hf3 hLM (hmO y) k with
    | none => rw [e1] at ho; cases ho
    | some x =>
      obtain ⟨y3, ns, pp, host⟩ := x
      rw [e1] at ho
      obtain ⟨hb, he⟩ := hk1_in ho
      cases he
      simp only [Bool.and_eq_true, decide_eq_true_eq] at hb
      obtain ⟨⟨⟨rfl, rfl⟩, hy⟩, hk⟩ := hb
      obtain ⟨f1, f2, f3, f4, f5, f6⟩ := hmF hy
      obtain ⟨a, as', rfl, hcell⟩ := hinst (by omega)
      have hlink : Cond.methodLink (hName (hmO y)) k (hmY y2) ∈ lw_tbl := by
        have h := hLM_word e1
        have e : hwL (hmO y, k, y2, 0, pp, host) = .methodLink (hName (hmO y)) k (hmY y2) := (if_neg (show ¬ y2 = 9999 by have h0 : hNM < 9999 := (by decide); omega)).trans (if_pos rfl)
        rw [e] at h
        exact h
      have cw : CallW R s args (hName (hmO y)) (hName (hmO y2)) k (hmY y2) (hmB y2) (hmL y2) (hmR y2) (hWs y2) (hRm d1 (σ2.1 - σ.1) (σ2.2.1 - σ.2.1)) (σ2.1 - σ.1) (σ2.2.1 - σ.2.1) (hmN y2 - 1) :=
        ⟨callB_of (hmN y2 - 1) hts (hGoodW hy) rfl rfl rfl (hts _ (hBig_in (hMw_of hy).2.1 rfl)) (hts _ (hBig_in hlink rfl)) ⟨f1.1, f1.2, by rw [f3, hk]; rfl⟩ ⟨hRf, by show 8 + (hmL y2 + 11) + 40 * d1 ≤ _; omega⟩, hts _ (hBig_in (hmI_word hy (by omega)) rfl), hts _ (hBig_in (hmV_word hy hk) rfl)⟩
      exact hcall_go (va_runV hS (hM hy hlen g3) cw ⟨hPc_blind _ _ _ _ _ _ _, hcell, hPre⟩ rfl (As := as'.map (cv ρ)) (by rw [List.length_map]; simp only [List.length_cons] at hlen; omega) hlsz (by rw [show (F0 m pc ls (st.map (cv ρ))).stack = st.map (cv ρ) from rfl, hstk]; simp [va_rf, cv]) hcat hd ⟨hc, hz⟩) hlo kk
  · have ho : ((31, y2, b, tg), pc1) ∈ ho_invokespecial y pc k len := ho
    unfold ho_invokespecial at ho
    cases e1 : hf3 hLM (hmO y) k with
    | none => rw [e1] at ho; cases ho
    | some x =>
      obtain ⟨y3, ns, pp, host⟩ := x
      rw [e1] at ho
      dsimp only at ho
      by_cases h9 : y3 = 9999
      · rw [if_pos h9] at ho
        obtain ⟨hb, he⟩ := hk1_in ho
        cases he
      · rw [if_neg h9] at ho
        obtain ⟨hb, he⟩ := hk1_in ho
        cases he
        simp only [Bool.and_eq_true, decide_eq_true_eq] at hb
        obtain ⟨⟨rfl, hy⟩, hk⟩ := hb
        obtain ⟨f1, f2, f3, f4, f5, f6⟩ := hmF hy
        have f6 := f6.resolve_left (by omega)
        obtain ⟨a, as', rfl, hcell⟩ := hinst (by omega)
        have hcode : hWs y2 = Cond.code (hmY y2) (hmB y2) (hmL y2) none :: hBig := by unfold hWs; rw [f6.2.1]
        have hnn : as'.length = hmN y2 - 1 := by simp only [List.length_cons] at hlen; omega
        by_cases hns : ns = 0
        · subst hns
          have hlink : Cond.methodLink (hName (hmO y)) k (hmY y2) ∈ lw_tbl := by
            have h := hLM_word e1
            have e : hwL (hmO y, k, y2, 0, pp, host) = .methodLink (hName (hmO y)) k (hmY y2) := (if_neg h9).trans (if_pos rfl)
            rw [e] at h
            exact h
          exact hcall_go (va_runI hS (hM hy hlen g3) ⟨callB_of (hmN y2 - 1) hts (hGoodW hy) hcode rfl rfl (hts _ (hBig_in (hMw_of hy).2.1 rfl)) (hts _ (hBig_in hlink rfl)) ⟨f1.1, f1.2, by rw [f3, hk]; rfl⟩ ⟨hRf, by show 8 + (hmL y2 + 11) + 40 * d1 ≤ _; omega⟩, f6.1, hts _ (hBig_in (hmI_word hy (by omega)) rfl)⟩
            ⟨hPc_blind _ _ _ _ _ _ _, hPre⟩ rfl (As := as'.map (cv ρ)) (by rw [List.length_map]; exact hnn) hlsz (by rw [show (F0 m pc ls (st.map (cv ρ))).stack = st.map (cv ρ) from rfl, hstk]; simp [va_rf, cv]) hcat hd ⟨hc, hz⟩) hlo kk
        · have hlink : va_Nw (.methodLinkNest (hName (hmO y)) k (hmY y2) host) s := by
            have h := V.2.1 _ (hf3_in _ _ _ _ e1) h9 hns
            have e : hwL (hmO y, k, y2, ns, pp, host) = .methodLinkNest (hName (hmO y)) k (hmY y2) host := (if_neg h9).trans (if_neg hns)
            rw [e] at h
            exact h
          exact hcall_go (va_runIN hS (hM hy hlen g3) ⟨va_cnB (hmN y2 - 1) hts (hGoodW hy) hcode rfl rfl hlink (hts _ (hBig_in (hMw_of hy).2.1 rfl)) ⟨f1.1, f1.2, by rw [f3, hk]; rfl⟩ ⟨hRf, by show 8 + (hmL y2 + 11) + 40 * d1 ≤ _; omega⟩, f6.1, hts _ (hBig_in (hmI_word hy (by omega)) rfl)⟩
            ⟨hPc_blind _ _ _ _ _ _ _, hPre⟩ rfl (As := as'.map (cv ρ)) (by rw [List.length_map]; exact hnn) hlsz (by rw [show (F0 m pc ls (st.map (cv ρ))).stack = st.map (cv ρ) from rfl, hstk]; simp [va_rf, cv]) hcat hd ⟨hc, hz⟩) hlo kk
  · have ho : ((31, y2, b, tg), pc1) ∈ ho_invokestatic y pc k len := ho
    unfold ho_invokestatic at ho
    cases e1 : hf3 hLM (hmO y) k with
    | none => rw [e1] at ho; cases ho
    | some x =>
      obtain ⟨y3, ns, pp, host⟩ := x
      rw [e1] at ho
      obtain ⟨hb, he⟩ := hk1_in ho
      cases he
      simp only [Bool.and_eq_true, decide_eq_true_eq] at hb
      obtain ⟨⟨rfl, hy⟩, hk⟩ := hb
      obtain ⟨f1, f2, f3, f4, f5, f6⟩ := hmF hy
      have h9 : ¬ y2 = 9999 := by have : hNM < 9999 := by decide
                                  omega
      have hnn : (as.map (cv ρ)).length = hmN y2 - 0 := by rw [List.length_map]; omega
      by_cases hns : ns = 0
      · subst hns
        have hlink : Cond.methodLink (hName (hmO y)) k (hmY y2) ∈ lw_tbl := by
          have h := hLM_word e1
          have e : hwL (hmO y, k, y2, 0, pp, host) = .methodLink (hName (hmO y)) k (hmY y2) := (if_neg h9).trans (if_pos rfl)
          rw [e] at h
          exact h
        exact hcall_go (va_runS hS (hM hy hlen g3) ⟨callB_of (hmN y2 - 0) hts (hGoodW hy) rfl rfl rfl (hts _ (hBig_in (hMw_of hy).2.1 rfl)) (hts _ (hBig_in hlink rfl)) ⟨f1.1, f1.2, by rw [f3, hk]; rfl⟩ ⟨hRf, by show 8 + (hmL y2 + 11) + 40 * d1 ≤ _; omega⟩, hts _ (hBig_in (hmS_word hy hk) rfl)⟩
          ⟨hPc_blind _ _ _ _ _ _ _, hPre⟩ rfl hnn hlsz hstk hcat hd ⟨hc, hz⟩) hlo kk
      · have hlink : va_Nw (.methodLinkNest (hName (hmO y)) k (hmY y2) host) s := by
          have h := V.2.1 _ (hf3_in _ _ _ _ e1) h9 hns
          have e : hwL (hmO y, k, y2, ns, pp, host) = .methodLinkNest (hName (hmO y)) k (hmY y2) host := (if_neg h9).trans (if_neg hns)
          rw [e] at h
          exact h
        exact hcall_go (va_runSN hS (hM hy hlen g3) ⟨va_cnB (hmN y2 - 0) hts (hGoodW hy) rfl rfl rfl hlink (hts _ (hBig_in (hMw_of hy).2.1 rfl)) ⟨f1.1, f1.2, by rw [f3, hk]; rfl⟩ ⟨hRf, by show 8 + (hmL y2 + 11) + 40 * d1 ≤ _; omega⟩, hts _ (hBig_in (hmS_word hy hk) rfl), trivial⟩
          ⟨hPc_blind _ _ _ _ _ _ _, hPre⟩ rfl hnn hlsz hstk hcat hd ⟨hc, hz⟩) hlo kk
end HBODY
/-- the body of a method, from any place on: as far as n steps of mine -/
def hBodyP (ρ : Nat → Nat) (l : Launch) (K N0 : Nat) (E : Nat → AV) (H00 : Heap) (T : Nat → Nat → Option (hOp × Nat)) (n : Nat) : Prop :=
  ∀ {p : Program} {e : Env} {R : Room} {s : State} {m : MethodId} {args : Array Value} {below : List Frame} {meth : Method} {c : Code} {Q : State → Prop} {y nS zS d pc : Nat} {la : hLs} {st : List AV} {σ σ1 : hM} {r : Option AV} {H : Heap} {locs : List Loc} {ls : Array Slot},
    hCtx p s m args meth c y → hEnv ρ N0 E H00 s → c.maxLocals = hmL y → d ≤ R.frames → 40 * d ≤ R.locals → hx K E T n d y pc la st σ = some (r, σ1) →
    hLoc ρ ls (hmL y) la → (∀ v ∈ st, okv v) → hRel ρ K N0 H00 s σ H → (∀ q ∈ locs, N0 ≤ q.base) → nS ≤ σ.1 → zS ≤ σ.2.1 → σ1.1 ≤ nS + R.cells → σ1.2.1 ≤ zS + R.slots →
    (∀ (H1 : Heap) (locs1 : List Loc) (ls1 : Array Slot) (pc1 : Nat) (i : Instr) (len nx d1 k : Nat) (b : Int) (tg : List Int) (la1 : hLs) (st1 : List AV), decode (hmB y) pc1 = .ok (i, len) → ((33, k, b, tg), nx) ∈ hops y pc1 i len →
      hstep K E d1 y (33, k, b, tg) nx la1 st1 σ1 = some (Sum.inr (Sum.inr r)) → (∀ v ∈ st1, okv v) → hRel ρ K N0 H00 s σ1 H1 → (∀ q ∈ locs1, N0 ≤ q.base) → W p l e R s m args below meth c H1 locs1 (σ1.1 - nS) (σ1.2.1 - zS) Q (F0 m pc1 ls1 (st1.map (cv ρ)))) →
    W p l e R s m args below meth c H locs (σ.1 - nS) (σ.2.1 - zS) Q (F0 m pc ls (st.map (cv ρ)))
theorem hLoc_entry {ρ : Nat → Nat} (as : List AV) (n : Nat) (hok : ∀ v ∈ as, okv v) (h : (hent as).length ≤ n) : hLoc ρ ((lg_sl (as.map (cv ρ)) ++ List.replicate (n - (lg_sl (as.map (cv ρ))).length) Slot.unset).toArray) n (hpad (hent as) n) := by
  have hl := lv_entry (as.map (cv ρ)) (n := n) (by rw [hent_len]; exact h)
  refine ⟨hl.1, hl.2.1, fun i v hv => ?_⟩
  obtain ⟨h1, h2⟩ := hent_args as 0 i v (hpad_at _ _ _ _ hv)
  rw [Nat.zero_add] at h1
  exact ⟨hl.2.2 _ h1, hok v h2⟩
theorem hx_metOf {ρ : Nat → Nat} {l : Launch} {K N0 : Nat} {E : Nat → AV} {H00 : Heap} {T : Nat → Nat → Option (hOp × Nat)} {n : Nat} (hB : hBodyP ρ l K N0 E H00 T n) {d y : Nat} {as : List AV} {σ σ1 : hM} {r : Option AV} (hy : y < hNM) (hlen : (hent as).length ≤ hmL y)
    (h : hx K E T n d y 0 (hpad (hent as) (hmL y)) [] σ = some (r, σ1)) : Met l (hmY y) (hWs y) (hRm d (σ1.1 - σ.1) (σ1.2.1 - σ.2.1)) (hPc ρ K N0 E H00 as σ) (hQc ρ K N0 H00 r σ1) (σ1.1 - σ.1) (σ1.2.1 - σ.2.1) (fun q => N0 ≤ q) := by
  obtain ⟨f1, f2, f3, f4, f5, f6⟩ := hmF hy
  refine va_MetF (cc := hmB y) (maxL := hmL y) (ret := hmR y) f2 rfl ?_
  intro p e s m args below meth c s₁ B hml hv
  obtain ⟨rfl, hok, hrel, henv⟩ := hv
  have hts := atoms_spec (ws := hWs y) B.pre
  have hin : meth.name = (hmY y).name := (name_of_methodNamed B.named B.method).1
  have C : hCtx p s m (as.map (cv ρ)).toArray meth c y := ⟨B.exec, B.bytes, hml, findClass_of_methodNamed B.named, fun w hw => hts w (List.mem_cons_of_mem _ hw), fun hk => hin.trans (f6.resolve_left (by omega)).1⟩
  have hmono := hx_mono _ _ _ _ _ _ _ _ _ _ _ _ h
  rw [lg_entry_eq]
  have key := hB (p := p) (e := e) (R := hRm d (σ1.1 - σ.1) (σ1.2.1 - σ.2.1)) (below := below) (Q := MQ below (hQc ρ K N0 H00 r σ1) (as.map (cv ρ)).toArray s (σ1.1 - σ.1) (σ1.2.1 - σ.2.1) (fun q => N0 ≤ q)) (nS := σ.1) (zS := σ.2.1) (locs := []) C henv hml (Nat.le_refl _) (Nat.le_refl _) h (hLoc_entry as (hmL y) hok hlen) (fun v hv => absurd hv List.not_mem_nil) hrel (fun q hq => absurd hq List.not_mem_nil) (Nat.le_refl _) (Nat.le_refl _) (by show σ1.1 ≤ σ.1 + (σ1.1 - σ.1); omega) (by show σ1.2.1 ≤ σ.2.1 + (σ1.2.1 - σ.2.1); omega)
    (fun H1 locs1 ls1 pc1 i len nx d1 k b tg la1 st1 hd ho hs hst1 hr1 hlo1 => hK_ret C B.returns B.notSynchronized hd ho hs (fun t ht hW => ⟨rfl, by obtain ⟨r', h1, h2, -⟩ := hs33 hs; cases Sum.inr.inj (Sum.inr.inj h1); rw [← h2]; exact hst1, by rw [ht]; exact hr1.moved hW.alike⟩) hlo1)
  rw [Nat.sub_self, Nat.sub_self] at key
  exact key
theorem hx_body (ρ : Nat → Nat) (l : Launch) (K N0 : Nat) (E : Nat → AV) (H00 : Heap) {T : Nat → Nat → Option (hOp × Nat)} (hT : hTok T) : ∀ n, hBodyP ρ l K N0 E H00 T n := by
  intro n
  induction n with
  | zero => intro p e R s m args below meth c Q y nS zS d pc la st σ σ1 r H locs ls C V hsz hf hlc h; cases h
  | succ n ih =>
    intro p e R s m args below meth c Q y nS zS d pc la st σ σ1 r H locs ls C V hsz hf hlc h hl hst hr hlo hn hz hc hsl fin
    unfold hx at h
    cases eT : T y pc with
    | none => rw [eT] at h; cases h
    | some x =>
      obtain ⟨op, nx⟩ := x
      rw [eT] at h
      dsimp only at h
      obtain ⟨i, len, hd, ho⟩ := hT _ _ _ _ eT
      cases eS : hstep K E d y op nx la st σ with
      | none => rw [eS] at h; cases h
      | some z =>
        rw [eS] at h
        rcases z with ⟨pc1, la1, st1, σ2⟩ | ⟨y1, as, pc1, la1, st1⟩ | r1
        · dsimp only at h
          have hm1 := hstep_mono eS
          have hm2 := hx_mono _ _ _ _ _ _ _ _ _ _ _ _ h
          exact hOK_all C V hsz i pc len op nx d la st σ pc1 la1 st1 σ2 H locs ls hd ho eS hl hst hr hlo hn hz (by omega) (by omega) (fun hd1 => ⟨by omega, by omega⟩)
            (fun H1 locs1 ls1 hl1 hst1 hr1 hlo1 => ih C V hsz hf hlc h hl1 hst1 hr1 hlo1 (by omega) (by omega) hc hsl fin)
        · dsimp only at h
          obtain ⟨y0, b, tg, rfl⟩ := hstep_call eS
          cases d with
          | zero => cases h
          | succ d1 =>
            dsimp only at h
            cases eC : hx K E T n d1 y1 0 (hpad (hent as) (hmL y1)) [] σ with
            | none => rw [eC] at h; cases h
            | some w =>
              obtain ⟨rc, σ2⟩ := w
              rw [eC] at h
              dsimp only at h
              have hm1 := hx_mono _ _ _ _ _ _ _ _ _ _ _ _ eC
              have hm2 := hx_mono _ _ _ _ _ _ _ _ _ _ _ _ h
              refine hx_call (r := rc) (σ2 := σ2) C V hsz hd ho eS (fun hy hlen hle => hx_metOf ih hy hle eC) hst hl hr hlo hf hlc (by omega) (by omega) (fun H1 locs1 hokr1 hr1 hlo1 => ?_)
              obtain ⟨-, -, -, -, g5⟩ := hs31 eS
              have g5 := Sum.inl.inj (Sum.inr.inj g5)
              simp only [Prod.mk.injEq] at g5
              obtain ⟨-, -, -, rfl, rfl⟩ := g5
              have hokr : ∀ v ∈ rc.toList ++ st.drop (hmN y0), okv v := by
                intro v hv
                rcases List.mem_append.mp hv with hv | hv
                · exact hokr1 v hv
                · exact hst v (List.mem_of_mem_drop hv)
              have key := ih C V hsz hf hlc h hl hokr hr1 hlo1 (nS := nS) (zS := zS) (by omega) (by omega) hc hsl fin
              rw [show σ2.1 - nS = σ.1 - nS + (σ2.1 - σ.1) by omega, show σ2.2.1 - zS = σ.2.1 - zS + (σ2.2.1 - σ.2.1) by omega, List.map_append, opt_map] at key
              exact key
        · dsimp only at h
          cases h
          obtain ⟨k, b, tg, rfl⟩ := hstep_ret eS
          exact fin H locs ls pc i len nx d k b tg la st hd ho eS hst hr hlo
end
section
/-! The skeleton's own words, as printed. -/
/-! THE CLAIM OUT OF ONE WALK OF THE LAW'S BODY. Your part is whole_start (and what it stands on); all else here is the same for every law, but numbers. -/
def R_law : String := "SpaceHouseLaw"
def lw_P (b : Addr) (xs : List Int32) (args : Array Value) (s : State) : Prop := args = #[.ref b] ∧ s.IntsAt b xs ∧ xs.length ≤ 2560 ∧ (Jvm.Cond.and given_1 narrow_1).before args s = true
def lw_Q (_ : Array Value) (s : State) (o : Outcome) (t : State) : Prop := o = .returned (some (.int 1)) ∧ Framed s o t [] 600000 7302250
def lw_Z (below : List Frame) (a : Array Value) (s : State) : State → Prop := fun t => ∃ o, t.status = .running ∧ Ended t below o ∧ lw_Q a s o t
/-- the law's own end, with 1 on the stack, nothing written that was there before, its room as the claim has it -/
theorem lw_ret {p : Program} {l : Launch} {e : Env} {s : State} {m : MethodId} {below : List Frame} {meth : Method} {c : Code} {b : Nat} (hx : p.tables.exec = Jvm.exec) (hb : c.code = code) (hr : meth.sig.returnType = ret) (hlocks : meth.locks = false) {pc : Nat} {H : Heap} {ls : Array Slot} (hdg : decode code pc = .ok (.ireturn, 1)) : W p l e room_1 s m #[Value.ref b] below meth c H [] 600000 7302250 (lw_Z below #[Value.ref b] s) (F0 m pc ls [.int 1]) := by
  intro T hT X
  obtain ⟨fs, hret, hrun, hended, hW, hframe⟩ := X.leave (v := some (.int 1)) (hlocks := hlocks) (fun h => by rw [hr] at h; cases h)
  have hmeth' : T.vm.method? m = some meth := X.method'
  refine ⟨T.setFrames fs, ?_, .returned (some (.int 1)), hrun, hended, rfl, ⟨_, rfl⟩, hW, hframe⟩
  jvm_step X.here [X.here.top, hx, hb, hdg, hmeth', hr, ret, narrow_b1]
  (try refine ⟨rfl, ?_⟩); (try refine ⟨rfl, ?_⟩)
  first | (intro acts; rw [hret _ acts rfl rfl rfl]) | rw [hret _ _ rfl rfl rfl]
  exact Steps.refl _
/-- what holds at the law's entry: the machine, the code, the tables' words (any of lw_tbl by 'hts w (by decide +kernel)'), the script of L ints xs at the cell b, what the Statement gives of the start (any of its parts by flat_of_before) -/
def lw_At (p : Program) (s : State) (m : MethodId) (meth : Method) (c : Code) (b L : Nat) (xs : Nat → Int32) : Prop :=
  p.tables.exec = Jvm.exec ∧ c.code = code ∧ meth.sig.returnType = ret ∧ c.maxLocals = 4 ∧ s.vm.findClass R_law = some m.cls ∧ (∀ w ∈ lw_tbl, w.before #[Value.ref b] s = true) ∧ va_X b L xs s s.heap ∧ b < s.heap.size ∧ meth.locks = false ∧ (Jvm.Cond.and given_1 narrow_1).before #[Value.ref b] s = true
end
section
/-! What the start gives: constants, tables, the script. -/
def hTb : List (List Int) := [[47], [99, 111, 110, 115], [57, 80, 50, 48, 48, 48], [57, 80, 50, 48, 48, 48], [117, 110, 107, 110, 111, 119, 110], [107, 105, 108, 108], [110, 111, 32, 115, 117, 99, 104, 32, 102, 105, 108, 101], [110, 111, 116, 32, 97, 32, 100, 105, 114, 101, 99, 116, 111, 114, 121], [112, 101, 114, 109, 105, 115, 115, 105, 111, 110, 32, 100, 101, 110, 105, 101, 100], [102, 105, 108, 101, 32, 101, 120, 105, 115, 116, 115], [98, 97, 100, 32, 110, 97, 109, 101], [117, 110, 107, 110, 111, 119, 110, 32, 102, 105, 100], [102, 105, 100, 32, 105, 110, 32, 117, 115, 101], [102, 105, 100, 32, 105, 115, 32, 111, 112, 101, 110], [102, 105, 100, 32, 105, 115, 32, 110, 111, 116, 32, 111, 112, 101, 110], [105, 115, 32, 97, 32, 100, 105, 114, 101, 99, 116, 111, 114, 121], [110, 111, 116, 32, 101, 109, 112, 116, 121], [110, 111, 32, 114, 111, 111, 109], [98, 97, 100, 32, 111, 102, 102, 115, 101, 116], [98, 97, 100, 32, 109, 101, 115, 115, 97, 103, 101], [117, 110, 107, 110, 111, 119, 110, 32, 117, 115, 101, 114], [98, 97, 100, 32, 109, 111, 100, 101], [99, 100], [99, 97, 116], [108, 115], [101, 99, 104, 111], [109, 107, 100, 105, 114], [99, 114, 101, 97, 116, 101], [114, 109], [109, 118], [115, 105, 122, 101], [99, 104, 109, 111, 100], [115, 116, 97, 116], [111, 112, 101, 110], [114, 101, 97, 100], [119, 114, 105, 116, 101], [115, 101, 101, 107], [99, 108, 111, 115, 101], [98, 105, 110, 100], [109, 111, 117, 110, 116], [117, 110, 109, 111, 117, 110, 116], [102, 111, 114, 107], [101, 120, 105, 116], [115, 101, 116], [105, 102], [102, 111, 114], [114, 117, 110], [62, 62], [62], [115], [99], [101], [115, 116, 97, 116, 117, 115], [99, 116, 108], [61], [33, 61], [100, 111], [105, 110]]
def hOrd : List Nat := [0, 1, 2, 3, 4, 5, 6, 7, 8, 9, 10, 11, 12, 13, 14, 15, 16, 17, 18, 19, 20, 21, 22, 23, 24, 25, 26, 27, 28, 29, 30, 31, 32, 33, 34, 35, 36, 37, 38, 39, 40, 41, 42, 43, 44, 45, 46, 47, 48, 49, 50, 51, 52, 53, 54, 55, 56, 57]
def hUN : List Int := [7169121, 7237217, 6451042, 6649445]
def hND : List Int := [4, 2, 6, 1]
def hK : Nat := 128
def hNS : Nat := 58
def hE (fb : Bool) (j : Nat) : AV := match j with
  | 0 => vI 1
  | 1 => if fb = true then vR (some 1) else vR none
  | 2 => vR (some 2)
  | 3 => vR (some 3)
  | j + 4 => vR (some (4 + 2 * j))
def hTm (j : Nat) : Term := .string (hName (hLS.getD j (0, 0, 0, 0)).1) (hLS.getD j (0, 0, 0, 0)).2.1
def hTl (j : Nat) : Nat := (hTb.getD j []).length
def hTf (j : Nat) : Term := .field (hTm j) "java/lang/String" "value" "[B"
def hSW (j : Nat) : List Cond := [.exactly (hTm j) "java/lang/String", .eq (.field (hTm j) "java/lang/String" "coder" "B") (.int 0), .arrayOf (hTf j) .byte, .eq (.length (hTf j)) (.int (Int32.ofNat (hTl j)))] ++
  (List.range (hTl j)).map (fun k => .eq (.elem (hTf j) (.int (Int32.ofNat k))) (.int (Int32.ofInt ((hTb.getD j []).getD k 0))))
def hIW (n : String) (l : List Int) : List Cond := [.arrayOf (.static "SpaceHouse" n "[I") .int, .eq (.length (.static "SpaceHouse" n "[I")) (.int (Int32.ofNat l.length))] ++
  (List.range l.length).map (fun k => .eq (.elem (.static "SpaceHouse" n "[I") (.int (Int32.ofNat k))) (.int (Int32.ofInt (l.getD k 0))))
def hAll : List Cond := [.eq (.static "java/lang/String" "COMPACT_STRINGS" "Z") (.int 1), .isRef (.static "jdk/internal/util/Preconditions" "SIOOBE_FORMATTER" "Ljava/util/function/BiFunction;")] ++ (hIW "USER_NAMES" hUN ++ (hIW "NEEDS" hND ++ hOrd.flatMap hSW))
def hsubw : List Cond → List Cond → Bool
  | _, [] => true
  | [], _ :: _ => false
  | w :: t, e :: r => if w = e then hsubw t r else hsubw t (e :: r)
theorem hsubw_in : ∀ (t es : List Cond), hsubw t es = true → ∀ e ∈ es, e ∈ t := by
  intro t
  induction t with
  | nil =>
    intro es h e he
    cases es with
    | nil => cases he
    | cons a r => cases h
  | cons w t ih =>
    intro es h e he
    cases es with
    | nil => cases he
    | cons a r =>
      unfold hsubw at h
      by_cases hw : w = a
      · rw [if_pos hw] at h
        rcases List.mem_cons.mp he with rfl | he
        · exact List.mem_cons.mpr (Or.inl hw.symm)
        · exact List.mem_cons_of_mem _ (ih r h e he)
      · rw [if_neg hw] at h
        exact List.mem_cons_of_mem _ (ih _ h e he)
set_option maxRecDepth 100000 in
theorem hAll_ok : hsubw (flatC (Jvm.Cond.and given_1 narrow_1)) hAll = true := by decide +kernel
theorem hNar {args : Array Value} {s : State} (h : (Jvm.Cond.and given_1 narrow_1).before args s = true) : ∀ e ∈ hAll, e.before args s = true := fun e he => flat_of_before _ h e (hsubw_in _ _ hAll_ok e he)
theorem hOrd_all {j : Nat} (h : j < hNS) : j ∈ hOrd := by
  have h1 : (List.range hNS).all (fun j => decide (j ∈ hOrd)) = true := by decide +kernel
  exact of_decide_eq_true (List.all_eq_true.mp h1 j (List.mem_range.mpr h))
theorem hSW_in {args : Array Value} {s : State} (h : (Jvm.Cond.and given_1 narrow_1).before args s = true) {j : Nat} (hj : j < hNS) : ∀ e ∈ hSW j, e.before args s = true := fun e he =>
  hNar h e (List.mem_append_right _ (List.mem_append_right _ (List.mem_append_right _ (List.mem_flatMap.mpr ⟨j, hOrd_all hj, he⟩))))
theorem hTl_lt {j : Nat} (hj : j < hNS) : hTl j < 100 := by
  have h1 : (List.range hNS).all (fun j => decide (hTl j < 100)) = true := by decide +kernel
  exact of_decide_eq_true (List.all_eq_true.mp h1 j (List.mem_range.mpr hj))
theorem str_of {args : Array Value} {s : State} (h : (Jvm.Cond.and given_1 narrow_1).before args s = true) (j : Nat) : ∃ q : Nat × Nat, j < hNS → (hTm j).eval args s none [] s = some (.ref q.1) ∧ va_O "java/lang/String" q.1 (fun a => s.heap.size ≤ a) s s.heap ∧
    va_OF "java/lang/String" "coder" "B" (.int 0) q.1 (fun a => s.heap.size ≤ a) s s.heap ∧ va_OF "java/lang/String" "value" "[B" (.ref q.2) q.1 (fun a => s.heap.size ≤ a) s s.heap ∧
    va_T .byte q.2 (hTl j) (fun k => .int (Int32.ofInt ((hTb.getD j []).getD k 0))) (fun a => s.heap.size ≤ a) s s.heap := by
  by_cases hj : j < hNS
  · have hA : ∀ a : Nat, a < s.heap.size → ¬ s.heap.size ≤ a := fun a h1 h2 => by omega
    have hw := hSW_in h hj
    obtain ⟨a, c, cA, kA, q1, q2, q3, q4, q5, q6, -⟩ := Cond.exactly_spec (args := args) (first := s) (o := none) (s := s) (idx := []) (t := hTm j) (cls := "java/lang/String") (hw _ (by simp [hSW]))
    obtain ⟨t, ht, hT⟩ := va_Tof (tm := hTf j) (ty := .byte) (N := hTl j) (f := fun k => .int (Int32.ofInt ((hTb.getD j []).getD k 0))) (A := fun a => s.heap.size ≤ a) (by have := hTl_lt hj; omega) (hw _ (by simp [hSW])) (va_eqt (hw _ (by simp [hSW])))
      (fun k hk => va_eqt (hw _ (List.mem_append_right _ (List.mem_map.mpr ⟨k, List.mem_range.mpr hk, rfl⟩)))) hA
    exact ⟨(a, t), fun _ => ⟨q1, ⟨cA, q3, q5, by rw [q6]; exact q2, hA a (Array.getElem?_eq_some_iff.mp q3).1⟩, vk_OFof q1 (va_eqt (hw _ (by simp [hSW]))) hA, vk_OFof q1 ht hA, hT⟩⟩
  · exact ⟨(0, 0), fun h => absurd h hj⟩
theorem ints_of {args : Array Value} {s : State} {n : String} {l : List Int} (hl : l.length < 100) (hw : ∀ e ∈ hIW n l, e.before args s = true) : ∃ t : Nat, (Term.static "SpaceHouse" n "[I").eval args s none [] s = some (.ref t) ∧ va_T .int t l.length (fun k => .int (Int32.ofInt (l.getD k 0))) (fun a => s.heap.size ≤ a) s s.heap :=
  va_Tof (by omega) (hw _ (by simp [hIW])) (va_eqt (hw _ (by simp [hIW]))) (fun k hk => va_eqt (hw _ (List.mem_append_right _ (List.mem_map.mpr ⟨k, List.mem_range.mpr hk, rfl⟩)))) (fun a h1 h2 => by omega)
/-- the small machine's memory at the start: script, tables, String constants -/
def hσ0 (L : Nat) (xs : Nat → Int) : hM := (hK, 0,
  (fun a => if a = 0 then some (Sum.inr (0, L)) else if a = 2 then some (Sum.inr (0, 4)) else if a = 3 then some (Sum.inr (0, 4)) else if 4 ≤ a ∧ a < 4 + 2 * hNS then (if a % 2 = 0 then some (Sum.inl 10) else some (Sum.inr (1, hTl ((a - 4) / 2)))) else none),
  (fun a k => if a = 0 then xs k else if a = 2 then hUN.getD k 0 else if a = 3 then hND.getD k 0 else if 4 ≤ a ∧ a < 4 + 2 * hNS ∧ a % 2 = 1 then (hTb.getD ((a - 4) / 2) []).getD k 0 else 0),
  (fun a k => if 4 ≤ a ∧ a < 4 + 2 * hNS ∧ a % 2 = 0 ∧ k = 0 then some (a + 1) else none))
def hρ (N0 b fm un nd : Nat) (ad : Nat → Nat × Nat) (a : Nat) : Nat :=
  if a < hK then (if a = 1 then fm else if a = 2 then un else if a = 3 then nd else if 4 ≤ a ∧ a < 4 + 2 * hNS then (if a % 2 = 0 then (ad ((a - 4) / 2)).1 else (ad ((a - 4) / 2)).2) else b) else N0 + (a - hK)
end
section
/-! The start: the heap stands as the small machine's first memory says. -/
theorem hTb_ok (j k : Nat) : okv (vI ((hTb.getD j []).getD k 0)) := by
  have h1 : hTb.all (fun l => l.all (fun v => decide (0 ≤ v) && decide (v ≤ 127))) = true := by decide +kernel
  have h2 : ∀ l ∈ hTb, ∀ v ∈ l, 0 ≤ v ∧ v ≤ 127 := fun l hl v hv => by
    have h3 := List.all_eq_true.mp (List.all_eq_true.mp h1 l hl) v hv
    simpa using h3
  rcases Nat.lt_or_ge j hTb.length with hj | hj
  · have e1 : hTb.getD j [] = hTb[j] := by simp [List.getD_eq_getElem?_getD, hj]
    rw [e1]
    rcases Nat.lt_or_ge k hTb[j].length with hk | hk
    · have e2 : hTb[j].getD k 0 = hTb[j][k] := by simp [List.getD_eq_getElem?_getD, hk]
      rw [e2]
      have := h2 _ (List.getElem_mem hj) _ (List.getElem_mem hk)
      exact ⟨by omega, by omega⟩
    · rw [List.getD_eq_getElem?_getD, List.getElem?_eq_none hk]
      exact ⟨by decide, by decide⟩
  · have e1 : hTb.getD j [] = [] := by rw [List.getD_eq_getElem?_getD, List.getElem?_eq_none hj]; rfl
    rw [e1]
    exact ⟨by simp, by simp⟩
theorem hUN_ok (l : List Int) (h : l.all (fun v => decide (0 ≤ v) && decide (v ≤ 2147483647)) = true) (k : Nat) : okv (vI (l.getD k 0)) := by
  rcases Nat.lt_or_ge k l.length with hk | hk
  · have e2 : l.getD k 0 = l[k] := by simp [List.getD_eq_getElem?_getD, hk]
    rw [e2]
    have h3 := List.all_eq_true.mp h _ (List.getElem_mem hk)
    simp only [Bool.and_eq_true, decide_eq_true_eq] at h3
    exact ⟨by omega, by omega⟩
  · rw [List.getD_eq_getElem?_getD, List.getElem?_eq_none hk]
    exact ⟨by decide, by decide⟩
theorem ofNat32 {n : Nat} (h : n ≤ 1000000) : Int32.ofNat n = Int32.ofInt (n : Int) := (cv_len h).1
theorem hRow_of {ρ : Nat → Nat} {s : State} {σ : hM} {a t len N0 : Nat} {ty : FieldType} {f : Nat → Value} (hlt : a < hK) (ht : t < 4) (hty : hArr t = ty) (hlen : len ≤ 1000000) (hT : va_T ty (ρ a) len f (fun q => N0 ≤ q) s s.heap)
    (hv : ∀ j, j < len → f j = cv ρ (hld σ (hat t) a j) ∧ okv (hld σ (hat t) a j)) : hRow ρ s σ s.heap hK a t len := by
  obtain ⟨cell, h1, h2, h3, h4, h5, h6, -⟩ := hT
  refine ⟨cell, h1, h3, by rw [hty]; exact h2, fun h => absurd h (by omega), fun h => absurd h (by omega), ⟨h4, by rw [h5]; exact ofNat32 hlen⟩, hlen, fun j hj => ⟨by rw [h6 j hj, (hv j hj).1], (hv j hj).2⟩⟩
theorem va_T.lt {ty : FieldType} {t len N0 : Nat} {f : Nat → Value} {s : State} (h : va_T ty t len f (fun q => N0 ≤ q) s s.heap) : t < N0 := by
  obtain ⟨cell, h1, h2, h3, h4, h5, h6, h7⟩ := h
  exact Nat.not_le.mp h7
theorem va_O.lt {E : String} {t N0 : Nat} {s : State} (h : va_O E t (fun q => N0 ≤ q) s s.heap) : t < N0 := by
  obtain ⟨cell, h1, h2, h3, h4⟩ := h
  exact Nat.not_le.mp h4
theorem mT0 (L : Nat) (xs : Nat → Int) (a : Nat) : mT (hσ0 L xs) a = if a = 0 then some (Sum.inr (0, L)) else if a = 2 then some (Sum.inr (0, 4)) else if a = 3 then some (Sum.inr (0, 4)) else if 4 ≤ a ∧ a < 4 + 2 * hNS then (if a % 2 = 0 then some (Sum.inl 10) else some (Sum.inr (1, hTl ((a - 4) / 2)))) else none := rfl
theorem mI0 (L : Nat) (xs : Nat → Int) (a k : Nat) : mI (hσ0 L xs) a k = if a = 0 then xs k else if a = 2 then hUN.getD k 0 else if a = 3 then hND.getD k 0 else if 4 ≤ a ∧ a < 4 + 2 * hNS ∧ a % 2 = 1 then (hTb.getD ((a - 4) / 2) []).getD k 0 else 0 := rfl
theorem mR0 (L : Nat) (xs : Nat → Int) (a k : Nat) : mR (hσ0 L xs) a k = if 4 ≤ a ∧ a < 4 + 2 * hNS ∧ a % 2 = 0 ∧ k = 0 then some (a + 1) else none := rfl
theorem start_of {s : State} {b L : Nat} {xs : Nat → Int32} (hL : L ≤ 2560) (hts : ∀ w ∈ lw_tbl, w.before #[Value.ref b] s = true) (hX : va_X b L xs s s.heap) (hbl : b < s.heap.size) (hgv : (Jvm.Cond.and given_1 narrow_1).before #[Value.ref b] s = true) :
    ∃ (ρ : Nat → Nat) (fb : Bool), ρ 0 = b ∧ hRel ρ hK s.heap.size s.heap s (hσ0 L (fun j => (xs j).toInt)) s.heap ∧ hEnv ρ s.heap.size (hE fb) s.heap s := by
  obtain ⟨ad, had⟩ := Classical.axiomOfChoice (str_of hgv)
  obtain ⟨un, hun1, hunT⟩ := ints_of (n := "USER_NAMES") (l := hUN) (by decide) (fun e he => hNar hgv e (List.mem_append_right _ (List.mem_append_left _ he)))
  obtain ⟨nd, hnd1, hndT⟩ := ints_of (n := "NEEDS") (l := hND) (by decide) (fun e he => hNar hgv e (List.mem_append_right _ (List.mem_append_right _ (List.mem_append_left _ he))))
  have hco := va_eqi (hNar hgv (.eq (.static "java/lang/String" "COMPACT_STRINGS" "Z") (.int 1)) (List.mem_append_left _ (by simp)))
  obtain ⟨v, hv, hvr⟩ := Cond.isRef_spec (hNar hgv (.isRef (.static "jdk/internal/util/Preconditions" "SIOOBE_FORMATTER" "Ljava/util/function/BiFunction;")) (List.mem_append_left _ (by simp)))
  obtain ⟨fm, fb, hvf⟩ : ∃ (fm : Nat) (fb : Bool), v = (if fb = true then .ref fm else .null) := by
    have hnull : v = .null ∨ ∃ a, v = .ref a := by cases v <;> simp [Value.isRef] at hvr <;> simp
    rcases hnull with rfl | ⟨a, rfl⟩
    · exact ⟨b, false, rfl⟩
    · exact ⟨a, true, rfl⟩
  have hKK : hK = 128 := rfl
  have hNN : hNS = 58 := rfl
  have r0 : hρ s.heap.size b fm un nd ad 0 = b := rfl
  have r1 : hρ s.heap.size b fm un nd ad 1 = fm := rfl
  have r2 : hρ s.heap.size b fm un nd ad 2 = un := rfl
  have r3 : hρ s.heap.size b fm un nd ad 3 = nd := rfl
  have rK : ∀ j, j < 58 → hρ s.heap.size b fm un nd ad (4 + 2 * j) = (ad j).1 := fun j hj => by
    unfold hρ
    rw [if_pos (by omega), if_neg (by omega), if_neg (by omega), if_neg (by omega), if_pos (by omega), if_pos (by omega), show (4 + 2 * j - 4) / 2 = j by omega]
  have rV : ∀ j, j < 58 → hρ s.heap.size b fm un nd ad (4 + 2 * j + 1) = (ad j).2 := fun j hj => by
    unfold hρ
    rw [if_pos (by omega), if_neg (by omega), if_neg (by omega), if_neg (by omega), if_pos (by omega), if_neg (by omega), show (4 + 2 * j + 1 - 4) / 2 = j by omega]
  have rN : ∀ a, hK ≤ a → hρ s.heap.size b fm un nd ad a = s.heap.size + (a - hK) := fun a ha => by
    unfold hρ
    rw [if_neg (by omega)]
  have hrest : ∀ a, a < hK → a ≠ 1 → a ≠ 2 → a ≠ 3 → ¬ (4 ≤ a ∧ a < 4 + 2 * hNS) → hρ s.heap.size b fm un nd ad a = b := fun a h0 h1 h2 h3 h4 => by
    unfold hρ
    rw [if_pos h0, if_neg h1, if_neg h2, if_neg h3, if_neg h4]
  generalize hρ s.heap.size b fm un nd ad = ρ at r0 r1 r2 r3 rK rV rN hrest
  have split4 : ∀ a, 4 ≤ a ∧ a < 4 + 2 * hNS → ∃ j, j < 58 ∧ (a = 4 + 2 * j ∨ a = 4 + 2 * j + 1) := fun a h => ⟨(a - 4) / 2, by omega, by omega⟩
  refine ⟨ρ, fb, r0, ⟨⟨rfl, ⟨fun a ha => by rw [rN a ha]; omega, fun a ha h1 => ?_⟩, rfl, by omega⟩, Nat.le_refl _, fun a _ => rfl, fun a c hc => ?_, fun a t len hc => ?_⟩, ?_⟩
  · by_cases h4 : 4 ≤ a ∧ a < 4 + 2 * hNS
    · obtain ⟨j, hj, rfl | rfl⟩ := split4 a h4
      · rw [rK j hj]; exact (had j hj).2.1.lt
      · rw [rV j hj]; exact (had j hj).2.2.2.2.lt
    · by_cases e2 : a = 2
      · rw [e2, r2]; exact hunT.lt
      · by_cases e3 : a = 3
        · rw [e3, r3]; exact hndT.lt
        · by_cases e0 : a = 0
          · rw [e0, r0]; exact hbl
          · have hx : ρ a = b := hrest a ha h1 e2 e3 h4
            rw [hx]; exact hbl
  · rw [mT0] at hc
    by_cases h4 : 4 ≤ a ∧ a < 4 + 2 * hNS
    · rw [if_neg (by omega), if_neg (by omega), if_neg (by omega), if_pos h4] at hc
      obtain ⟨j, hj, rfl | rfl⟩ := split4 a h4
      · rw [if_pos (by omega)] at hc
        cases hc
        obtain ⟨g1, ⟨cell, c1, c2, c3, c4⟩, ⟨cf, kc, fi, f, cell2, d1, d2, d3, d4, d5, d6⟩, ⟨cf3, kc3, fi3, f3, cell3, e1, e2, e3, e4, e5, e6⟩, -⟩ := had j hj
        cases c1.symm.trans d3
        cases c1.symm.trans e3
        refine ⟨cell, by rw [rK j hj]; exact c1, d4, c2, c3, fun h => absurd h (by omega), fun k hk => ?_⟩
        match k, hk with
        | 0, _ =>
          refine ⟨cf3, kc3, fi3, f3, e1, e2, ?_, trivial⟩
          rw [show hld (hσ0 L (fun j => (xs j).toInt)) (hFd 10 0).2.2.1 (4 + 2 * j) 0 = vR (some (4 + 2 * j + 1)) by show vR (mR _ _ _) = _; rw [mR0, if_pos (by omega)]]
          rw [e5]
          show _ = some (Value.ref (ρ (4 + 2 * j + 1)))
          rw [rV j hj]
        | 1, _ =>
          have e9 : hld (hσ0 L (fun j => (xs j).toInt)) (hFd 10 1).2.2.1 (4 + 2 * j) 1 = vI 0 := by show vI (mI _ _ _) = _; rw [mI0, if_neg (by omega), if_neg (by omega), if_neg (by omega), if_neg (by omega)]
          rw [e9]
          exact ⟨cf, kc, fi, f, d1, d2, d5, ⟨by decide, by decide⟩⟩
        | k + 2, h => exact absurd h (by show ¬ k + 2 < 2; omega)
      · rw [if_neg (by omega)] at hc; cases hc
    · exfalso
      by_cases e0 : a = 0
      · rw [if_pos e0] at hc; cases hc
      · rw [if_neg e0] at hc
        by_cases e2 : a = 2
        · rw [if_pos e2] at hc; cases hc
        · rw [if_neg e2] at hc
          by_cases e3 : a = 3
          · rw [if_pos e3] at hc; cases hc
          · rw [if_neg e3, if_neg h4] at hc; cases hc
  · rw [mT0] at hc
    by_cases e0 : a = 0
    · rw [if_pos e0] at hc
      cases hc
      subst e0
      obtain ⟨scr, x1, x2, x3, x4, x5⟩ := hX
      refine ⟨scr, by rw [r0]; exact x1, x3, x2, fun h => absurd h (by omega), fun h => absurd h (by omega), ⟨by omega, by rw [x4]; exact (cv_len (by omega)).1⟩, by omega, fun j hj => ?_⟩
      have e9 : hld (hσ0 L (fun j => (xs j).toInt)) (hat 0) 0 j = vI (xs j).toInt := rfl
      rw [e9, x5 j hj]
      exact ⟨by show _ = some (Value.int (Int32.ofInt (xs j).toInt)); rw [Int32.ofInt_toInt], ok_t32 _⟩
    · rw [if_neg e0] at hc
      by_cases e2 : a = 2
      · rw [if_pos e2] at hc
        cases hc
        subst e2
        refine hRow_of (ty := .int) (by omega) (by omega) rfl (by omega) (by rw [r2]; exact hunT) (fun j hj => ?_)
        have e9 : hld (hσ0 L (fun j => (xs j).toInt)) (hat 0) 2 j = vI (hUN.getD j 0) := rfl
        rw [e9]
        exact ⟨rfl, hUN_ok hUN (by decide) j⟩
      · rw [if_neg e2] at hc
        by_cases e3 : a = 3
        · rw [if_pos e3] at hc
          cases hc
          subst e3
          refine hRow_of (ty := .int) (by omega) (by omega) rfl (by omega) (by rw [r3]; exact hndT) (fun j hj => ?_)
          have e9 : hld (hσ0 L (fun j => (xs j).toInt)) (hat 0) 3 j = vI (hND.getD j 0) := rfl
          rw [e9]
          exact ⟨rfl, hUN_ok hND (by decide) j⟩
        · rw [if_neg e3] at hc
          by_cases h4 : 4 ≤ a ∧ a < 4 + 2 * hNS
          · rw [if_pos h4] at hc
            obtain ⟨j, hj, rfl | rfl⟩ := split4 a h4
            · rw [if_pos (by omega)] at hc; cases hc
            · rw [if_neg (by omega), show (4 + 2 * j + 1 - 4) / 2 = j by omega] at hc
              cases hc
              refine hRow_of (ty := .byte) (by omega) (by omega) rfl (by have := hTl_lt (j := j) hj; omega) (by rw [rV j hj]; exact (had j hj).2.2.2.2) (fun k hk => ?_)
              have e9 : hld (hσ0 L (fun j => (xs j).toInt)) (hat 1) (4 + 2 * j + 1) k = vI ((hTb.getD j []).getD k 0) := by
                show vI (mI _ _ _) = _
                rw [mI0, if_neg (by omega), if_neg (by omega), if_neg (by omega), if_pos (by omega), show (4 + 2 * j + 1 - 4) / 2 = j by omega]
              rw [e9]
              exact ⟨rfl, hTb_ok j k⟩
          · rw [if_neg h4] at hc; cases hc
  · have hA : ∀ a : Nat, a < s.heap.size → ¬ s.heap.size ≤ a := fun a h1 h2 => by omega
    have hini : ∀ o, (hIq.any (fun e => decide (e.2 = o))) = true → (Cond.initialized (hName o)).before #[Value.ref b] s = true := by
      intro o h
      obtain ⟨p, hp⟩ := hMin1 h
      exact hts _ (hwalk_mem hIq_ok (List.mem_map.mpr ⟨_, hp, rfl⟩))
    have hsta : ∀ j, (hSq.any (fun e => decide (e.2 = j))) = true → (Cond.laysStatic (hSn j).1 (hSn j).2.1 (hSn j).2.2).before #[Value.ref b] s = true := by
      intro j h
      obtain ⟨p, hp⟩ := hMin1 h
      exact hts _ (hwalk_mem hSq_ok (List.mem_map.mpr ⟨_, hp, rfl⟩))
    refine ⟨fun q hq hn => ?_, fun q hq hn hn2 => ?_, fun q hq hn => ?_, fun q hq => ?_, fun q hq => ?_, fun j hj => ?_, fun j => ?_⟩
    · have e : hwF q = .fieldLinkNest (hName q.1) q.2.1 (hName q.2.2.1) (hFd q.2.2.1 q.2.2.2.1).1 (hFd q.2.2.1 q.2.2.2.1).2.1 q.2.2.2.2.2.2 := if_neg hn
      have h := hts _ (hwalk_mem hLF_ok (List.mem_map.mpr ⟨_, hq, rfl⟩))
      rw [e] at h ⊢
      exact va_Nw.of rfl h
    · have e : hwL q = .methodLinkNest (hName q.1) q.2.1 (hmY q.2.2.1) q.2.2.2.2.2 := (if_neg hn).trans (if_neg hn2)
      have h := hts _ (hwalk_mem hLM_ok (List.mem_map.mpr ⟨_, hq, rfl⟩))
      rw [e] at h ⊢
      exact va_Nw.of rfl h
    · have e : hwG q = .fieldLinkNest (hName q.1) q.2.1 (hSn q.2.2.1).1 (hSn q.2.2.1).2.1 (hSn q.2.2.1).2.2 q.2.2.2.2.2 := if_neg hn
      have h := hts _ (hwalk_mem hLG_ok (List.mem_map.mpr ⟨_, hq, rfl⟩))
      rw [e] at h ⊢
      exact va_Nw.of rfl h
    · exact va_AO.of (hts _ (hwalk_mem hAq_ok (List.mem_map.mpr ⟨_, hq, rfl⟩)))
    · have h1 : (hLS.all (fun q => decide (q.2.2.1 < 58) && decide (hLS.getD q.2.2.1 (0, 0, 0, 0) = q))) = true := by decide +kernel
      have h2 := List.all_eq_true.mp h1 q hq
      simp only [Bool.and_eq_true, decide_eq_true_eq] at h2
      refine ⟨4 + 2 * q.2.2.1, (by rw [Nat.add_comm 4]; rfl), vk_R.of (hts _ (hwalk_mem hLS_ok (List.mem_map.mpr ⟨_, hq, rfl⟩))) ?_⟩
      have h3 := (had q.2.2.1 h2.1).1
      unfold hTm at h3
      rw [h2.2] at h3
      rw [rK _ h2.1]
      exact h3
    · match j, hj with
      | 0, _ => exact va_Zof (hsta 0 (by decide)) (hini 10 (by decide)) hco hA
      | 1, _ =>
        refine va_Zof (hsta 1 (by decide)) (hini 12 (by decide)) ?_ hA
        have e9 : cv ρ (hE fb 1) = v := by
          rw [hvf]
          cases fb
          · rfl
          · show Value.ref (ρ 1) = _
            rw [r1]
            rfl
        rw [e9]
        exact hv
      | 2, _ =>
        refine va_Zof (hsta 2 (by decide)) (hini 0 (by decide)) ?_ hA
        show _ = some (Value.ref (ρ 2))
        rw [r2]
        exact hun1
      | 3, _ =>
        refine va_Zof (hsta 3 (by decide)) (hini 0 (by decide)) ?_ hA
        show _ = some (Value.ref (ρ 3))
        rw [r3]
        exact hnd1
      | k + 4, h => exact absurd h (by omega)
    · match j with
      | 0 => exact ⟨by decide, by decide⟩
      | 1 => cases fb <;> trivial
      | 2 => trivial
      | 3 => trivial
      | k + 4 => trivial
/-- the law's whole run, out of the small machine's -/
theorem whole_of {T : Nat → Nat → Option (hOp × Nat)} (hT : hTok T) {p : Program} {e : Env} {s : State} {m : MethodId} {below : List Frame} {meth : Method} {c : Code} (l : Launch) {b L : Nat} {xs : Nat → Int32} (hL : L ≤ 2560) (C0 : lw_At p s m meth c b L xs)
    (hrun : ∀ fb : Bool, ∃ n σ1, hx hK (hE fb) T n 22 hNM 0 (hpad (hent [vR (some 0)]) 4) [] (hσ0 L (fun j => (xs j).toInt)) = some (some (vI 1), σ1) ∧ σ1.1 ≤ hK + 600000 ∧ σ1.2.1 ≤ 7302250) :
    W p l e room_1 s m #[Value.ref b] below meth c s.heap [] 0 0 (lw_Z below #[Value.ref b] s) (entryFrame m ([Value.ref b] : List Value).toArray 4) := by
  obtain ⟨hx1, hb1, hret1, hml, hown, hts, hX, hbl, hlocks, hgv⟩ := C0
  obtain ⟨ρ, fb, r0, hrel, henv⟩ := start_of hL hts hX hbl hgv
  obtain ⟨n, σ1, hrun, hc1, hz1⟩ := hrun fb
  have C : hCtx p s m #[Value.ref b] meth c hNM := ⟨hx1, hb1, hml, hown, fun w hw => hts w (hBig_ok w hw).1, fun h => absurd h (by decide)⟩
  have hloc : hLoc ρ ((lg_sl ([vR (some 0)].map (cv ρ)) ++ List.replicate (4 - (lg_sl ([vR (some 0)].map (cv ρ))).length) Slot.unset).toArray) 4 (hpad (hent [vR (some 0)]) 4) := hLoc_entry [vR (some 0)] 4 (fun v hv => by rw [List.mem_singleton.mp hv]; trivial) (by decide)
  rw [lg_entry_eq]
  have e0 : ([Value.ref b] : List Value) = [vR (some 0)].map (cv ρ) := by show _ = [Value.ref (ρ 0)]; rw [r0]
  rw [show (lg_sl [Value.ref b] ++ List.replicate (4 - (lg_sl [Value.ref b]).length) Slot.unset).toArray = (lg_sl ([vR (some 0)].map (cv ρ)) ++ List.replicate (4 - (lg_sl ([vR (some 0)].map (cv ρ))).length) Slot.unset).toArray by rw [e0]]
  have key := hx_body ρ l hK s.heap.size (hE fb) s.heap hT n (p := p) (e := e) (R := room_1) (below := below) (Q := lw_Z below #[Value.ref b] s) (nS := hK) (zS := 0) (locs := []) C henv hml (by decide) (by decide) hrun hloc (fun v hv => absurd hv List.not_mem_nil) hrel (fun q hq => absurd hq List.not_mem_nil) (Nat.le_refl _) (Nat.le_refl _) hc1 (by show _ ≤ 0 + 7302250; omega)
    (fun H1 locs1 ls1 pc1 i len nx d1 k b1 tg la1 st1 hd ho hs hst1 hr1 hlo1 => by
      obtain ⟨r', h1, hst, h3⟩ := hs33 hs
      cases Sum.inr.inj (Sum.inr.inj h1)
      subst hst
      have hk : k = 1 ∨ k = 2 ∨ k = 5 ∨ k = 6 := by
        rcases h3 with ⟨h, -⟩ | ⟨z, -, h | ⟨h, -⟩ | ⟨h, -⟩ | ⟨h, -⟩⟩ | ⟨z, h, -⟩ | ⟨q, h, -⟩
        · cases h
        · exact Or.inl h
        · exact Or.inr (Or.inl h)
        · exact Or.inr (Or.inr (Or.inl h))
        · exact Or.inr (Or.inr (Or.inr h))
        · cases h
        · cases h
      have hi : i = .ireturn ∧ len = 1 := by
        by_cases h4 : i = .ireturn
        · subst h4
          refine ⟨rfl, ?_⟩
          have ho : ((33, k, b1, tg), nx) ∈ hk1 (decide (len = 1) && decide (hmR hNM = some .int)) (33, 1, 0, []) (pc1 + 1) ++ (hk1 (decide (len = 1) && decide (hmR hNM = some .boolean)) (33, 2, 0, []) (pc1 + 1) ++
            (hk1 (decide (len = 1) && decide (hmR hNM = some .byte)) (33, 5, 0, []) (pc1 + 1) ++ hk1 (decide (len = 1) && decide (hmR hNM = some .char)) (33, 6, 0, []) (pc1 + 1))) := ho
          have fin : ∀ {bb : Bool} {op : hOp} {nx2 : Nat}, ((33, k, b1, tg), nx) ∈ hk1 (decide (len = 1) && bb) op nx2 → len = 1 := by
            intro bb op nx2 h
            have h5 := (hk1_in h).1
            simp only [Bool.and_eq_true, decide_eq_true_eq] at h5
            exact h5.1
          rcases List.mem_append.mp ho with ho | ho
          · exact fin ho
          · rcases List.mem_append.mp ho with ho | ho
            · exact fin ho
            · rcases List.mem_append.mp ho with ho | ho
              · exact fin ho
              · exact fin ho
        · exfalso
          by_cases g1 : i = .return_
          · subst g1
            obtain ⟨-, he⟩ := hk1_in ho
            cases he
            omega
          · by_cases g2 : i = .lreturn
            · subst g2
              obtain ⟨-, he⟩ := hk1_in ho
              cases he
              omega
            · by_cases g3 : i = .areturn
              · subst g3
                obtain ⟨-, he⟩ := hk1_in ho
                cases he
                omega
              · exact hret_no g1 g2 g3 h4 ho
      obtain ⟨rfl, rfl⟩ := hi
      refine va_forget hlo1 (W.widen (k := 600000) (n := 7302250) (by omega) (by omega) ?_)
      exact lw_ret hx1 hb1 hret1 hlocks hd)
  rw [show (hσ0 L (fun j => (xs j).toInt)).1 - hK = 0 from Nat.sub_self _] at key
  exact key
end
