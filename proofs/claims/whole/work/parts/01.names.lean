def lw_okq (q : MethodName × Nat) : Prop := (q.1.cls ≠ "java/lang/invoke/MethodHandle" ∧ q.1.cls ≠ "java/lang/invoke/VarHandle") ∧ Cond.instantiable q.1.cls q.2 ∈ tables_1 ∧ Cond.privateMethod q.1 ∈ tables_1 ∧ Cond.instanceMethod q.1 ∈ tables_1
theorem lw_p0 : lw_okq (⟨"ObservedBlocks$Writer", "addHead", "(II)V"⟩, 2) := ⟨⟨by decide +kernel, by decide +kernel⟩, List.mem_of_getElem? (i := 166) (by decide +kernel), List.mem_of_getElem? (i := 420) (by decide +kernel), List.mem_of_getElem? (i := 421) (by decide +kernel)⟩
theorem lw_p1 : lw_okq (⟨"ObservedBlocks$Server", "tell", "(LObservedBlocks$Watcher;)V"⟩, 10) := ⟨⟨by decide +kernel, by decide +kernel⟩, List.mem_of_getElem? (i := 197) (by decide +kernel), List.mem_of_getElem? (i := 570) (by decide +kernel), List.mem_of_getElem? (i := 571) (by decide +kernel)⟩
theorem lw_p2 : lw_okq (⟨"ObservedBlocks$Server", "blockIn", "(III)I"⟩, 10) := ⟨⟨by decide +kernel, by decide +kernel⟩, List.mem_of_getElem? (i := 197) (by decide +kernel), List.mem_of_getElem? (i := 581) (by decide +kernel), List.mem_of_getElem? (i := 582) (by decide +kernel)⟩
theorem lw_p3 : lw_okq (⟨"ObservedBlocks$Server", "endWatch", "(I)V"⟩, 10) := ⟨⟨by decide +kernel, by decide +kernel⟩, List.mem_of_getElem? (i := 197) (by decide +kernel), List.mem_of_getElem? (i := 607) (by decide +kernel), List.mem_of_getElem? (i := 608) (by decide +kernel)⟩
theorem lw_p4 : lw_okq (⟨"ObservedBlocks$Message", "forget", "()V"⟩, 15) := ⟨⟨by decide +kernel, by decide +kernel⟩, List.mem_of_getElem? (i := 294) (by decide +kernel), List.mem_of_getElem? (i := 624) (by decide +kernel), List.mem_of_getElem? (i := 625) (by decide +kernel)⟩
theorem lw_p5 : lw_okq (⟨"ObservedBlocks$Message", "readOptions", "(LObservedBlocks$Bytes;)Z"⟩, 15) := ⟨⟨by decide +kernel, by decide +kernel⟩, List.mem_of_getElem? (i := 294) (by decide +kernel), List.mem_of_getElem? (i := 629) (by decide +kernel), List.mem_of_getElem? (i := 630) (by decide +kernel)⟩
theorem lw_p6 : lw_okq (⟨"ObservedBlocks$Message", "isAtOption", "(LObservedBlocks$Bytes;)Z"⟩, 15) := ⟨⟨by decide +kernel, by decide +kernel⟩, List.mem_of_getElem? (i := 294) (by decide +kernel), List.mem_of_getElem? (i := 633) (by decide +kernel), List.mem_of_getElem? (i := 634) (by decide +kernel)⟩
theorem lw_p7 : lw_okq (⟨"ObservedBlocks$Message", "readHead", "(LObservedBlocks$Bytes;)Z"⟩, 15) := ⟨⟨by decide +kernel, by decide +kernel⟩, List.mem_of_getElem? (i := 294) (by decide +kernel), List.mem_of_getElem? (i := 638) (by decide +kernel), List.mem_of_getElem? (i := 639) (by decide +kernel)⟩
theorem lw_p8 : lw_okq (⟨"ObservedBlocks$Message", "keepValue", "(LObservedBlocks$Bytes;)Z"⟩, 15) := ⟨⟨by decide +kernel, by decide +kernel⟩, List.mem_of_getElem? (i := 294) (by decide +kernel), List.mem_of_getElem? (i := 642) (by decide +kernel), List.mem_of_getElem? (i := 643) (by decide +kernel)⟩
theorem lw_p9 : lw_okq (⟨"ObservedBlocks$Message", "numberIn", "(LObservedBlocks$Bytes;)I"⟩, 15) := ⟨⟨by decide +kernel, by decide +kernel⟩, List.mem_of_getElem? (i := 294) (by decide +kernel), List.mem_of_getElem? (i := 646) (by decide +kernel), List.mem_of_getElem? (i := 647) (by decide +kernel)⟩
theorem lw_p10 : lw_okq (⟨"ObservedBlocks$Message", "keepSegment", "(LObservedBlocks$Bytes;)Z"⟩, 15) := ⟨⟨by decide +kernel, by decide +kernel⟩, List.mem_of_getElem? (i := 294) (by decide +kernel), List.mem_of_getElem? (i := 655) (by decide +kernel), List.mem_of_getElem? (i := 656) (by decide +kernel)⟩
theorem lw_p11 : lw_okq (⟨"ObservedBlocks$Message", "readPayload", "(LObservedBlocks$Bytes;)Z"⟩, 15) := ⟨⟨by decide +kernel, by decide +kernel⟩, List.mem_of_getElem? (i := 294) (by decide +kernel), List.mem_of_getElem? (i := 666) (by decide +kernel), List.mem_of_getElem? (i := 667) (by decide +kernel)⟩
theorem lw_p12 : lw_okq (⟨"ObservedBlocks$Client", "receiveAnswer", "(LObservedBlocks$Message;)V"⟩, 4) := ⟨⟨by decide +kernel, by decide +kernel⟩, List.mem_of_getElem? (i := 68) (by decide +kernel), List.mem_of_getElem? (i := 679) (by decide +kernel), List.mem_of_getElem? (i := 680) (by decide +kernel)⟩
theorem lw_p13 : lw_okq (⟨"ObservedBlocks$Slot", "isBlockDue", "(LObservedBlocks$Message;)Z"⟩, 14) := ⟨⟨by decide +kernel, by decide +kernel⟩, List.mem_of_getElem? (i := 75) (by decide +kernel), List.mem_of_getElem? (i := 695) (by decide +kernel), List.mem_of_getElem? (i := 696) (by decide +kernel)⟩
theorem lw_p14 : lw_okq (⟨"ObservedBlocks$Slot", "takeBlock", "(LObservedBlocks$Message;)Z"⟩, 14) := ⟨⟨by decide +kernel, by decide +kernel⟩, List.mem_of_getElem? (i := 75) (by decide +kernel), List.mem_of_getElem? (i := 703) (by decide +kernel), List.mem_of_getElem? (i := 704) (by decide +kernel)⟩
theorem lw_p15 : lw_okq (⟨"ObservedBlocks$Slot", "goOn", "(LObservedBlocks$Message;)Z"⟩, 14) := ⟨⟨by decide +kernel, by decide +kernel⟩, List.mem_of_getElem? (i := 75) (by decide +kernel), List.mem_of_getElem? (i := 712) (by decide +kernel), List.mem_of_getElem? (i := 713) (by decide +kernel)⟩
def lw_privs_1 : List (MethodName × Nat) := [(⟨"ObservedBlocks$Writer", "addHead", "(II)V"⟩, 2), (⟨"ObservedBlocks$Server", "tell", "(LObservedBlocks$Watcher;)V"⟩, 10), (⟨"ObservedBlocks$Server", "blockIn", "(III)I"⟩, 10), (⟨"ObservedBlocks$Server", "endWatch", "(I)V"⟩, 10), (⟨"ObservedBlocks$Message", "forget", "()V"⟩, 15), (⟨"ObservedBlocks$Message", "readOptions", "(LObservedBlocks$Bytes;)Z"⟩, 15), (⟨"ObservedBlocks$Message", "isAtOption", "(LObservedBlocks$Bytes;)Z"⟩, 15), (⟨"ObservedBlocks$Message", "readHead", "(LObservedBlocks$Bytes;)Z"⟩, 15), (⟨"ObservedBlocks$Message", "keepValue", "(LObservedBlocks$Bytes;)Z"⟩, 15), (⟨"ObservedBlocks$Message", "numberIn", "(LObservedBlocks$Bytes;)I"⟩, 15), (⟨"ObservedBlocks$Message", "keepSegment", "(LObservedBlocks$Bytes;)Z"⟩, 15), (⟨"ObservedBlocks$Message", "readPayload", "(LObservedBlocks$Bytes;)Z"⟩, 15), (⟨"ObservedBlocks$Client", "receiveAnswer", "(LObservedBlocks$Message;)V"⟩, 4), (⟨"ObservedBlocks$Slot", "isBlockDue", "(LObservedBlocks$Message;)Z"⟩, 14), (⟨"ObservedBlocks$Slot", "takeBlock", "(LObservedBlocks$Message;)Z"⟩, 14), (⟨"ObservedBlocks$Slot", "goOn", "(LObservedBlocks$Message;)Z"⟩, 14)]
theorem lw_r1 : ∀ q ∈ lw_privs_1, lw_okq q := List.forall_mem_cons.mpr ⟨lw_p0, List.forall_mem_cons.mpr ⟨lw_p1, List.forall_mem_cons.mpr ⟨lw_p2, List.forall_mem_cons.mpr ⟨lw_p3, List.forall_mem_cons.mpr ⟨lw_p4, List.forall_mem_cons.mpr ⟨lw_p5, List.forall_mem_cons.mpr ⟨lw_p6, List.forall_mem_cons.mpr ⟨lw_p7, List.forall_mem_cons.mpr ⟨lw_p8, List.forall_mem_cons.mpr ⟨lw_p9, List.forall_mem_cons.mpr ⟨lw_p10, List.forall_mem_cons.mpr ⟨lw_p11, List.forall_mem_cons.mpr ⟨lw_p12, List.forall_mem_cons.mpr ⟨lw_p13, List.forall_mem_cons.mpr ⟨lw_p14, List.forall_mem_cons.mpr ⟨lw_p15, fun _ h => absurd h List.not_mem_nil⟩⟩⟩⟩⟩⟩⟩⟩⟩⟩⟩⟩⟩⟩⟩⟩
theorem lw_p16 : lw_okq (⟨"ObservedBlocks$Client", "receiveNews", "(LObservedBlocks$Message;)V"⟩, 4) := ⟨⟨by decide +kernel, by decide +kernel⟩, List.mem_of_getElem? (i := 68) (by decide +kernel), List.mem_of_getElem? (i := 721) (by decide +kernel), List.mem_of_getElem? (i := 722) (by decide +kernel)⟩
theorem lw_p17 : lw_okq (⟨"ObservedBlocks$Memory", "placeOf", "(I)I"⟩, 4) := ⟨⟨by decide +kernel, by decide +kernel⟩, List.mem_of_getElem? (i := 235) (by decide +kernel), List.mem_of_getElem? (i := 755) (by decide +kernel), List.mem_of_getElem? (i := 756) (by decide +kernel)⟩
theorem lw_p18 : lw_okq (⟨"ObservedBlocks$Server", "resourceUnder", "(LObservedBlocks$Message;)I"⟩, 10) := ⟨⟨by decide +kernel, by decide +kernel⟩, List.mem_of_getElem? (i := 197) (by decide +kernel), List.mem_of_getElem? (i := 759) (by decide +kernel), List.mem_of_getElem? (i := 760) (by decide +kernel)⟩
theorem lw_p19 : lw_okq (⟨"ObservedBlocks$Server", "handle", "(LObservedBlocks$Message;I)I"⟩, 10) := ⟨⟨by decide +kernel, by decide +kernel⟩, List.mem_of_getElem? (i := 197) (by decide +kernel), List.mem_of_getElem? (i := 776) (by decide +kernel), List.mem_of_getElem? (i := 777) (by decide +kernel)⟩
theorem lw_p20 : lw_okq (⟨"ObservedBlocks$Server", "takePart", "(LObservedBlocks$Message;I)I"⟩, 10) := ⟨⟨by decide +kernel, by decide +kernel⟩, List.mem_of_getElem? (i := 197) (by decide +kernel), List.mem_of_getElem? (i := 780) (by decide +kernel), List.mem_of_getElem? (i := 781) (by decide +kernel)⟩
theorem lw_p21 : lw_okq (⟨"ObservedBlocks$Server", "addContent", "(LObservedBlocks$Message;I)V"⟩, 10) := ⟨⟨by decide +kernel, by decide +kernel⟩, List.mem_of_getElem? (i := 197) (by decide +kernel), List.mem_of_getElem? (i := 791) (by decide +kernel), List.mem_of_getElem? (i := 792) (by decide +kernel)⟩
theorem lw_p22 : lw_okq (⟨"ObservedBlocks$Server", "beginWatch", "(III)Z"⟩, 10) := ⟨⟨by decide +kernel, by decide +kernel⟩, List.mem_of_getElem? (i := 197) (by decide +kernel), List.mem_of_getElem? (i := 795) (by decide +kernel), List.mem_of_getElem? (i := 796) (by decide +kernel)⟩
theorem lw_p23 : lw_okq (⟨"ObservedBlocks$Server", "watcherWith", "(I)I"⟩, 10) := ⟨⟨by decide +kernel, by decide +kernel⟩, List.mem_of_getElem? (i := 197) (by decide +kernel), List.mem_of_getElem? (i := 799) (by decide +kernel), List.mem_of_getElem? (i := 800) (by decide +kernel)⟩
theorem lw_p24 : lw_okq (⟨"ObservedBlocks$Memory", "takeOut", "(I)V"⟩, 4) := ⟨⟨by decide +kernel, by decide +kernel⟩, List.mem_of_getElem? (i := 235) (by decide +kernel), List.mem_of_getElem? (i := 812) (by decide +kernel), List.mem_of_getElem? (i := 813) (by decide +kernel)⟩
theorem lw_p25 : lw_okq (⟨"ObservedBlocksModel", "use", "(III)I"⟩, 61) := ⟨⟨by decide +kernel, by decide +kernel⟩, List.mem_of_getElem? (i := 869) (by decide +kernel), List.mem_of_getElem? (i := 1067) (by decide +kernel), List.mem_of_getElem? (i := 1068) (by decide +kernel)⟩
theorem lw_p26 : lw_okq (⟨"ObservedBlocksModel", "ask", "(IZ)V"⟩, 61) := ⟨⟨by decide +kernel, by decide +kernel⟩, List.mem_of_getElem? (i := 869) (by decide +kernel), List.mem_of_getElem? (i := 1071) (by decide +kernel), List.mem_of_getElem? (i := 1072) (by decide +kernel)⟩
theorem lw_p27 : lw_okq (⟨"ObservedBlocksModel", "begin", "(III)V"⟩, 61) := ⟨⟨by decide +kernel, by decide +kernel⟩, List.mem_of_getElem? (i := 869) (by decide +kernel), List.mem_of_getElem? (i := 1075) (by decide +kernel), List.mem_of_getElem? (i := 1076) (by decide +kernel)⟩
theorem lw_p28 : lw_okq (⟨"ObservedBlocksModel", "write", "(I)V"⟩, 61) := ⟨⟨by decide +kernel, by decide +kernel⟩, List.mem_of_getElem? (i := 869) (by decide +kernel), List.mem_of_getElem? (i := 1079) (by decide +kernel), List.mem_of_getElem? (i := 1080) (by decide +kernel)⟩
theorem lw_p29 : lw_okq (⟨"ObservedBlocksModel", "option", "(II)V"⟩, 61) := ⟨⟨by decide +kernel, by decide +kernel⟩, List.mem_of_getElem? (i := 869) (by decide +kernel), List.mem_of_getElem? (i := 1083) (by decide +kernel), List.mem_of_getElem? (i := 1084) (by decide +kernel)⟩
theorem lw_p30 : lw_okq (⟨"ObservedBlocksModel", "head", "(II)V"⟩, 61) := ⟨⟨by decide +kernel, by decide +kernel⟩, List.mem_of_getElem? (i := 869) (by decide +kernel), List.mem_of_getElem? (i := 1087) (by decide +kernel), List.mem_of_getElem? (i := 1088) (by decide +kernel)⟩
theorem lw_p31 : lw_okq (⟨"ObservedBlocksModel", "path", "(I)V"⟩, 61) := ⟨⟨by decide +kernel, by decide +kernel⟩, List.mem_of_getElem? (i := 869) (by decide +kernel), List.mem_of_getElem? (i := 1091) (by decide +kernel), List.mem_of_getElem? (i := 1092) (by decide +kernel)⟩
def lw_privs_2 : List (MethodName × Nat) := [(⟨"ObservedBlocks$Client", "receiveNews", "(LObservedBlocks$Message;)V"⟩, 4), (⟨"ObservedBlocks$Memory", "placeOf", "(I)I"⟩, 4), (⟨"ObservedBlocks$Server", "resourceUnder", "(LObservedBlocks$Message;)I"⟩, 10), (⟨"ObservedBlocks$Server", "handle", "(LObservedBlocks$Message;I)I"⟩, 10), (⟨"ObservedBlocks$Server", "takePart", "(LObservedBlocks$Message;I)I"⟩, 10), (⟨"ObservedBlocks$Server", "addContent", "(LObservedBlocks$Message;I)V"⟩, 10), (⟨"ObservedBlocks$Server", "beginWatch", "(III)Z"⟩, 10), (⟨"ObservedBlocks$Server", "watcherWith", "(I)I"⟩, 10), (⟨"ObservedBlocks$Memory", "takeOut", "(I)V"⟩, 4), (⟨"ObservedBlocksModel", "use", "(III)I"⟩, 61), (⟨"ObservedBlocksModel", "ask", "(IZ)V"⟩, 61), (⟨"ObservedBlocksModel", "begin", "(III)V"⟩, 61), (⟨"ObservedBlocksModel", "write", "(I)V"⟩, 61), (⟨"ObservedBlocksModel", "option", "(II)V"⟩, 61), (⟨"ObservedBlocksModel", "head", "(II)V"⟩, 61), (⟨"ObservedBlocksModel", "path", "(I)V"⟩, 61)]
theorem lw_r2 : ∀ q ∈ lw_privs_2, lw_okq q := List.forall_mem_cons.mpr ⟨lw_p16, List.forall_mem_cons.mpr ⟨lw_p17, List.forall_mem_cons.mpr ⟨lw_p18, List.forall_mem_cons.mpr ⟨lw_p19, List.forall_mem_cons.mpr ⟨lw_p20, List.forall_mem_cons.mpr ⟨lw_p21, List.forall_mem_cons.mpr ⟨lw_p22, List.forall_mem_cons.mpr ⟨lw_p23, List.forall_mem_cons.mpr ⟨lw_p24, List.forall_mem_cons.mpr ⟨lw_p25, List.forall_mem_cons.mpr ⟨lw_p26, List.forall_mem_cons.mpr ⟨lw_p27, List.forall_mem_cons.mpr ⟨lw_p28, List.forall_mem_cons.mpr ⟨lw_p29, List.forall_mem_cons.mpr ⟨lw_p30, List.forall_mem_cons.mpr ⟨lw_p31, fun _ h => absurd h List.not_mem_nil⟩⟩⟩⟩⟩⟩⟩⟩⟩⟩⟩⟩⟩⟩⟩⟩
theorem lw_p32 : lw_okq (⟨"ObservedBlocksModel", "hold", "(II)V"⟩, 61) := ⟨⟨by decide +kernel, by decide +kernel⟩, List.mem_of_getElem? (i := 869) (by decide +kernel), List.mem_of_getElem? (i := 1104) (by decide +kernel), List.mem_of_getElem? (i := 1105) (by decide +kernel)⟩
theorem lw_p33 : lw_okq (⟨"ObservedBlocksModel", "send", "(I)V"⟩, 61) := ⟨⟨by decide +kernel, by decide +kernel⟩, List.mem_of_getElem? (i := 869) (by decide +kernel), List.mem_of_getElem? (i := 1109) (by decide +kernel), List.mem_of_getElem? (i := 1110) (by decide +kernel)⟩
theorem lw_p34 : lw_okq (⟨"ObservedBlocksModel", "tellAll", "(I)V"⟩, 61) := ⟨⟨by decide +kernel, by decide +kernel⟩, List.mem_of_getElem? (i := 869) (by decide +kernel), List.mem_of_getElem? (i := 1125) (by decide +kernel), List.mem_of_getElem? (i := 1126) (by decide +kernel)⟩
theorem lw_p35 : lw_okq (⟨"ObservedBlocksModel", "tell", "(I)V"⟩, 61) := ⟨⟨by decide +kernel, by decide +kernel⟩, List.mem_of_getElem? (i := 869) (by decide +kernel), List.mem_of_getElem? (i := 1129) (by decide +kernel), List.mem_of_getElem? (i := 1130) (by decide +kernel)⟩
theorem lw_p36 : lw_okq (⟨"ObservedBlocksModel", "writeContent", "(III)V"⟩, 61) := ⟨⟨by decide +kernel, by decide +kernel⟩, List.mem_of_getElem? (i := 869) (by decide +kernel), List.mem_of_getElem? (i := 1133) (by decide +kernel), List.mem_of_getElem? (i := 1134) (by decide +kernel)⟩
theorem lw_p37 : lw_okq (⟨"ObservedBlocksModel", "wears", "(I)Z"⟩, 61) := ⟨⟨by decide +kernel, by decide +kernel⟩, List.mem_of_getElem? (i := 869) (by decide +kernel), List.mem_of_getElem? (i := 1141) (by decide +kernel), List.mem_of_getElem? (i := 1142) (by decide +kernel)⟩
theorem lw_p38 : lw_okq (⟨"ObservedBlocksModel", "sendAgain", "(I)V"⟩, 61) := ⟨⟨by decide +kernel, by decide +kernel⟩, List.mem_of_getElem? (i := 869) (by decide +kernel), List.mem_of_getElem? (i := 1145) (by decide +kernel), List.mem_of_getElem? (i := 1146) (by decide +kernel)⟩
theorem lw_p39 : lw_okq (⟨"ObservedBlocksModel", "dropWatcher", "(I)V"⟩, 61) := ⟨⟨by decide +kernel, by decide +kernel⟩, List.mem_of_getElem? (i := 869) (by decide +kernel), List.mem_of_getElem? (i := 1149) (by decide +kernel), List.mem_of_getElem? (i := 1150) (by decide +kernel)⟩
theorem lw_p40 : lw_okq (⟨"ObservedBlocksModel", "isDatagram", "(I)Z"⟩, 61) := ⟨⟨by decide +kernel, by decide +kernel⟩, List.mem_of_getElem? (i := 869) (by decide +kernel), List.mem_of_getElem? (i := 1157) (by decide +kernel), List.mem_of_getElem? (i := 1158) (by decide +kernel)⟩
theorem lw_p41 : lw_okq (⟨"ObservedBlocksModel", "take", "(I)V"⟩, 61) := ⟨⟨by decide +kernel, by decide +kernel⟩, List.mem_of_getElem? (i := 869) (by decide +kernel), List.mem_of_getElem? (i := 1161) (by decide +kernel), List.mem_of_getElem? (i := 1162) (by decide +kernel)⟩
theorem lw_p42 : lw_okq (⟨"ObservedBlocksModel", "read", "()Z"⟩, 61) := ⟨⟨by decide +kernel, by decide +kernel⟩, List.mem_of_getElem? (i := 869) (by decide +kernel), List.mem_of_getElem? (i := 1165) (by decide +kernel), List.mem_of_getElem? (i := 1166) (by decide +kernel)⟩
theorem lw_p43 : lw_okq (⟨"ObservedBlocksModel", "readOptions", "(I)I"⟩, 61) := ⟨⟨by decide +kernel, by decide +kernel⟩, List.mem_of_getElem? (i := 869) (by decide +kernel), List.mem_of_getElem? (i := 1169) (by decide +kernel), List.mem_of_getElem? (i := 1170) (by decide +kernel)⟩
theorem lw_p44 : lw_okq (⟨"ObservedBlocksModel", "readNumber", "(III)Z"⟩, 61) := ⟨⟨by decide +kernel, by decide +kernel⟩, List.mem_of_getElem? (i := 869) (by decide +kernel), List.mem_of_getElem? (i := 1173) (by decide +kernel), List.mem_of_getElem? (i := 1174) (by decide +kernel)⟩
theorem lw_p45 : lw_okq (⟨"ObservedBlocksModel", "toClient", "()V"⟩, 61) := ⟨⟨by decide +kernel, by decide +kernel⟩, List.mem_of_getElem? (i := 869) (by decide +kernel), List.mem_of_getElem? (i := 1177) (by decide +kernel), List.mem_of_getElem? (i := 1178) (by decide +kernel)⟩
theorem lw_p46 : lw_okq (⟨"ObservedBlocksModel", "answered", "(I)V"⟩, 61) := ⟨⟨by decide +kernel, by decide +kernel⟩, List.mem_of_getElem? (i := 869) (by decide +kernel), List.mem_of_getElem? (i := 1181) (by decide +kernel), List.mem_of_getElem? (i := 1182) (by decide +kernel)⟩
theorem lw_p47 : lw_okq (⟨"ObservedBlocksModel", "append", "(I)V"⟩, 61) := ⟨⟨by decide +kernel, by decide +kernel⟩, List.mem_of_getElem? (i := 869) (by decide +kernel), List.mem_of_getElem? (i := 1185) (by decide +kernel), List.mem_of_getElem? (i := 1186) (by decide +kernel)⟩
def lw_privs_3 : List (MethodName × Nat) := [(⟨"ObservedBlocksModel", "hold", "(II)V"⟩, 61), (⟨"ObservedBlocksModel", "send", "(I)V"⟩, 61), (⟨"ObservedBlocksModel", "tellAll", "(I)V"⟩, 61), (⟨"ObservedBlocksModel", "tell", "(I)V"⟩, 61), (⟨"ObservedBlocksModel", "writeContent", "(III)V"⟩, 61), (⟨"ObservedBlocksModel", "wears", "(I)Z"⟩, 61), (⟨"ObservedBlocksModel", "sendAgain", "(I)V"⟩, 61), (⟨"ObservedBlocksModel", "dropWatcher", "(I)V"⟩, 61), (⟨"ObservedBlocksModel", "isDatagram", "(I)Z"⟩, 61), (⟨"ObservedBlocksModel", "take", "(I)V"⟩, 61), (⟨"ObservedBlocksModel", "read", "()Z"⟩, 61), (⟨"ObservedBlocksModel", "readOptions", "(I)I"⟩, 61), (⟨"ObservedBlocksModel", "readNumber", "(III)Z"⟩, 61), (⟨"ObservedBlocksModel", "toClient", "()V"⟩, 61), (⟨"ObservedBlocksModel", "answered", "(I)V"⟩, 61), (⟨"ObservedBlocksModel", "append", "(I)V"⟩, 61)]
theorem lw_r3 : ∀ q ∈ lw_privs_3, lw_okq q := List.forall_mem_cons.mpr ⟨lw_p32, List.forall_mem_cons.mpr ⟨lw_p33, List.forall_mem_cons.mpr ⟨lw_p34, List.forall_mem_cons.mpr ⟨lw_p35, List.forall_mem_cons.mpr ⟨lw_p36, List.forall_mem_cons.mpr ⟨lw_p37, List.forall_mem_cons.mpr ⟨lw_p38, List.forall_mem_cons.mpr ⟨lw_p39, List.forall_mem_cons.mpr ⟨lw_p40, List.forall_mem_cons.mpr ⟨lw_p41, List.forall_mem_cons.mpr ⟨lw_p42, List.forall_mem_cons.mpr ⟨lw_p43, List.forall_mem_cons.mpr ⟨lw_p44, List.forall_mem_cons.mpr ⟨lw_p45, List.forall_mem_cons.mpr ⟨lw_p46, List.forall_mem_cons.mpr ⟨lw_p47, fun _ h => absurd h List.not_mem_nil⟩⟩⟩⟩⟩⟩⟩⟩⟩⟩⟩⟩⟩⟩⟩⟩
theorem lw_p48 : lw_okq (⟨"ObservedBlocksModel", "told", "(I)V"⟩, 61) := ⟨⟨by decide +kernel, by decide +kernel⟩, List.mem_of_getElem? (i := 869) (by decide +kernel), List.mem_of_getElem? (i := 1189) (by decide +kernel), List.mem_of_getElem? (i := 1190) (by decide +kernel)⟩
theorem lw_p49 : lw_okq (⟨"ObservedBlocksModel", "bare", "(III)V"⟩, 61) := ⟨⟨by decide +kernel, by decide +kernel⟩, List.mem_of_getElem? (i := 869) (by decide +kernel), List.mem_of_getElem? (i := 1193) (by decide +kernel), List.mem_of_getElem? (i := 1194) (by decide +kernel)⟩
theorem lw_p50 : lw_okq (⟨"ObservedBlocksModel", "toServer", "()V"⟩, 61) := ⟨⟨by decide +kernel, by decide +kernel⟩, List.mem_of_getElem? (i := 869) (by decide +kernel), List.mem_of_getElem? (i := 1197) (by decide +kernel), List.mem_of_getElem? (i := 1198) (by decide +kernel)⟩
theorem lw_p51 : lw_okq (⟨"ObservedBlocksModel", "answerOf", "(I)I"⟩, 61) := ⟨⟨by decide +kernel, by decide +kernel⟩, List.mem_of_getElem? (i := 869) (by decide +kernel), List.mem_of_getElem? (i := 1201) (by decide +kernel), List.mem_of_getElem? (i := 1202) (by decide +kernel)⟩
theorem lw_p52 : lw_okq (⟨"ObservedBlocksModel", "handle", "()V"⟩, 61) := ⟨⟨by decide +kernel, by decide +kernel⟩, List.mem_of_getElem? (i := 869) (by decide +kernel), List.mem_of_getElem? (i := 1205) (by decide +kernel), List.mem_of_getElem? (i := 1206) (by decide +kernel)⟩
theorem lw_p53 : lw_okq (⟨"ObservedBlocksModel", "resource", "()I"⟩, 61) := ⟨⟨by decide +kernel, by decide +kernel⟩, List.mem_of_getElem? (i := 869) (by decide +kernel), List.mem_of_getElem? (i := 1209) (by decide +kernel), List.mem_of_getElem? (i := 1210) (by decide +kernel)⟩
theorem lw_p54 : lw_okq (⟨"ObservedBlocksModel", "segment", "(III)Z"⟩, 61) := ⟨⟨by decide +kernel, by decide +kernel⟩, List.mem_of_getElem? (i := 869) (by decide +kernel), List.mem_of_getElem? (i := 1213) (by decide +kernel), List.mem_of_getElem? (i := 1214) (by decide +kernel)⟩
theorem lw_p55 : lw_okq (⟨"ObservedBlocksModel", "answerGet", "(I)V"⟩, 61) := ⟨⟨by decide +kernel, by decide +kernel⟩, List.mem_of_getElem? (i := 869) (by decide +kernel), List.mem_of_getElem? (i := 1217) (by decide +kernel), List.mem_of_getElem? (i := 1218) (by decide +kernel)⟩
theorem lw_p56 : lw_okq (⟨"ObservedBlocksModel", "registers", "(III)Z"⟩, 61) := ⟨⟨by decide +kernel, by decide +kernel⟩, List.mem_of_getElem? (i := 869) (by decide +kernel), List.mem_of_getElem? (i := 1221) (by decide +kernel), List.mem_of_getElem? (i := 1222) (by decide +kernel)⟩
theorem lw_p57 : lw_okq (⟨"ObservedBlocksModel", "watcherOf", "(I)I"⟩, 61) := ⟨⟨by decide +kernel, by decide +kernel⟩, List.mem_of_getElem? (i := 869) (by decide +kernel), List.mem_of_getElem? (i := 1225) (by decide +kernel), List.mem_of_getElem? (i := 1226) (by decide +kernel)⟩
theorem lw_p58 : lw_okq (⟨"ObservedBlocksModel", "takePart", "(I)I"⟩, 61) := ⟨⟨by decide +kernel, by decide +kernel⟩, List.mem_of_getElem? (i := 869) (by decide +kernel), List.mem_of_getElem? (i := 1229) (by decide +kernel), List.mem_of_getElem? (i := 1230) (by decide +kernel)⟩
theorem lw_p59 : lw_okq (⟨"ObservedBlocksModel", "remember", "()V"⟩, 61) := ⟨⟨by decide +kernel, by decide +kernel⟩, List.mem_of_getElem? (i := 869) (by decide +kernel), List.mem_of_getElem? (i := 1233) (by decide +kernel), List.mem_of_getElem? (i := 1234) (by decide +kernel)⟩
theorem lw_p60 : lw_okq (⟨"ObservedBlocksModel", "forgetAnswer", "(I)V"⟩, 61) := ⟨⟨by decide +kernel, by decide +kernel⟩, List.mem_of_getElem? (i := 869) (by decide +kernel), List.mem_of_getElem? (i := 1237) (by decide +kernel), List.mem_of_getElem? (i := 1238) (by decide +kernel)⟩
def lw_privs_4 : List (MethodName × Nat) := [(⟨"ObservedBlocksModel", "told", "(I)V"⟩, 61), (⟨"ObservedBlocksModel", "bare", "(III)V"⟩, 61), (⟨"ObservedBlocksModel", "toServer", "()V"⟩, 61), (⟨"ObservedBlocksModel", "answerOf", "(I)I"⟩, 61), (⟨"ObservedBlocksModel", "handle", "()V"⟩, 61), (⟨"ObservedBlocksModel", "resource", "()I"⟩, 61), (⟨"ObservedBlocksModel", "segment", "(III)Z"⟩, 61), (⟨"ObservedBlocksModel", "answerGet", "(I)V"⟩, 61), (⟨"ObservedBlocksModel", "registers", "(III)Z"⟩, 61), (⟨"ObservedBlocksModel", "watcherOf", "(I)I"⟩, 61), (⟨"ObservedBlocksModel", "takePart", "(I)I"⟩, 61), (⟨"ObservedBlocksModel", "remember", "()V"⟩, 61), (⟨"ObservedBlocksModel", "forgetAnswer", "(I)V"⟩, 61)]
theorem lw_r4 : ∀ q ∈ lw_privs_4, lw_okq q := List.forall_mem_cons.mpr ⟨lw_p48, List.forall_mem_cons.mpr ⟨lw_p49, List.forall_mem_cons.mpr ⟨lw_p50, List.forall_mem_cons.mpr ⟨lw_p51, List.forall_mem_cons.mpr ⟨lw_p52, List.forall_mem_cons.mpr ⟨lw_p53, List.forall_mem_cons.mpr ⟨lw_p54, List.forall_mem_cons.mpr ⟨lw_p55, List.forall_mem_cons.mpr ⟨lw_p56, List.forall_mem_cons.mpr ⟨lw_p57, List.forall_mem_cons.mpr ⟨lw_p58, List.forall_mem_cons.mpr ⟨lw_p59, List.forall_mem_cons.mpr ⟨lw_p60, fun _ h => absurd h List.not_mem_nil⟩⟩⟩⟩⟩⟩⟩⟩⟩⟩⟩⟩⟩
def lw_privs : List (MethodName × Nat) := lw_privs_1 ++ (lw_privs_2 ++ (lw_privs_3 ++ (lw_privs_4)))
def lw_tbl : List Cond := k2_sels lw_privs ++ tables_1
theorem lw_privs_ok : ∀ q ∈ lw_privs, lw_okq q := by
  show ∀ q ∈ lw_privs_1 ++ (lw_privs_2 ++ (lw_privs_3 ++ (lw_privs_4))), lw_okq q
  exact List.forall_mem_append.mpr ⟨lw_r1, List.forall_mem_append.mpr ⟨lw_r2, List.forall_mem_append.mpr ⟨lw_r3, lw_r4⟩⟩⟩

/-! NAMES: objects, their fields, methods -/
def ob_fu : Nat := 2000
def T_0 : u_T := fun k => match k with
  | 0 => ("ObservedBlocks$Bytes", "at", "[I", true)
  | _ => ("ObservedBlocks$Bytes", "length", "I", false)
def ty_0 : Nat → FieldType := fun k => match k with
  | 0 => (.array .int)
  | _ => .int
def T_1 : u_T := fun k => match k with
  | 0 => ("ObservedBlocks$Line", "rows", "[LObservedBlocks$Bytes;", true)
  | 1 => ("ObservedBlocks$Line", "ends", "[I", true)
  | _ => ("ObservedBlocks$Line", "count", "I", false)
def ty_1 : Nat → FieldType := fun k => match k with
  | 0 => (.array (.object "ObservedBlocks$Bytes"))
  | 1 => (.array .int)
  | _ => .int
def T_2 : u_T := fun k => match k with
  | 0 => ("ObservedBlocks$Memory", "rows", "[LObservedBlocks$Bytes;", true)
  | 1 => ("ObservedBlocks$Memory", "ids", "[I", true)
  | 2 => ("ObservedBlocks$Memory", "times", "[I", true)
  | _ => ("ObservedBlocks$Memory", "count", "I", false)
def ty_2 : Nat → FieldType := fun k => match k with
  | 0 => (.array (.object "ObservedBlocks$Bytes"))
  | 1 => (.array .int)
  | 2 => (.array .int)
  | _ => .int
def T_3 : u_T := fun k => match k with
  | 0 => ("ObservedBlocks$Pending", "row", "LObservedBlocks$Bytes;", true)
  | 1 => ("ObservedBlocks$Pending", "id", "I", false)
  | 2 => ("ObservedBlocks$Pending", "active", "Z", false)
  | 3 => ("ObservedBlocks$Pending", "left", "I", false)
  | 4 => ("ObservedBlocks$Pending", "span", "I", false)
  | _ => ("ObservedBlocks$Pending", "repeats", "I", false)
def ty_3 : Nat → FieldType := fun k => match k with
  | 0 => (.object "ObservedBlocks$Bytes")
  | 1 => .int
  | 2 => .boolean
  | 3 => .int
  | 4 => .int
  | _ => .int
def T_4 : u_T := fun k => match k with
  | 0 => ("ObservedBlocks$Writer", "row", "LObservedBlocks$Bytes;", true)
  | _ => ("ObservedBlocks$Writer", "lastNumber", "I", false)
def ty_4 : Nat → FieldType := fun k => match k with
  | 0 => (.object "ObservedBlocks$Bytes")
  | _ => .int
def T_5 : u_T := fun k => match k with
  | 0 => ("ObservedBlocks$Watcher", "pending", "LObservedBlocks$Pending;", true)
  | 1 => ("ObservedBlocks$Watcher", "token", "I", false)
  | 2 => ("ObservedBlocks$Watcher", "resource", "I", false)
  | 3 => ("ObservedBlocks$Watcher", "szx", "I", false)
  | _ => ("ObservedBlocks$Watcher", "changed", "Z", false)
def ty_5 : Nat → FieldType := fun k => match k with
  | 0 => (.object "ObservedBlocks$Pending")
  | 1 => .int
  | 2 => .int
  | 3 => .int
  | _ => .boolean
def T_6 : u_T := fun k => match k with
  | 0 => ("ObservedBlocks$Slot", "bytes", "LObservedBlocks$Bytes;", true)
  | 1 => ("ObservedBlocks$Slot", "pending", "LObservedBlocks$Pending;", true)
  | 2 => ("ObservedBlocks$Slot", "state", "I", false)
  | 3 => ("ObservedBlocks$Slot", "token", "I", false)
  | 4 => ("ObservedBlocks$Slot", "path", "I", false)
  | 5 => ("ObservedBlocks$Slot", "szx", "I", false)
  | 6 => ("ObservedBlocks$Slot", "num", "I", false)
  | 7 => ("ObservedBlocks$Slot", "puts", "Z", false)
  | 8 => ("ObservedBlocks$Slot", "index", "I", true)
  | 9 => ("ObservedBlocks$Slot", "uses", "I", false)
  | 10 => ("ObservedBlocks$Slot", "isToWatch", "Z", false)
  | 11 => ("ObservedBlocks$Slot", "watches", "Z", false)
  | 12 => ("ObservedBlocks$Slot", "last", "I", false)
  | _ => ("ObservedBlocks$Slot", "reason", "I", false)
def ty_6 : Nat → FieldType := fun k => match k with
  | 0 => (.object "ObservedBlocks$Bytes")
  | 1 => (.object "ObservedBlocks$Pending")
  | 2 => .int
  | 3 => .int
  | 4 => .int
  | 5 => .int
  | 6 => .int
  | 7 => .boolean
  | 8 => .int
  | 9 => .int
  | 10 => .boolean
  | 11 => .boolean
  | 12 => .int
  | _ => .int
def T_7 : u_T := fun k => match k with
  | 0 => ("ObservedBlocks$Client", "slots", "[LObservedBlocks$Slot;", true)
  | 1 => ("ObservedBlocks$Client", "line", "LObservedBlocks$Line;", true)
  | 2 => ("ObservedBlocks$Client", "writer", "LObservedBlocks$Writer;", true)
  | _ => ("ObservedBlocks$Client", "nextId", "I", false)
def ty_7 : Nat → FieldType := fun k => match k with
  | 0 => (.array (.object "ObservedBlocks$Slot"))
  | 1 => (.object "ObservedBlocks$Line")
  | 2 => (.object "ObservedBlocks$Writer")
  | _ => .int
def T_8 : u_T := fun k => match k with
  | 0 => ("ObservedBlocks$Message", "type", "I", false)
  | 1 => ("ObservedBlocks$Message", "code", "I", false)
  | 2 => ("ObservedBlocks$Message", "id", "I", false)
  | 3 => ("ObservedBlocks$Message", "token", "I", false)
  | 4 => ("ObservedBlocks$Message", "watch", "I", false)
  | 5 => ("ObservedBlocks$Message", "block2", "I", false)
  | 6 => ("ObservedBlocks$Message", "block1", "I", false)
  | 7 => ("ObservedBlocks$Message", "segments", "I", false)
  | 8 => ("ObservedBlocks$Message", "first", "LObservedBlocks$Bytes;", true)
  | 9 => ("ObservedBlocks$Message", "second", "LObservedBlocks$Bytes;", true)
  | 10 => ("ObservedBlocks$Message", "payload", "LObservedBlocks$Bytes;", true)
  | 11 => ("ObservedBlocks$Message", "position", "I", false)
  | 12 => ("ObservedBlocks$Message", "number", "I", false)
  | 13 => ("ObservedBlocks$Message", "valueStart", "I", false)
  | _ => ("ObservedBlocks$Message", "valueLength", "I", false)
def ty_8 : Nat → FieldType := fun k => match k with
  | 0 => .int
  | 1 => .int
  | 2 => .int
  | 3 => .int
  | 4 => .int
  | 5 => .int
  | 6 => .int
  | 7 => .int
  | 8 => (.object "ObservedBlocks$Bytes")
  | 9 => (.object "ObservedBlocks$Bytes")
  | 10 => (.object "ObservedBlocks$Bytes")
  | 11 => .int
  | 12 => .int
  | 13 => .int
  | _ => .int
def T_9 : u_T := fun k => match k with
  | 0 => ("ObservedBlocks$Server", "contents", "[LObservedBlocks$Bytes;", true)
  | 1 => ("ObservedBlocks$Server", "handled", "I", false)
  | 2 => ("ObservedBlocks$Server", "watcherCount", "I", false)
  | 3 => ("ObservedBlocks$Server", "seen", "I", false)
  | 4 => ("ObservedBlocks$Server", "parts", "[LObservedBlocks$Bytes;", true)
  | 5 => ("ObservedBlocks$Server", "watchers", "[LObservedBlocks$Watcher;", true)
  | 6 => ("ObservedBlocks$Server", "memory", "LObservedBlocks$Memory;", true)
  | 7 => ("ObservedBlocks$Server", "line", "LObservedBlocks$Line;", true)
  | 8 => ("ObservedBlocks$Server", "writer", "LObservedBlocks$Writer;", true)
  | _ => ("ObservedBlocks$Server", "nextId", "I", false)
def ty_9 : Nat → FieldType := fun k => match k with
  | 0 => (.array (.object "ObservedBlocks$Bytes"))
  | 1 => .int
  | 2 => .int
  | 3 => .int
  | 4 => (.array (.object "ObservedBlocks$Bytes"))
  | 5 => (.array (.object "ObservedBlocks$Watcher"))
  | 6 => (.object "ObservedBlocks$Memory")
  | 7 => (.object "ObservedBlocks$Line")
  | 8 => (.object "ObservedBlocks$Writer")
  | _ => .int
def T_10 : u_T := fun k => match k with
  | 0 => ("ObservedBlocks", "line", "LObservedBlocks$Line;", true)
  | 1 => ("ObservedBlocks", "clientEnd", "LObservedBlocks$Client;", true)
  | 2 => ("ObservedBlocks", "serverEnd", "LObservedBlocks$Server;", true)
  | 3 => ("ObservedBlocks", "arrived", "LObservedBlocks$Message;", true)
  | _ => ("ObservedBlocks", "time", "I", false)
def ty_10 : Nat → FieldType := fun k => match k with
  | 0 => (.object "ObservedBlocks$Line")
  | 1 => (.object "ObservedBlocks$Client")
  | 2 => (.object "ObservedBlocks$Server")
  | 3 => (.object "ObservedBlocks$Message")
  | _ => .int
def T_11 : u_T := fun k => match k with
  | 0 => ("ObservedBlocksModel", "line", "[I", true)
  | 1 => ("ObservedBlocksModel", "lengths", "[I", true)
  | 2 => ("ObservedBlocksModel", "goals", "[I", true)
  | 3 => ("ObservedBlocksModel", "many", "I", false)
  | 4 => ("ObservedBlocksModel", "time", "I", false)
  | 5 => ("ObservedBlocksModel", "clientNext", "I", false)
  | 6 => ("ObservedBlocksModel", "serverNext", "I", false)
  | 7 => ("ObservedBlocksModel", "pending", "[Z", true)
  | 8 => ("ObservedBlocksModel", "ids", "[I", true)
  | 9 => ("ObservedBlocksModel", "left", "[I", true)
  | 10 => ("ObservedBlocksModel", "span", "[I", true)
  | 11 => ("ObservedBlocksModel", "repeats", "[I", true)
  | 12 => ("ObservedBlocksModel", "kept", "[I", true)
  | 13 => ("ObservedBlocksModel", "keptLength", "[I", true)
  | 14 => ("ObservedBlocksModel", "states", "[I", true)
  | 15 => ("ObservedBlocksModel", "uses", "[I", true)
  | 16 => ("ObservedBlocksModel", "tokens", "[I", true)
  | 17 => ("ObservedBlocksModel", "paths", "[I", true)
  | 18 => ("ObservedBlocksModel", "szxs", "[I", true)
  | 19 => ("ObservedBlocksModel", "nums", "[I", true)
  | 20 => ("ObservedBlocksModel", "puts", "[Z", true)
  | 21 => ("ObservedBlocksModel", "wishes", "[Z", true)
  | 22 => ("ObservedBlocksModel", "watches", "[Z", true)
  | 23 => ("ObservedBlocksModel", "lasts", "[I", true)
  | 24 => ("ObservedBlocksModel", "reasons", "[I", true)
  | 25 => ("ObservedBlocksModel", "asked", "[Z", true)
  | 26 => ("ObservedBlocksModel", "bodies", "[I", true)
  | 27 => ("ObservedBlocksModel", "bodyLength", "[I", true)
  | 28 => ("ObservedBlocksModel", "contents", "[I", true)
  | 29 => ("ObservedBlocksModel", "contentLength", "[I", true)
  | 30 => ("ObservedBlocksModel", "parts", "[I", true)
  | 31 => ("ObservedBlocksModel", "partLength", "[I", true)
  | 32 => ("ObservedBlocksModel", "watchers", "I", false)
  | 33 => ("ObservedBlocksModel", "watcherToken", "[I", true)
  | 34 => ("ObservedBlocksModel", "watcherResource", "[I", true)
  | 35 => ("ObservedBlocksModel", "watcherSzx", "[I", true)
  | 36 => ("ObservedBlocksModel", "changed", "[Z", true)
  | 37 => ("ObservedBlocksModel", "seen", "I", false)
  | 38 => ("ObservedBlocksModel", "handled", "I", false)
  | 39 => ("ObservedBlocksModel", "remembered", "I", false)
  | 40 => ("ObservedBlocksModel", "memoryId", "[I", true)
  | 41 => ("ObservedBlocksModel", "memoryTime", "[I", true)
  | 42 => ("ObservedBlocksModel", "memory", "[I", true)
  | 43 => ("ObservedBlocksModel", "memoryLength", "[I", true)
  | 44 => ("ObservedBlocksModel", "out", "[I", true)
  | 45 => ("ObservedBlocksModel", "outLength", "I", false)
  | 46 => ("ObservedBlocksModel", "lastNumber", "I", false)
  | 47 => ("ObservedBlocksModel", "in", "[I", true)
  | 48 => ("ObservedBlocksModel", "inLength", "I", false)
  | 49 => ("ObservedBlocksModel", "type", "I", false)
  | 50 => ("ObservedBlocksModel", "code", "I", false)
  | 51 => ("ObservedBlocksModel", "id", "I", false)
  | 52 => ("ObservedBlocksModel", "token", "I", false)
  | 53 => ("ObservedBlocksModel", "watch", "I", false)
  | 54 => ("ObservedBlocksModel", "segments", "I", false)
  | 55 => ("ObservedBlocksModel", "segmentAt", "[I", true)
  | 56 => ("ObservedBlocksModel", "segmentLength", "[I", true)
  | 57 => ("ObservedBlocksModel", "block2", "I", false)
  | 58 => ("ObservedBlocksModel", "block1", "I", false)
  | 59 => ("ObservedBlocksModel", "payloadAt", "I", false)
  | _ => ("ObservedBlocksModel", "payload", "I", false)
def ty_11 : Nat → FieldType := fun k => match k with
  | 0 => (.array .int)
  | 1 => (.array .int)
  | 2 => (.array .int)
  | 3 => .int
  | 4 => .int
  | 5 => .int
  | 6 => .int
  | 7 => (.array .boolean)
  | 8 => (.array .int)
  | 9 => (.array .int)
  | 10 => (.array .int)
  | 11 => (.array .int)
  | 12 => (.array .int)
  | 13 => (.array .int)
  | 14 => (.array .int)
  | 15 => (.array .int)
  | 16 => (.array .int)
  | 17 => (.array .int)
  | 18 => (.array .int)
  | 19 => (.array .int)
  | 20 => (.array .boolean)
  | 21 => (.array .boolean)
  | 22 => (.array .boolean)
  | 23 => (.array .int)
  | 24 => (.array .int)
  | 25 => (.array .boolean)
  | 26 => (.array .int)
  | 27 => (.array .int)
  | 28 => (.array .int)
  | 29 => (.array .int)
  | 30 => (.array .int)
  | 31 => (.array .int)
  | 32 => .int
  | 33 => (.array .int)
  | 34 => (.array .int)
  | 35 => (.array .int)
  | 36 => (.array .boolean)
  | 37 => .int
  | 38 => .int
  | 39 => .int
  | 40 => (.array .int)
  | 41 => (.array .int)
  | 42 => (.array .int)
  | 43 => (.array .int)
  | 44 => (.array .int)
  | 45 => .int
  | 46 => .int
  | 47 => (.array .int)
  | 48 => .int
  | 49 => .int
  | 50 => .int
  | 51 => .int
  | 52 => .int
  | 53 => .int
  | 54 => .int
  | 55 => (.array .int)
  | 56 => (.array .int)
  | 57 => .int
  | 58 => .int
  | 59 => .int
  | _ => .int
def ob_cl : List vw_C := [("ObservedBlocks$Bytes", T_0, 2), ("ObservedBlocks$Line", T_1, 3), ("ObservedBlocks$Memory", T_2, 4), ("ObservedBlocks$Pending", T_3, 6), ("ObservedBlocks$Writer", T_4, 2), ("ObservedBlocks$Watcher", T_5, 5), ("ObservedBlocks$Slot", T_6, 14), ("ObservedBlocks$Client", T_7, 4), ("ObservedBlocks$Message", T_8, 15), ("ObservedBlocks$Server", T_9, 10), ("ObservedBlocks", T_10, 5), ("ObservedBlocksModel", T_11, 61)]
def ob_fl (c : Nat) : List Bool := match c with
  | 0 => [true, false]
  | 1 => [true, true, false]
  | 2 => [true, true, true, false]
  | 3 => [true, false, false, false, false, false]
  | 4 => [true, false]
  | 5 => [true, false, false, false, false]
  | 6 => [true, true, false, false, false, false, false, false, false, false, false, false, false, false]
  | 7 => [true, true, true, false]
  | 8 => [false, false, false, false, false, false, false, false, true, true, true, false, false, false, false]
  | 9 => [true, false, false, false, true, true, true, true, true, false]
  | 10 => [true, true, true, true, false]
  | 11 => [true, true, true, false, false, false, false, true, true, true, true, true, true, true, true, true, true, true, true, true, true, true, true, true, true, true, true, true, true, true, true, true, false, true, true, true, true, false, false, false, true, true, true, true, true, false, false, true, false, false, false, false, false, false, false, true, true, false, false, false, false]
  | _ => []
def ob_T : List Cond := lw_tbl.filter goodWord
def ob_nest : List Cond := [.methodLinkNest "ObservedBlocks$Client" (57 : Nat) ({ cls := "ObservedBlocks", name := "firstSegmentOf", desc := "(I)Ljava/lang/String;" } : MethodName) "ObservedBlocks", .methodLinkNest "ObservedBlocks$Client" (65 : Nat) ({ cls := "ObservedBlocks", name := "secondSegmentOf", desc := "(I)Ljava/lang/String;" } : MethodName) "ObservedBlocks", .methodLinkNest "ObservedBlocks$Client" (76 : Nat) ({ cls := "ObservedBlocks", name := "sizeOf", desc := "(I)I" } : MethodName) "ObservedBlocks", .methodLinkNest "ObservedBlocks$Slot" (84 : Nat) ({ cls := "ObservedBlocks", name := "sizeOf", desc := "(I)I" } : MethodName) "ObservedBlocks", .methodLinkNest "ObservedBlocks$Client" (86 : Nat) ({ cls := "ObservedBlocks", name := "blockOf", desc := "(IZI)I" } : MethodName) "ObservedBlocks", .methodLinkNest "ObservedBlocks$Client" (114 : Nat) ({ cls := "ObservedBlocks", name := "following", desc := "(I)I" } : MethodName) "ObservedBlocks", .methodLinkNest "ObservedBlocks$Server" (163 : Nat) ({ cls := "ObservedBlocks", name := "following", desc := "(I)I" } : MethodName) "ObservedBlocks", .methodLinkNest "ObservedBlocks$Server" (133 : Nat) ({ cls := "ObservedBlocks", name := "sizeOf", desc := "(I)I" } : MethodName) "ObservedBlocks", .methodLinkNest "ObservedBlocks$Server" (179 : Nat) ({ cls := "ObservedBlocks", name := "blockOf", desc := "(IZI)I" } : MethodName) "ObservedBlocks", .methodLinkNest "ObservedBlocks$Message" (131 : Nat) ({ cls := "ObservedBlocks", name := "szxOf", desc := "(I)I" } : MethodName) "ObservedBlocks", .methodLinkNest "ObservedBlocks$Slot" (105 : Nat) ({ cls := "ObservedBlocks", name := "numOf", desc := "(I)I" } : MethodName) "ObservedBlocks", .methodLinkNest "ObservedBlocks$Slot" (108 : Nat) ({ cls := "ObservedBlocks", name := "szxOf", desc := "(I)I" } : MethodName) "ObservedBlocks", .methodLinkNest "ObservedBlocks$Slot" (132 : Nat) ({ cls := "ObservedBlocks", name := "hasMore", desc := "(I)Z" } : MethodName) "ObservedBlocks", .methodLinkNest "ObservedBlocks$Message" (33 : Nat) ({ cls := "ObservedBlocks", name := "secondSegmentOf", desc := "(I)Ljava/lang/String;" } : MethodName) "ObservedBlocks", .methodLinkNest "ObservedBlocks$Message" (46 : Nat) ({ cls := "ObservedBlocks", name := "firstSegmentOf", desc := "(I)Ljava/lang/String;" } : MethodName) "ObservedBlocks", .methodLinkNest "ObservedBlocks$Server" (126 : Nat) ({ cls := "ObservedBlocks", name := "numOf", desc := "(I)I" } : MethodName) "ObservedBlocks", .methodLinkNest "ObservedBlocks$Server" (130 : Nat) ({ cls := "ObservedBlocks", name := "szxOf", desc := "(I)I" } : MethodName) "ObservedBlocks", .methodLinkNest "ObservedBlocks$Server" (146 : Nat) ({ cls := "ObservedBlocks", name := "hasMore", desc := "(I)Z" } : MethodName) "ObservedBlocks"]
theorem ob_nest_all : ∀ w ∈ ob_nest, ∃ (own : String) (i : Nat) (y : MethodName) (h : String), w = .methodLinkNest own i y h := by
  intro w hw
  simp only [ob_nest, List.mem_cons, List.not_mem_nil, or_false] at hw
  rcases hw with rfl | rfl | rfl | rfl | rfl | rfl | rfl | rfl | rfl | rfl | rfl | rfl | rfl | rfl | rfl | rfl | rfl | rfl <;> exact ⟨_, _, _, _, rfl⟩
theorem tyk_0 : ∀ k, k < 2 → parseFieldDescriptor (T_0 k).2.2.1 = some (ty_0 k) := by decide +kernel
theorem nm_0 : ∀ a, a < 2 → ∀ b, b < 2 → a ≠ b → (T_0 a).2.1 ≠ (T_0 b).2.1 := by decide +kernel
theorem inT_0 : ∀ w ∈ u_ws "ObservedBlocks$Bytes" T_0 2, w ∈ ob_T := by decide +kernel
theorem tyk_1 : ∀ k, k < 3 → parseFieldDescriptor (T_1 k).2.2.1 = some (ty_1 k) := by decide +kernel
theorem nm_1 : ∀ a, a < 3 → ∀ b, b < 3 → a ≠ b → (T_1 a).2.1 ≠ (T_1 b).2.1 := by decide +kernel
theorem inT_1 : ∀ w ∈ u_ws "ObservedBlocks$Line" T_1 3, w ∈ ob_T := by decide +kernel
theorem tyk_2 : ∀ k, k < 4 → parseFieldDescriptor (T_2 k).2.2.1 = some (ty_2 k) := by decide +kernel
theorem nm_2 : ∀ a, a < 4 → ∀ b, b < 4 → a ≠ b → (T_2 a).2.1 ≠ (T_2 b).2.1 := by decide +kernel
theorem inT_2 : ∀ w ∈ u_ws "ObservedBlocks$Memory" T_2 4, w ∈ ob_T := by decide +kernel
theorem tyk_3 : ∀ k, k < 6 → parseFieldDescriptor (T_3 k).2.2.1 = some (ty_3 k) := by decide +kernel
theorem nm_3 : ∀ a, a < 6 → ∀ b, b < 6 → a ≠ b → (T_3 a).2.1 ≠ (T_3 b).2.1 := by decide +kernel
theorem inT_3 : ∀ w ∈ u_ws "ObservedBlocks$Pending" T_3 6, w ∈ ob_T := by decide +kernel
theorem tyk_4 : ∀ k, k < 2 → parseFieldDescriptor (T_4 k).2.2.1 = some (ty_4 k) := by decide +kernel
theorem nm_4 : ∀ a, a < 2 → ∀ b, b < 2 → a ≠ b → (T_4 a).2.1 ≠ (T_4 b).2.1 := by decide +kernel
theorem inT_4 : ∀ w ∈ u_ws "ObservedBlocks$Writer" T_4 2, w ∈ ob_T := by decide +kernel
theorem tyk_5 : ∀ k, k < 5 → parseFieldDescriptor (T_5 k).2.2.1 = some (ty_5 k) := by decide +kernel
theorem nm_5 : ∀ a, a < 5 → ∀ b, b < 5 → a ≠ b → (T_5 a).2.1 ≠ (T_5 b).2.1 := by decide +kernel
theorem inT_5 : ∀ w ∈ u_ws "ObservedBlocks$Watcher" T_5 5, w ∈ ob_T := by decide +kernel
theorem tyk_6 : ∀ k, k < 14 → parseFieldDescriptor (T_6 k).2.2.1 = some (ty_6 k) := by decide +kernel
theorem nm_6 : ∀ a, a < 14 → ∀ b, b < 14 → a ≠ b → (T_6 a).2.1 ≠ (T_6 b).2.1 := by decide +kernel
theorem inT_6 : ∀ w ∈ u_ws "ObservedBlocks$Slot" T_6 14, w ∈ ob_T := by decide +kernel
theorem tyk_7 : ∀ k, k < 4 → parseFieldDescriptor (T_7 k).2.2.1 = some (ty_7 k) := by decide +kernel
theorem nm_7 : ∀ a, a < 4 → ∀ b, b < 4 → a ≠ b → (T_7 a).2.1 ≠ (T_7 b).2.1 := by decide +kernel
theorem inT_7 : ∀ w ∈ u_ws "ObservedBlocks$Client" T_7 4, w ∈ ob_T := by decide +kernel
theorem tyk_8 : ∀ k, k < 15 → parseFieldDescriptor (T_8 k).2.2.1 = some (ty_8 k) := by decide +kernel
theorem nm_8 : ∀ a, a < 15 → ∀ b, b < 15 → a ≠ b → (T_8 a).2.1 ≠ (T_8 b).2.1 := by decide +kernel
theorem inT_8 : ∀ w ∈ u_ws "ObservedBlocks$Message" T_8 15, w ∈ ob_T := by decide +kernel
theorem tyk_9 : ∀ k, k < 10 → parseFieldDescriptor (T_9 k).2.2.1 = some (ty_9 k) := by decide +kernel
theorem nm_9 : ∀ a, a < 10 → ∀ b, b < 10 → a ≠ b → (T_9 a).2.1 ≠ (T_9 b).2.1 := by decide +kernel
theorem inT_9 : ∀ w ∈ u_ws "ObservedBlocks$Server" T_9 10, w ∈ ob_T := by decide +kernel
theorem tyk_10 : ∀ k, k < 5 → parseFieldDescriptor (T_10 k).2.2.1 = some (ty_10 k) := by decide +kernel
theorem nm_10 : ∀ a, a < 5 → ∀ b, b < 5 → a ≠ b → (T_10 a).2.1 ≠ (T_10 b).2.1 := by decide +kernel
theorem inT_10 : ∀ w ∈ u_ws "ObservedBlocks" T_10 5, w ∈ ob_T := by decide +kernel
theorem tyk_11 : ∀ k, k < 61 → parseFieldDescriptor (T_11 k).2.2.1 = some (ty_11 k) := by decide +kernel
theorem nm_11 : ∀ a, a < 61 → ∀ b, b < 61 → a ≠ b → (T_11 a).2.1 ≠ (T_11 b).2.1 := by decide +kernel
theorem inT_11 : ∀ w ∈ u_ws "ObservedBlocksModel" T_11 61, w ∈ ob_T := by decide +kernel
abbrev cb_Ob_init : ByteArray := prog_1_method_1_code
def y_Ob_init : MethodName := ⟨"ObservedBlocks", "<init>", "()V"⟩
abbrev cb_Ob_get : ByteArray := prog_1_method_2_code
def y_Ob_get : MethodName := ⟨"ObservedBlocks", "get", "(IIIZ)I"⟩
abbrev cb_Ob_put : ByteArray := prog_1_method_3_code
def y_Ob_put : MethodName := ⟨"ObservedBlocks", "put", "(IIIII)I"⟩
abbrev cb_Ob_free : ByteArray := prog_1_method_4_code
def y_Ob_free : MethodName := ⟨"ObservedBlocks", "free", "(I)I"⟩
abbrev cb_Ob_change : ByteArray := prog_1_method_5_code
def y_Ob_change : MethodName := ⟨"ObservedBlocks", "change", "(III)I"⟩
abbrev cb_Ob_tick : ByteArray := prog_1_method_6_code
def y_Ob_tick : MethodName := ⟨"ObservedBlocks", "tick", "()I"⟩
abbrev cb_Ob_deliver : ByteArray := prog_1_method_7_code
def y_Ob_deliver : MethodName := ⟨"ObservedBlocks", "deliver", "(I)I"⟩
abbrev cb_Ob_lose : ByteArray := prog_1_method_8_code
def y_Ob_lose : MethodName := ⟨"ObservedBlocks", "lose", "(I)I"⟩
abbrev cb_Ob_repeat : ByteArray := prog_1_method_9_code
def y_Ob_repeat : MethodName := ⟨"ObservedBlocks", "repeat", "(I)I"⟩
abbrev cb_Ob_spoil : ByteArray := prog_1_method_10_code
def y_Ob_spoil : MethodName := ⟨"ObservedBlocks", "spoil", "(III)Z"⟩
abbrev cb_Ob_waiting : ByteArray := prog_1_method_11_code
def y_Ob_waiting : MethodName := ⟨"ObservedBlocks", "waiting", "()I"⟩
abbrev cb_Ob_datagram : ByteArray := prog_1_method_12_code
def y_Ob_datagram : MethodName := ⟨"ObservedBlocks", "datagram", "(II)I"⟩
abbrev cb_Ob_slot : ByteArray := prog_1_method_13_code
def y_Ob_slot : MethodName := ⟨"ObservedBlocks", "slot", "(II)I"⟩
abbrev cb_Ob_body : ByteArray := prog_1_method_14_code
def y_Ob_body : MethodName := ⟨"ObservedBlocks", "body", "(II)I"⟩
abbrev cb_Ob_content : ByteArray := prog_1_method_15_code
def y_Ob_content : MethodName := ⟨"ObservedBlocks", "content", "(II)I"⟩
abbrev cb_Ob_server : ByteArray := prog_1_method_16_code
def y_Ob_server : MethodName := ⟨"ObservedBlocks", "server", "(I)I"⟩
abbrev cb_Ob_isWithin : ByteArray := prog_1_method_17_code
def y_Ob_isWithin : MethodName := ⟨"ObservedBlocks", "isWithin", "(II)Z"⟩
abbrev cb_Ob_isAskable : ByteArray := prog_1_method_18_code
def y_Ob_isAskable : MethodName := ⟨"ObservedBlocks", "isAskable", "(III)Z"⟩
abbrev cb_Ob_sizeOf : ByteArray := prog_1_method_19_code
def y_Ob_sizeOf : MethodName := ⟨"ObservedBlocks", "sizeOf", "(I)I"⟩
abbrev cb_Ob_blockOf : ByteArray := prog_1_method_20_code
def y_Ob_blockOf : MethodName := ⟨"ObservedBlocks", "blockOf", "(IZI)I"⟩
abbrev cb_Ob_numOf : ByteArray := prog_1_method_21_code
def y_Ob_numOf : MethodName := ⟨"ObservedBlocks", "numOf", "(I)I"⟩
abbrev cb_Ob_hasMore : ByteArray := prog_1_method_22_code
def y_Ob_hasMore : MethodName := ⟨"ObservedBlocks", "hasMore", "(I)Z"⟩
abbrev cb_Ob_szxOf : ByteArray := prog_1_method_23_code
def y_Ob_szxOf : MethodName := ⟨"ObservedBlocks", "szxOf", "(I)I"⟩
abbrev cb_Ob_following : ByteArray := prog_1_method_24_code
def y_Ob_following : MethodName := ⟨"ObservedBlocks", "following", "(I)I"⟩
abbrev cb_Ob_firstSegmentOf : ByteArray := prog_1_method_25_code
def y_Ob_firstSegmentOf : MethodName := ⟨"ObservedBlocks", "firstSegmentOf", "(I)Ljava/lang/String;"⟩
abbrev cb_Ob_secondSegmentOf : ByteArray := prog_1_method_26_code
def y_Ob_secondSegmentOf : MethodName := ⟨"ObservedBlocks", "secondSegmentOf", "(I)Ljava/lang/String;"⟩
abbrev cb_Mo_init : ByteArray := prog_13_method_1_code
def y_Mo_init : MethodName := ⟨"ObservedBlocksModel", "<init>", "()V"⟩
abbrev cb_Mo_write : ByteArray := prog_13_method_2_code
def y_Mo_write : MethodName := ⟨"ObservedBlocksModel", "write", "(I)V"⟩
abbrev cb_Mo_begin : ByteArray := prog_13_method_3_code
def y_Mo_begin : MethodName := ⟨"ObservedBlocksModel", "begin", "(III)V"⟩
abbrev cb_Mo_head : ByteArray := prog_13_method_4_code
def y_Mo_head : MethodName := ⟨"ObservedBlocksModel", "head", "(II)V"⟩
abbrev cb_Mo_option : ByteArray := prog_13_method_5_code
def y_Mo_option : MethodName := ⟨"ObservedBlocksModel", "option", "(II)V"⟩
abbrev cb_Mo_path : ByteArray := prog_13_method_6_code
def y_Mo_path : MethodName := ⟨"ObservedBlocksModel", "path", "(I)V"⟩
abbrev cb_Mo_sizeOf : ByteArray := prog_13_method_7_code
def y_Mo_sizeOf : MethodName := ⟨"ObservedBlocksModel", "sizeOf", "(I)I"⟩
abbrev cb_Mo_within : ByteArray := prog_13_method_8_code
def y_Mo_within : MethodName := ⟨"ObservedBlocksModel", "within", "(III)I"⟩
abbrev cb_Mo_more : ByteArray := prog_13_method_9_code
def y_Mo_more : MethodName := ⟨"ObservedBlocksModel", "more", "(III)I"⟩
abbrev cb_Mo_send : ByteArray := prog_13_method_10_code
def y_Mo_send : MethodName := ⟨"ObservedBlocksModel", "send", "(I)V"⟩
abbrev cb_Mo_hold : ByteArray := prog_13_method_11_code
def y_Mo_hold : MethodName := ⟨"ObservedBlocksModel", "hold", "(II)V"⟩
abbrev cb_Mo_sendAgain : ByteArray := prog_13_method_12_code
def y_Mo_sendAgain : MethodName := ⟨"ObservedBlocksModel", "sendAgain", "(I)V"⟩
abbrev cb_Mo_bare : ByteArray := prog_13_method_13_code
def y_Mo_bare : MethodName := ⟨"ObservedBlocksModel", "bare", "(III)V"⟩
abbrev cb_Mo_readNumber : ByteArray := prog_13_method_14_code
def y_Mo_readNumber : MethodName := ⟨"ObservedBlocksModel", "readNumber", "(III)Z"⟩
abbrev cb_Mo_readOptions : ByteArray := prog_13_method_15_code
def y_Mo_readOptions : MethodName := ⟨"ObservedBlocksModel", "readOptions", "(I)I"⟩
abbrev cb_Mo_read : ByteArray := prog_13_method_16_code
def y_Mo_read : MethodName := ⟨"ObservedBlocksModel", "read", "()Z"⟩
abbrev cb_Mo_segment : ByteArray := prog_13_method_17_code
def y_Mo_segment : MethodName := ⟨"ObservedBlocksModel", "segment", "(III)Z"⟩
abbrev cb_Mo_resource : ByteArray := prog_13_method_18_code
def y_Mo_resource : MethodName := ⟨"ObservedBlocksModel", "resource", "()I"⟩
abbrev cb_Mo_ask : ByteArray := prog_13_method_19_code
def y_Mo_ask : MethodName := ⟨"ObservedBlocksModel", "ask", "(IZ)V"⟩
abbrev cb_Mo_answered : ByteArray := prog_13_method_20_code
def y_Mo_answered : MethodName := ⟨"ObservedBlocksModel", "answered", "(I)V"⟩
abbrev cb_Mo_append : ByteArray := prog_13_method_21_code
def y_Mo_append : MethodName := ⟨"ObservedBlocksModel", "append", "(I)V"⟩
abbrev cb_Mo_told : ByteArray := prog_13_method_22_code
def y_Mo_told : MethodName := ⟨"ObservedBlocksModel", "told", "(I)V"⟩
abbrev cb_Mo_toClient : ByteArray := prog_13_method_23_code
def y_Mo_toClient : MethodName := ⟨"ObservedBlocksModel", "toClient", "()V"⟩
abbrev cb_Mo_dropWatcher : ByteArray := prog_13_method_24_code
def y_Mo_dropWatcher : MethodName := ⟨"ObservedBlocksModel", "dropWatcher", "(I)V"⟩
abbrev cb_Mo_watcherOf : ByteArray := prog_13_method_25_code
def y_Mo_watcherOf : MethodName := ⟨"ObservedBlocksModel", "watcherOf", "(I)I"⟩
abbrev cb_Mo_writeContent : ByteArray := prog_13_method_26_code
def y_Mo_writeContent : MethodName := ⟨"ObservedBlocksModel", "writeContent", "(III)V"⟩
abbrev cb_Mo_tell : ByteArray := prog_13_method_27_code
def y_Mo_tell : MethodName := ⟨"ObservedBlocksModel", "tell", "(I)V"⟩
abbrev cb_Mo_tellAll : ByteArray := prog_13_method_28_code
def y_Mo_tellAll : MethodName := ⟨"ObservedBlocksModel", "tellAll", "(I)V"⟩
abbrev cb_Mo_registers : ByteArray := prog_13_method_29_code
def y_Mo_registers : MethodName := ⟨"ObservedBlocksModel", "registers", "(III)Z"⟩
abbrev cb_Mo_answerGet : ByteArray := prog_13_method_30_code
def y_Mo_answerGet : MethodName := ⟨"ObservedBlocksModel", "answerGet", "(I)V"⟩
abbrev cb_Mo_takePart : ByteArray := prog_13_method_31_code
def y_Mo_takePart : MethodName := ⟨"ObservedBlocksModel", "takePart", "(I)I"⟩
abbrev cb_Mo_forgetAnswer : ByteArray := prog_13_method_32_code
def y_Mo_forgetAnswer : MethodName := ⟨"ObservedBlocksModel", "forgetAnswer", "(I)V"⟩
abbrev cb_Mo_answerOf : ByteArray := prog_13_method_33_code
def y_Mo_answerOf : MethodName := ⟨"ObservedBlocksModel", "answerOf", "(I)I"⟩
abbrev cb_Mo_remember : ByteArray := prog_13_method_34_code
def y_Mo_remember : MethodName := ⟨"ObservedBlocksModel", "remember", "()V"⟩
abbrev cb_Mo_handle : ByteArray := prog_13_method_35_code
def y_Mo_handle : MethodName := ⟨"ObservedBlocksModel", "handle", "()V"⟩
abbrev cb_Mo_toServer : ByteArray := prog_13_method_36_code
def y_Mo_toServer : MethodName := ⟨"ObservedBlocksModel", "toServer", "()V"⟩
abbrev cb_Mo_isSlot : ByteArray := prog_13_method_37_code
def y_Mo_isSlot : MethodName := ⟨"ObservedBlocksModel", "isSlot", "(I)Z"⟩
abbrev cb_Mo_use : ByteArray := prog_13_method_38_code
def y_Mo_use : MethodName := ⟨"ObservedBlocksModel", "use", "(III)I"⟩
abbrev cb_Mo_get : ByteArray := prog_13_method_39_code
def y_Mo_get : MethodName := ⟨"ObservedBlocksModel", "get", "(IIIZ)I"⟩
abbrev cb_Mo_put : ByteArray := prog_13_method_40_code
def y_Mo_put : MethodName := ⟨"ObservedBlocksModel", "put", "(IIIII)I"⟩
abbrev cb_Mo_free : ByteArray := prog_13_method_41_code
def y_Mo_free : MethodName := ⟨"ObservedBlocksModel", "free", "(I)I"⟩
abbrev cb_Mo_change : ByteArray := prog_13_method_42_code
def y_Mo_change : MethodName := ⟨"ObservedBlocksModel", "change", "(III)I"⟩
abbrev cb_Mo_wears : ByteArray := prog_13_method_43_code
def y_Mo_wears : MethodName := ⟨"ObservedBlocksModel", "wears", "(I)Z"⟩
abbrev cb_Mo_tick : ByteArray := prog_13_method_44_code
def y_Mo_tick : MethodName := ⟨"ObservedBlocksModel", "tick", "()I"⟩
abbrev cb_Mo_isDatagram : ByteArray := prog_13_method_45_code
def y_Mo_isDatagram : MethodName := ⟨"ObservedBlocksModel", "isDatagram", "(I)Z"⟩
abbrev cb_Mo_take : ByteArray := prog_13_method_46_code
def y_Mo_take : MethodName := ⟨"ObservedBlocksModel", "take", "(I)V"⟩
abbrev cb_Mo_deliver : ByteArray := prog_13_method_47_code
def y_Mo_deliver : MethodName := ⟨"ObservedBlocksModel", "deliver", "(I)I"⟩
abbrev cb_Mo_lose : ByteArray := prog_13_method_48_code
def y_Mo_lose : MethodName := ⟨"ObservedBlocksModel", "lose", "(I)I"⟩
abbrev cb_Mo_repeat : ByteArray := prog_13_method_49_code
def y_Mo_repeat : MethodName := ⟨"ObservedBlocksModel", "repeat", "(I)I"⟩
abbrev cb_Mo_spoil : ByteArray := prog_13_method_50_code
def y_Mo_spoil : MethodName := ⟨"ObservedBlocksModel", "spoil", "(III)Z"⟩
abbrev cb_Mo_waiting : ByteArray := prog_13_method_51_code
def y_Mo_waiting : MethodName := ⟨"ObservedBlocksModel", "waiting", "()I"⟩
abbrev cb_Mo_datagram : ByteArray := prog_13_method_52_code
def y_Mo_datagram : MethodName := ⟨"ObservedBlocksModel", "datagram", "(II)I"⟩
abbrev cb_Mo_slot : ByteArray := prog_13_method_53_code
def y_Mo_slot : MethodName := ⟨"ObservedBlocksModel", "slot", "(II)I"⟩
abbrev cb_Mo_body : ByteArray := prog_13_method_54_code
def y_Mo_body : MethodName := ⟨"ObservedBlocksModel", "body", "(II)I"⟩
abbrev cb_Mo_content : ByteArray := prog_13_method_55_code
def y_Mo_content : MethodName := ⟨"ObservedBlocksModel", "content", "(II)I"⟩
abbrev cb_Mo_server : ByteArray := prog_13_method_56_code
def y_Mo_server : MethodName := ⟨"ObservedBlocksModel", "server", "(I)I"⟩
abbrev cb_By_init : ByteArray := prog_2_method_1_code
def y_By_init : MethodName := ⟨"ObservedBlocks$Bytes", "<init>", "(I)V"⟩
abbrev cb_By_has : ByteArray := prog_2_method_2_code
def y_By_has : MethodName := ⟨"ObservedBlocks$Bytes", "has", "(I)Z"⟩
abbrev cb_By_byteOrBad : ByteArray := prog_2_method_3_code
def y_By_byteOrBad : MethodName := ⟨"ObservedBlocks$Bytes", "byteOrBad", "(I)I"⟩
abbrev cb_By_clear : ByteArray := prog_2_method_4_code
def y_By_clear : MethodName := ⟨"ObservedBlocks$Bytes", "clear", "()V"⟩
abbrev cb_By_cutTo : ByteArray := prog_2_method_5_code
def y_By_cutTo : MethodName := ⟨"ObservedBlocks$Bytes", "cutTo", "(I)V"⟩
abbrev cb_By_add : ByteArray := prog_2_method_6_code
def y_By_add : MethodName := ⟨"ObservedBlocks$Bytes", "add", "(I)V"⟩
abbrev cb_By_addFrom : ByteArray := prog_2_method_7_code
def y_By_addFrom : MethodName := ⟨"ObservedBlocks$Bytes", "addFrom", "(LObservedBlocks$Bytes;II)V"⟩
abbrev cb_By_become : ByteArray := prog_2_method_8_code
def y_By_become : MethodName := ⟨"ObservedBlocks$Bytes", "become", "(LObservedBlocks$Bytes;)V"⟩
abbrev cb_By_fill : ByteArray := prog_2_method_9_code
def y_By_fill : MethodName := ⟨"ObservedBlocks$Bytes", "fill", "(II)V"⟩
abbrev cb_By_spells : ByteArray := prog_2_method_10_code
def y_By_spells : MethodName := ⟨"ObservedBlocks$Bytes", "spells", "(Ljava/lang/String;)Z"⟩
abbrev cb_Cl_init : ByteArray := prog_3_method_1_code
def y_Cl_init : MethodName := ⟨"ObservedBlocks$Client", "<init>", "(LObservedBlocks$Line;)V"⟩
abbrev cb_Cl_ask : ByteArray := prog_3_method_2_code
def y_Cl_ask : MethodName := ⟨"ObservedBlocks$Client", "ask", "(LObservedBlocks$Slot;)V"⟩
abbrev cb_Cl_receive : ByteArray := prog_3_method_3_code
def y_Cl_receive : MethodName := ⟨"ObservedBlocks$Client", "receive", "(LObservedBlocks$Message;)V"⟩
abbrev cb_Cl_receiveAnswer : ByteArray := prog_3_method_4_code
def y_Cl_receiveAnswer : MethodName := ⟨"ObservedBlocks$Client", "receiveAnswer", "(LObservedBlocks$Message;)V"⟩
abbrev cb_Cl_receiveNews : ByteArray := prog_3_method_5_code
def y_Cl_receiveNews : MethodName := ⟨"ObservedBlocks$Client", "receiveNews", "(LObservedBlocks$Message;)V"⟩
abbrev cb_Cl_pass : ByteArray := prog_3_method_6_code
def y_Cl_pass : MethodName := ⟨"ObservedBlocks$Client", "pass", "()V"⟩
abbrev cb_Li_init : ByteArray := prog_4_method_1_code
def y_Li_init : MethodName := ⟨"ObservedBlocks$Line", "<init>", "()V"⟩
abbrev cb_Li_has : ByteArray := prog_4_method_2_code
def y_Li_has : MethodName := ⟨"ObservedBlocks$Line", "has", "(I)Z"⟩
abbrev cb_Li_send : ByteArray := prog_4_method_3_code
def y_Li_send : MethodName := ⟨"ObservedBlocks$Line", "send", "(LObservedBlocks$Bytes;I)V"⟩
abbrev cb_Li_takeOut : ByteArray := prog_4_method_4_code
def y_Li_takeOut : MethodName := ⟨"ObservedBlocks$Line", "takeOut", "(I)V"⟩
abbrev cb_Me_init : ByteArray := prog_5_method_1_code
def y_Me_init : MethodName := ⟨"ObservedBlocks$Memory", "<init>", "()V"⟩
abbrev cb_Me_find : ByteArray := prog_5_method_2_code
def y_Me_find : MethodName := ⟨"ObservedBlocks$Memory", "find", "(II)I"⟩
abbrev cb_Me_keep : ByteArray := prog_5_method_3_code
def y_Me_keep : MethodName := ⟨"ObservedBlocks$Memory", "keep", "(IILObservedBlocks$Bytes;)V"⟩
abbrev cb_Me_placeOf : ByteArray := prog_5_method_4_code
def y_Me_placeOf : MethodName := ⟨"ObservedBlocks$Memory", "placeOf", "(I)I"⟩
abbrev cb_Me_takeOut : ByteArray := prog_5_method_5_code
def y_Me_takeOut : MethodName := ⟨"ObservedBlocks$Memory", "takeOut", "(I)V"⟩
abbrev cb_Ms_init : ByteArray := prog_6_method_1_code
def y_Ms_init : MethodName := ⟨"ObservedBlocks$Message", "<init>", "()V"⟩
abbrev cb_Ms_isRequest : ByteArray := prog_6_method_2_code
def y_Ms_isRequest : MethodName := ⟨"ObservedBlocks$Message", "isRequest", "()Z"⟩
abbrev cb_Ms_isUnder : ByteArray := prog_6_method_3_code
def y_Ms_isUnder : MethodName := ⟨"ObservedBlocks$Message", "isUnder", "(I)Z"⟩
abbrev cb_Ms_read : ByteArray := prog_6_method_4_code
def y_Ms_read : MethodName := ⟨"ObservedBlocks$Message", "read", "(LObservedBlocks$Bytes;)Z"⟩
abbrev cb_Ms_forget : ByteArray := prog_6_method_5_code
def y_Ms_forget : MethodName := ⟨"ObservedBlocks$Message", "forget", "()V"⟩
abbrev cb_Ms_readOptions : ByteArray := prog_6_method_6_code
def y_Ms_readOptions : MethodName := ⟨"ObservedBlocks$Message", "readOptions", "(LObservedBlocks$Bytes;)Z"⟩
abbrev cb_Ms_isAtOption : ByteArray := prog_6_method_7_code
def y_Ms_isAtOption : MethodName := ⟨"ObservedBlocks$Message", "isAtOption", "(LObservedBlocks$Bytes;)Z"⟩
abbrev cb_Ms_readHead : ByteArray := prog_6_method_8_code
def y_Ms_readHead : MethodName := ⟨"ObservedBlocks$Message", "readHead", "(LObservedBlocks$Bytes;)Z"⟩
abbrev cb_Ms_keepValue : ByteArray := prog_6_method_9_code
def y_Ms_keepValue : MethodName := ⟨"ObservedBlocks$Message", "keepValue", "(LObservedBlocks$Bytes;)Z"⟩
abbrev cb_Ms_keepSegment : ByteArray := prog_6_method_10_code
def y_Ms_keepSegment : MethodName := ⟨"ObservedBlocks$Message", "keepSegment", "(LObservedBlocks$Bytes;)Z"⟩
abbrev cb_Ms_numberIn : ByteArray := prog_6_method_11_code
def y_Ms_numberIn : MethodName := ⟨"ObservedBlocks$Message", "numberIn", "(LObservedBlocks$Bytes;)I"⟩
abbrev cb_Ms_isBlock : ByteArray := prog_6_method_12_code
def y_Ms_isBlock : MethodName := ⟨"ObservedBlocks$Message", "isBlock", "(I)Z"⟩
abbrev cb_Ms_readPayload : ByteArray := prog_6_method_13_code
def y_Ms_readPayload : MethodName := ⟨"ObservedBlocks$Message", "readPayload", "(LObservedBlocks$Bytes;)Z"⟩
abbrev cb_Pe_init : ByteArray := prog_7_method_1_code
def y_Pe_init : MethodName := ⟨"ObservedBlocks$Pending", "<init>", "()V"⟩
abbrev cb_Pe_start : ByteArray := prog_7_method_2_code
def y_Pe_start : MethodName := ⟨"ObservedBlocks$Pending", "start", "(ILObservedBlocks$Bytes;)V"⟩
abbrev cb_Pe_stop : ByteArray := prog_7_method_3_code
def y_Pe_stop : MethodName := ⟨"ObservedBlocks$Pending", "stop", "()V"⟩
abbrev cb_Pe_isActive : ByteArray := prog_7_method_4_code
def y_Pe_isActive : MethodName := ⟨"ObservedBlocks$Pending", "isActive", "()Z"⟩
abbrev cb_Pe_isFor : ByteArray := prog_7_method_5_code
def y_Pe_isFor : MethodName := ⟨"ObservedBlocks$Pending", "isFor", "(I)Z"⟩
abbrev cb_Pe_pass : ByteArray := prog_7_method_6_code
def y_Pe_pass : MethodName := ⟨"ObservedBlocks$Pending", "pass", "()I"⟩
abbrev cb_Se_init : ByteArray := prog_8_method_1_code
def y_Se_init : MethodName := ⟨"ObservedBlocks$Server", "<init>", "(LObservedBlocks$Line;)V"⟩
abbrev cb_Se_lengthOfParts : ByteArray := prog_8_method_2_code
def y_Se_lengthOfParts : MethodName := ⟨"ObservedBlocks$Server", "lengthOfParts", "()I"⟩
abbrev cb_Se_answer : ByteArray := prog_8_method_3_code
def y_Se_answer : MethodName := ⟨"ObservedBlocks$Server", "answer", "(LObservedBlocks$Message;I)V"⟩
abbrev cb_Se_resourceUnder : ByteArray := prog_8_method_4_code
def y_Se_resourceUnder : MethodName := ⟨"ObservedBlocks$Server", "resourceUnder", "(LObservedBlocks$Message;)I"⟩
abbrev cb_Se_handle : ByteArray := prog_8_method_5_code
def y_Se_handle : MethodName := ⟨"ObservedBlocks$Server", "handle", "(LObservedBlocks$Message;I)I"⟩
abbrev cb_Se_takePart : ByteArray := prog_8_method_6_code
def y_Se_takePart : MethodName := ⟨"ObservedBlocks$Server", "takePart", "(LObservedBlocks$Message;I)I"⟩
abbrev cb_Se_addContent : ByteArray := prog_8_method_7_code
def y_Se_addContent : MethodName := ⟨"ObservedBlocks$Server", "addContent", "(LObservedBlocks$Message;I)V"⟩
abbrev cb_Se_blockIn : ByteArray := prog_8_method_8_code
def y_Se_blockIn : MethodName := ⟨"ObservedBlocks$Server", "blockIn", "(III)I"⟩
abbrev cb_Se_watcherWith : ByteArray := prog_8_method_9_code
def y_Se_watcherWith : MethodName := ⟨"ObservedBlocks$Server", "watcherWith", "(I)I"⟩
abbrev cb_Se_beginWatch : ByteArray := prog_8_method_10_code
def y_Se_beginWatch : MethodName := ⟨"ObservedBlocks$Server", "beginWatch", "(III)Z"⟩
abbrev cb_Se_endWatch : ByteArray := prog_8_method_11_code
def y_Se_endWatch : MethodName := ⟨"ObservedBlocks$Server", "endWatch", "(I)V"⟩
abbrev cb_Se_tellWatchersOf : ByteArray := prog_8_method_12_code
def y_Se_tellWatchersOf : MethodName := ⟨"ObservedBlocks$Server", "tellWatchersOf", "(I)V"⟩
abbrev cb_Se_tell : ByteArray := prog_8_method_13_code
def y_Se_tell : MethodName := ⟨"ObservedBlocks$Server", "tell", "(LObservedBlocks$Watcher;)V"⟩
abbrev cb_Se_receiveReceipt : ByteArray := prog_8_method_14_code
def y_Se_receiveReceipt : MethodName := ⟨"ObservedBlocks$Server", "receiveReceipt", "(LObservedBlocks$Message;)V"⟩
abbrev cb_Se_pass : ByteArray := prog_8_method_15_code
def y_Se_pass : MethodName := ⟨"ObservedBlocks$Server", "pass", "()V"⟩
abbrev cb_Sl_init : ByteArray := prog_9_method_1_code
def y_Sl_init : MethodName := ⟨"ObservedBlocks$Slot", "<init>", "(I)V"⟩
abbrev cb_Sl_begin : ByteArray := prog_9_method_2_code
def y_Sl_begin : MethodName := ⟨"ObservedBlocks$Slot", "begin", "(IIZZ)V"⟩
abbrev cb_Sl_end : ByteArray := prog_9_method_3_code
def y_Sl_end : MethodName := ⟨"ObservedBlocks$Slot", "end", "()V"⟩
abbrev cb_Sl_isAskedFor : ByteArray := prog_9_method_4_code
def y_Sl_isAskedFor : MethodName := ⟨"ObservedBlocks$Slot", "isAskedFor", "(LObservedBlocks$Message;)Z"⟩
abbrev cb_Sl_isWatchedFor : ByteArray := prog_9_method_5_code
def y_Sl_isWatchedFor : MethodName := ⟨"ObservedBlocks$Slot", "isWatchedFor", "(LObservedBlocks$Message;)Z"⟩
abbrev cb_Sl_asksToWatch : ByteArray := prog_9_method_6_code
def y_Sl_asksToWatch : MethodName := ⟨"ObservedBlocks$Slot", "asksToWatch", "()Z"⟩
abbrev cb_Sl_hasMoreToPut : ByteArray := prog_9_method_7_code
def y_Sl_hasMoreToPut : MethodName := ⟨"ObservedBlocks$Slot", "hasMoreToPut", "()Z"⟩
abbrev cb_Sl_takeAnswer : ByteArray := prog_9_method_8_code
def y_Sl_takeAnswer : MethodName := ⟨"ObservedBlocks$Slot", "takeAnswer", "(LObservedBlocks$Message;)Z"⟩
abbrev cb_Sl_isBlockDue : ByteArray := prog_9_method_9_code
def y_Sl_isBlockDue : MethodName := ⟨"ObservedBlocks$Slot", "isBlockDue", "(LObservedBlocks$Message;)Z"⟩
abbrev cb_Sl_takeBlock : ByteArray := prog_9_method_10_code
def y_Sl_takeBlock : MethodName := ⟨"ObservedBlocks$Slot", "takeBlock", "(LObservedBlocks$Message;)Z"⟩
abbrev cb_Sl_isNews : ByteArray := prog_9_method_11_code
def y_Sl_isNews : MethodName := ⟨"ObservedBlocks$Slot", "isNews", "(LObservedBlocks$Message;)Z"⟩
abbrev cb_Sl_takeNews : ByteArray := prog_9_method_12_code
def y_Sl_takeNews : MethodName := ⟨"ObservedBlocks$Slot", "takeNews", "(LObservedBlocks$Message;)Z"⟩
abbrev cb_Sl_goOn : ByteArray := prog_9_method_13_code
def y_Sl_goOn : MethodName := ⟨"ObservedBlocks$Slot", "goOn", "(LObservedBlocks$Message;)Z"⟩
abbrev cb_Sl_tellOf : ByteArray := prog_9_method_14_code
def y_Sl_tellOf : MethodName := ⟨"ObservedBlocks$Slot", "tellOf", "(I)I"⟩
abbrev cb_Wa_init : ByteArray := prog_10_method_1_code
def y_Wa_init : MethodName := ⟨"ObservedBlocks$Watcher", "<init>", "()V"⟩
abbrev cb_Wa_begin : ByteArray := prog_10_method_2_code
def y_Wa_begin : MethodName := ⟨"ObservedBlocks$Watcher", "begin", "(III)V"⟩
abbrev cb_Wr_init : ByteArray := prog_11_method_1_code
def y_Wr_init : MethodName := ⟨"ObservedBlocks$Writer", "<init>", "()V"⟩
abbrev cb_Wr_beginEmpty : ByteArray := prog_11_method_2_code
def y_Wr_beginEmpty : MethodName := ⟨"ObservedBlocks$Writer", "beginEmpty", "(II)V"⟩
abbrev cb_Wr_begin : ByteArray := prog_11_method_3_code
def y_Wr_begin : MethodName := ⟨"ObservedBlocks$Writer", "begin", "(IIII)V"⟩
abbrev cb_Wr_addNumber : ByteArray := prog_11_method_4_code
def y_Wr_addNumber : MethodName := ⟨"ObservedBlocks$Writer", "addNumber", "(II)V"⟩
abbrev cb_Wr_addSegment : ByteArray := prog_11_method_5_code
def y_Wr_addSegment : MethodName := ⟨"ObservedBlocks$Writer", "addSegment", "(Ljava/lang/String;)V"⟩
abbrev cb_Wr_addPayload : ByteArray := prog_11_method_6_code
def y_Wr_addPayload : MethodName := ⟨"ObservedBlocks$Writer", "addPayload", "(LObservedBlocks$Bytes;II)V"⟩
abbrev cb_Wr_addHead : ByteArray := prog_11_method_7_code
def y_Wr_addHead : MethodName := ⟨"ObservedBlocks$Writer", "addHead", "(II)V"⟩
abbrev cb_Str_length : ByteArray := prog_15_method_54_code
def y_Str_length : MethodName := ⟨"java/lang/String", "length", "()I"⟩
abbrev cb_Str_isEmpty : ByteArray := prog_15_method_55_code
def y_Str_isEmpty : MethodName := ⟨"java/lang/String", "isEmpty", "()Z"⟩
abbrev cb_Str_charAt : ByteArray := prog_15_method_56_code
def y_Str_charAt : MethodName := ⟨"java/lang/String", "charAt", "(I)C"⟩
