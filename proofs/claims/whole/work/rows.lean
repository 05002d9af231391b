section
-- ===== PART A: goes FIRST, ahead of the names: the tables' words, and 'selects' of the private methods out of them =====
/-- a private method of a class that the tables say can be made, by its rows of tables_1 -/
def lw_okq (q : MethodName × Nat) : Prop := (q.1.cls ≠ "java/lang/invoke/MethodHandle" ∧ q.1.cls ≠ "java/lang/invoke/VarHandle") ∧ Cond.instantiable q.1.cls q.2 ∈ tables_1 ∧ Cond.privateMethod q.1 ∈ tables_1 ∧ Cond.instanceMethod q.1 ∈ tables_1
theorem lw_p0 : lw_okq (⟨"Feedloom$Items", "isAhead", "(II)Z"⟩, 11) := ⟨⟨by decide +kernel, by decide +kernel⟩, List.mem_of_getElem? (i := 29) (by decide +kernel), List.mem_of_getElem? (i := 198) (by decide +kernel), List.mem_of_getElem? (i := 199) (by decide +kernel)⟩
theorem lw_p1 : lw_okq (⟨"Feedloom", "isSoundRiver", "(I[I)Z"⟩, 11) := ⟨⟨by decide +kernel, by decide +kernel⟩, List.mem_of_getElem? (i := 21) (by decide +kernel), List.mem_of_getElem? (i := 206) (by decide +kernel), List.mem_of_getElem? (i := 207) (by decide +kernel)⟩
theorem lw_p2 : lw_okq (⟨"Feedloom", "gather", "(I[I[I)I"⟩, 11) := ⟨⟨by decide +kernel, by decide +kernel⟩, List.mem_of_getElem? (i := 21) (by decide +kernel), List.mem_of_getElem? (i := 214) (by decide +kernel), List.mem_of_getElem? (i := 215) (by decide +kernel)⟩
theorem lw_p3 : lw_okq (⟨"Feedloom", "outcomeOf", "(I)I"⟩, 11) := ⟨⟨by decide +kernel, by decide +kernel⟩, List.mem_of_getElem? (i := 21) (by decide +kernel), List.mem_of_getElem? (i := 222) (by decide +kernel), List.mem_of_getElem? (i := 223) (by decide +kernel)⟩
theorem lw_p4 : lw_okq (⟨"java/lang/Throwable", "fillInStackTrace", "(I)Ljava/lang/Throwable;"⟩, 6) := ⟨⟨by decide +kernel, by decide +kernel⟩, List.mem_of_getElem? (i := 313) (by decide +kernel), List.mem_of_getElem? (i := 311) (by decide +kernel), List.mem_of_getElem? (i := 312) (by decide +kernel)⟩
theorem lw_p5 : lw_okq (⟨"Feedloom", "findFetched", "(IIIJ)I"⟩, 11) := ⟨⟨by decide +kernel, by decide +kernel⟩, List.mem_of_getElem? (i := 21) (by decide +kernel), List.mem_of_getElem? (i := 452) (by decide +kernel), List.mem_of_getElem? (i := 453) (by decide +kernel)⟩
theorem lw_p6 : lw_okq (⟨"Feedloom", "timeFrom", "(I)I"⟩, 11) := ⟨⟨by decide +kernel, by decide +kernel⟩, List.mem_of_getElem? (i := 21) (by decide +kernel), List.mem_of_getElem? (i := 470) (by decide +kernel), List.mem_of_getElem? (i := 471) (by decide +kernel)⟩
theorem lw_p7 : lw_okq (⟨"Feedloom$Items", "keepInOrder", "(I)V"⟩, 11) := ⟨⟨by decide +kernel, by decide +kernel⟩, List.mem_of_getElem? (i := 29) (by decide +kernel), List.mem_of_getElem? (i := 478) (by decide +kernel), List.mem_of_getElem? (i := 479) (by decide +kernel)⟩
theorem lw_p8 : lw_okq (⟨"Feedloom", "requireItem", "(I)V"⟩, 11) := ⟨⟨by decide +kernel, by decide +kernel⟩, List.mem_of_getElem? (i := 21) (by decide +kernel), List.mem_of_getElem? (i := 540) (by decide +kernel), List.mem_of_getElem? (i := 541) (by decide +kernel)⟩
theorem lw_p9 : lw_okq (⟨"Feedloom", "requireRule", "(I)V"⟩, 11) := ⟨⟨by decide +kernel, by decide +kernel⟩, List.mem_of_getElem? (i := 21) (by decide +kernel), List.mem_of_getElem? (i := 614) (by decide +kernel), List.mem_of_getElem? (i := 615) (by decide +kernel)⟩
theorem lw_p10 : lw_okq (⟨"Feedloom", "requireRiver", "(I)V"⟩, 11) := ⟨⟨by decide +kernel, by decide +kernel⟩, List.mem_of_getElem? (i := 21) (by decide +kernel), List.mem_of_getElem? (i := 665) (by decide +kernel), List.mem_of_getElem? (i := 666) (by decide +kernel)⟩
theorem lw_p11 : lw_okq (⟨"Feedloom", "shownAt", "(II[I)I"⟩, 11) := ⟨⟨by decide +kernel, by decide +kernel⟩, List.mem_of_getElem? (i := 21) (by decide +kernel), List.mem_of_getElem? (i := 677) (by decide +kernel), List.mem_of_getElem? (i := 678) (by decide +kernel)⟩
theorem lw_p12 : lw_okq (⟨"Feedloom", "countUnread", "(I)I"⟩, 11) := ⟨⟨by decide +kernel, by decide +kernel⟩, List.mem_of_getElem? (i := 21) (by decide +kernel), List.mem_of_getElem? (i := 704) (by decide +kernel), List.mem_of_getElem? (i := 705) (by decide +kernel)⟩
theorem lw_p13 : lw_okq (⟨"Feedloom", "isReadByReader", "(I)Z"⟩, 11) := ⟨⟨by decide +kernel, by decide +kernel⟩, List.mem_of_getElem? (i := 21) (by decide +kernel), List.mem_of_getElem? (i := 708) (by decide +kernel), List.mem_of_getElem? (i := 709) (by decide +kernel)⟩
theorem lw_p14 : lw_okq (⟨"Feedloom", "bringUpToDate", "(II)V"⟩, 11) := ⟨⟨by decide +kernel, by decide +kernel⟩, List.mem_of_getElem? (i := 21) (by decide +kernel), List.mem_of_getElem? (i := 760) (by decide +kernel), List.mem_of_getElem? (i := 761) (by decide +kernel)⟩
theorem lw_p15 : lw_okq (⟨"Feedloom", "requireDevice", "(I)V"⟩, 11) := ⟨⟨by decide +kernel, by decide +kernel⟩, List.mem_of_getElem? (i := 21) (by decide +kernel), List.mem_of_getElem? (i := 779) (by decide +kernel), List.mem_of_getElem? (i := 780) (by decide +kernel)⟩
def lw_privs_1 : List (MethodName × Nat) := [(⟨"Feedloom$Items", "isAhead", "(II)Z"⟩, 11), (⟨"Feedloom", "isSoundRiver", "(I[I)Z"⟩, 11), (⟨"Feedloom", "gather", "(I[I[I)I"⟩, 11), (⟨"Feedloom", "outcomeOf", "(I)I"⟩, 11), (⟨"java/lang/Throwable", "fillInStackTrace", "(I)Ljava/lang/Throwable;"⟩, 6), (⟨"Feedloom", "findFetched", "(IIIJ)I"⟩, 11), (⟨"Feedloom", "timeFrom", "(I)I"⟩, 11), (⟨"Feedloom$Items", "keepInOrder", "(I)V"⟩, 11), (⟨"Feedloom", "requireItem", "(I)V"⟩, 11), (⟨"Feedloom", "requireRule", "(I)V"⟩, 11), (⟨"Feedloom", "requireRiver", "(I)V"⟩, 11), (⟨"Feedloom", "shownAt", "(II[I)I"⟩, 11), (⟨"Feedloom", "countUnread", "(I)I"⟩, 11), (⟨"Feedloom", "isReadByReader", "(I)Z"⟩, 11), (⟨"Feedloom", "bringUpToDate", "(II)V"⟩, 11), (⟨"Feedloom", "requireDevice", "(I)V"⟩, 11)]
theorem lw_r1 : ∀ q ∈ lw_privs_1, lw_okq q := List.forall_mem_cons.mpr ⟨lw_p0, List.forall_mem_cons.mpr ⟨lw_p1, List.forall_mem_cons.mpr ⟨lw_p2, List.forall_mem_cons.mpr ⟨lw_p3, List.forall_mem_cons.mpr ⟨lw_p4, List.forall_mem_cons.mpr ⟨lw_p5, List.forall_mem_cons.mpr ⟨lw_p6, List.forall_mem_cons.mpr ⟨lw_p7, List.forall_mem_cons.mpr ⟨lw_p8, List.forall_mem_cons.mpr ⟨lw_p9, List.forall_mem_cons.mpr ⟨lw_p10, List.forall_mem_cons.mpr ⟨lw_p11, List.forall_mem_cons.mpr ⟨lw_p12, List.forall_mem_cons.mpr ⟨lw_p13, List.forall_mem_cons.mpr ⟨lw_p14, List.forall_mem_cons.mpr ⟨lw_p15, fun _ h => absurd h List.not_mem_nil⟩⟩⟩⟩⟩⟩⟩⟩⟩⟩⟩⟩⟩⟩⟩⟩
theorem lw_p16 : lw_okq (⟨"Feedloom", "requireKnown", "(II)V"⟩, 11) := ⟨⟨by decide +kernel, by decide +kernel⟩, List.mem_of_getElem? (i := 21) (by decide +kernel), List.mem_of_getElem? (i := 788) (by decide +kernel), List.mem_of_getElem? (i := 789) (by decide +kernel)⟩
theorem lw_p17 : lw_okq (⟨"Feedloom", "markKnown", "(IIZ)Z"⟩, 11) := ⟨⟨by decide +kernel, by decide +kernel⟩, List.mem_of_getElem? (i := 21) (by decide +kernel), List.mem_of_getElem? (i := 801) (by decide +kernel), List.mem_of_getElem? (i := 802) (by decide +kernel)⟩
theorem lw_p18 : lw_okq (⟨"Feedloom", "isReadByDevice", "(II)Z"⟩, 11) := ⟨⟨by decide +kernel, by decide +kernel⟩, List.mem_of_getElem? (i := 21) (by decide +kernel), List.mem_of_getElem? (i := 805) (by decide +kernel), List.mem_of_getElem? (i := 806) (by decide +kernel)⟩
theorem lw_p19 : lw_okq (⟨"FeedloomModel", "plain", "(I)I"⟩, 37) := ⟨⟨by decide +kernel, by decide +kernel⟩, List.mem_of_getElem? (i := 865) (by decide +kernel), List.mem_of_getElem? (i := 999) (by decide +kernel), List.mem_of_getElem? (i := 1000) (by decide +kernel)⟩
theorem lw_p20 : lw_okq (⟨"FeedloomModel", "checked", "(Z)I"⟩, 37) := ⟨⟨by decide +kernel, by decide +kernel⟩, List.mem_of_getElem? (i := 865) (by decide +kernel), List.mem_of_getElem? (i := 1007) (by decide +kernel), List.mem_of_getElem? (i := 1008) (by decide +kernel)⟩
theorem lw_p21 : lw_okq (⟨"FeedloomModel", "found", "(IIIJ)I"⟩, 37) := ⟨⟨by decide +kernel, by decide +kernel⟩, List.mem_of_getElem? (i := 865) (by decide +kernel), List.mem_of_getElem? (i := 1033) (by decide +kernel), List.mem_of_getElem? (i := 1034) (by decide +kernel)⟩
theorem lw_p22 : lw_okq (⟨"FeedloomModel", "pairAt", "(II)I"⟩, 37) := ⟨⟨by decide +kernel, by decide +kernel⟩, List.mem_of_getElem? (i := 865) (by decide +kernel), List.mem_of_getElem? (i := 1037) (by decide +kernel), List.mem_of_getElem? (i := 1038) (by decide +kernel)⟩
theorem lw_p23 : lw_okq (⟨"FeedloomModel", "linkAt", "(I)I"⟩, 37) := ⟨⟨by decide +kernel, by decide +kernel⟩, List.mem_of_getElem? (i := 865) (by decide +kernel), List.mem_of_getElem? (i := 1041) (by decide +kernel), List.mem_of_getElem? (i := 1042) (by decide +kernel)⟩
theorem lw_p24 : lw_okq (⟨"FeedloomModel", "likest", "(J)I"⟩, 37) := ⟨⟨by decide +kernel, by decide +kernel⟩, List.mem_of_getElem? (i := 865) (by decide +kernel), List.mem_of_getElem? (i := 1045) (by decide +kernel), List.mem_of_getElem? (i := 1046) (by decide +kernel)⟩
theorem lw_p25 : lw_okq (⟨"FeedloomModel", "latest", "(I)J"⟩, 37) := ⟨⟨by decide +kernel, by decide +kernel⟩, List.mem_of_getElem? (i := 865) (by decide +kernel), List.mem_of_getElem? (i := 1049) (by decide +kernel), List.mem_of_getElem? (i := 1050) (by decide +kernel)⟩
theorem lw_p26 : lw_okq (⟨"FeedloomModel", "adds", "(JI)V"⟩, 37) := ⟨⟨by decide +kernel, by decide +kernel⟩, List.mem_of_getElem? (i := 865) (by decide +kernel), List.mem_of_getElem? (i := 1053) (by decide +kernel), List.mem_of_getElem? (i := 1054) (by decide +kernel)⟩
theorem lw_p27 : lw_okq (⟨"FeedloomModel", "changes", "(IJ)V"⟩, 37) := ⟨⟨by decide +kernel, by decide +kernel⟩, List.mem_of_getElem? (i := 865) (by decide +kernel), List.mem_of_getElem? (i := 1057) (by decide +kernel), List.mem_of_getElem? (i := 1058) (by decide +kernel)⟩
theorem lw_p28 : lw_okq (⟨"FeedloomModel", "isItem", "(I)Z"⟩, 37) := ⟨⟨by decide +kernel, by decide +kernel⟩, List.mem_of_getElem? (i := 865) (by decide +kernel), List.mem_of_getElem? (i := 1077) (by decide +kernel), List.mem_of_getElem? (i := 1078) (by decide +kernel)⟩
theorem lw_p29 : lw_okq (⟨"FeedloomModel", "goes", "(I)V"⟩, 37) := ⟨⟨by decide +kernel, by decide +kernel⟩, List.mem_of_getElem? (i := 865) (by decide +kernel), List.mem_of_getElem? (i := 1109) (by decide +kernel), List.mem_of_getElem? (i := 1110) (by decide +kernel)⟩
theorem lw_p30 : lw_okq (⟨"FeedloomModel", "holds", "(II)Z"⟩, 37) := ⟨⟨by decide +kernel, by decide +kernel⟩, List.mem_of_getElem? (i := 865) (by decide +kernel), List.mem_of_getElem? (i := 1113) (by decide +kernel), List.mem_of_getElem? (i := 1114) (by decide +kernel)⟩
theorem lw_p31 : lw_okq (⟨"FeedloomModel", "isRiver", "(I)Z"⟩, 37) := ⟨⟨by decide +kernel, by decide +kernel⟩, List.mem_of_getElem? (i := 865) (by decide +kernel), List.mem_of_getElem? (i := 1133) (by decide +kernel), List.mem_of_getElem? (i := 1134) (by decide +kernel)⟩
def lw_privs_2 : List (MethodName × Nat) := [(⟨"Feedloom", "requireKnown", "(II)V"⟩, 11), (⟨"Feedloom", "markKnown", "(IIZ)Z"⟩, 11), (⟨"Feedloom", "isReadByDevice", "(II)Z"⟩, 11), (⟨"FeedloomModel", "plain", "(I)I"⟩, 37), (⟨"FeedloomModel", "checked", "(Z)I"⟩, 37), (⟨"FeedloomModel", "found", "(IIIJ)I"⟩, 37), (⟨"FeedloomModel", "pairAt", "(II)I"⟩, 37), (⟨"FeedloomModel", "linkAt", "(I)I"⟩, 37), (⟨"FeedloomModel", "likest", "(J)I"⟩, 37), (⟨"FeedloomModel", "latest", "(I)J"⟩, 37), (⟨"FeedloomModel", "adds", "(JI)V"⟩, 37), (⟨"FeedloomModel", "changes", "(IJ)V"⟩, 37), (⟨"FeedloomModel", "isItem", "(I)Z"⟩, 37), (⟨"FeedloomModel", "goes", "(I)V"⟩, 37), (⟨"FeedloomModel", "holds", "(II)Z"⟩, 37), (⟨"FeedloomModel", "isRiver", "(I)Z"⟩, 37)]
theorem lw_r2 : ∀ q ∈ lw_privs_2, lw_okq q := List.forall_mem_cons.mpr ⟨lw_p16, List.forall_mem_cons.mpr ⟨lw_p17, List.forall_mem_cons.mpr ⟨lw_p18, List.forall_mem_cons.mpr ⟨lw_p19, List.forall_mem_cons.mpr ⟨lw_p20, List.forall_mem_cons.mpr ⟨lw_p21, List.forall_mem_cons.mpr ⟨lw_p22, List.forall_mem_cons.mpr ⟨lw_p23, List.forall_mem_cons.mpr ⟨lw_p24, List.forall_mem_cons.mpr ⟨lw_p25, List.forall_mem_cons.mpr ⟨lw_p26, List.forall_mem_cons.mpr ⟨lw_p27, List.forall_mem_cons.mpr ⟨lw_p28, List.forall_mem_cons.mpr ⟨lw_p29, List.forall_mem_cons.mpr ⟨lw_p30, List.forall_mem_cons.mpr ⟨lw_p31, fun _ h => absurd h List.not_mem_nil⟩⟩⟩⟩⟩⟩⟩⟩⟩⟩⟩⟩⟩⟩⟩⟩
theorem lw_p32 : lw_okq (⟨"FeedloomModel", "sizeOf", "(I)I"⟩, 37) := ⟨⟨by decide +kernel, by decide +kernel⟩, List.mem_of_getElem? (i := 865) (by decide +kernel), List.mem_of_getElem? (i := 1137) (by decide +kernel), List.mem_of_getElem? (i := 1138) (by decide +kernel)⟩
theorem lw_p33 : lw_okq (⟨"FeedloomModel", "shows", "(II)Z"⟩, 37) := ⟨⟨by decide +kernel, by decide +kernel⟩, List.mem_of_getElem? (i := 865) (by decide +kernel), List.mem_of_getElem? (i := 1141) (by decide +kernel), List.mem_of_getElem? (i := 1142) (by decide +kernel)⟩
theorem lw_p34 : lw_okq (⟨"FeedloomModel", "itemAt", "(II)I"⟩, 37) := ⟨⟨by decide +kernel, by decide +kernel⟩, List.mem_of_getElem? (i := 865) (by decide +kernel), List.mem_of_getElem? (i := 1149) (by decide +kernel), List.mem_of_getElem? (i := 1150) (by decide +kernel)⟩
theorem lw_p35 : lw_okq (⟨"FeedloomModel", "ahead", "(II)I"⟩, 37) := ⟨⟨by decide +kernel, by decide +kernel⟩, List.mem_of_getElem? (i := 865) (by decide +kernel), List.mem_of_getElem? (i := 1153) (by decide +kernel), List.mem_of_getElem? (i := 1154) (by decide +kernel)⟩
theorem lw_p36 : lw_okq (⟨"FeedloomModel", "unreadIn", "(I)I"⟩, 37) := ⟨⟨by decide +kernel, by decide +kernel⟩, List.mem_of_getElem? (i := 865) (by decide +kernel), List.mem_of_getElem? (i := 1170) (by decide +kernel), List.mem_of_getElem? (i := 1171) (by decide +kernel)⟩
theorem lw_p37 : lw_okq (⟨"FeedloomModel", "isReadNow", "(I)Z"⟩, 37) := ⟨⟨by decide +kernel, by decide +kernel⟩, List.mem_of_getElem? (i := 865) (by decide +kernel), List.mem_of_getElem? (i := 1174) (by decide +kernel), List.mem_of_getElem? (i := 1175) (by decide +kernel)⟩
theorem lw_p38 : lw_okq (⟨"FeedloomModel", "isReadBy", "(III)Z"⟩, 37) := ⟨⟨by decide +kernel, by decide +kernel⟩, List.mem_of_getElem? (i := 865) (by decide +kernel), List.mem_of_getElem? (i := 1178) (by decide +kernel), List.mem_of_getElem? (i := 1179) (by decide +kernel)⟩
theorem lw_p39 : lw_okq (⟨"FeedloomModel", "copies", "(III)V"⟩, 37) := ⟨⟨by decide +kernel, by decide +kernel⟩, List.mem_of_getElem? (i := 865) (by decide +kernel), List.mem_of_getElem? (i := 1194) (by decide +kernel), List.mem_of_getElem? (i := 1195) (by decide +kernel)⟩
theorem lw_p40 : lw_okq (⟨"FeedloomModel", "learns", "(I)V"⟩, 37) := ⟨⟨by decide +kernel, by decide +kernel⟩, List.mem_of_getElem? (i := 865) (by decide +kernel), List.mem_of_getElem? (i := 1198) (by decide +kernel), List.mem_of_getElem? (i := 1199) (by decide +kernel)⟩
theorem lw_p41 : lw_okq (⟨"FeedloomModel", "isDevice", "(I)Z"⟩, 37) := ⟨⟨by decide +kernel, by decide +kernel⟩, List.mem_of_getElem? (i := 865) (by decide +kernel), List.mem_of_getElem? (i := 1206) (by decide +kernel), List.mem_of_getElem? (i := 1207) (by decide +kernel)⟩
theorem lw_p42 : lw_okq (⟨"FeedloomModel", "knows", "(II)Z"⟩, 37) := ⟨⟨by decide +kernel, by decide +kernel⟩, List.mem_of_getElem? (i := 865) (by decide +kernel), List.mem_of_getElem? (i := 1210) (by decide +kernel), List.mem_of_getElem? (i := 1211) (by decide +kernel)⟩
theorem lw_p43 : lw_okq (⟨"FeedloomModel", "isReadAt", "(II)Z"⟩, 37) := ⟨⟨by decide +kernel, by decide +kernel⟩, List.mem_of_getElem? (i := 865) (by decide +kernel), List.mem_of_getElem? (i := 1214) (by decide +kernel), List.mem_of_getElem? (i := 1215) (by decide +kernel)⟩
theorem lw_p44 : lw_okq (⟨"FeedloomModel", "marks", "(IIZ)V"⟩, 37) := ⟨⟨by decide +kernel, by decide +kernel⟩, List.mem_of_getElem? (i := 865) (by decide +kernel), List.mem_of_getElem? (i := 1218) (by decide +kernel), List.mem_of_getElem? (i := 1219) (by decide +kernel)⟩
theorem lw_p45 : lw_okq (⟨"FeedloomModel", "wins", "(II)Z"⟩, 37) := ⟨⟨by decide +kernel, by decide +kernel⟩, List.mem_of_getElem? (i := 865) (by decide +kernel), List.mem_of_getElem? (i := 1230) (by decide +kernel), List.mem_of_getElem? (i := 1231) (by decide +kernel)⟩
def lw_privs_3 : List (MethodName × Nat) := [(⟨"FeedloomModel", "sizeOf", "(I)I"⟩, 37), (⟨"FeedloomModel", "shows", "(II)Z"⟩, 37), (⟨"FeedloomModel", "itemAt", "(II)I"⟩, 37), (⟨"FeedloomModel", "ahead", "(II)I"⟩, 37), (⟨"FeedloomModel", "unreadIn", "(I)I"⟩, 37), (⟨"FeedloomModel", "isReadNow", "(I)Z"⟩, 37), (⟨"FeedloomModel", "isReadBy", "(III)Z"⟩, 37), (⟨"FeedloomModel", "copies", "(III)V"⟩, 37), (⟨"FeedloomModel", "learns", "(I)V"⟩, 37), (⟨"FeedloomModel", "isDevice", "(I)Z"⟩, 37), (⟨"FeedloomModel", "knows", "(II)Z"⟩, 37), (⟨"FeedloomModel", "isReadAt", "(II)Z"⟩, 37), (⟨"FeedloomModel", "marks", "(IIZ)V"⟩, 37), (⟨"FeedloomModel", "wins", "(II)Z"⟩, 37)]
theorem lw_r3 : ∀ q ∈ lw_privs_3, lw_okq q := List.forall_mem_cons.mpr ⟨lw_p32, List.forall_mem_cons.mpr ⟨lw_p33, List.forall_mem_cons.mpr ⟨lw_p34, List.forall_mem_cons.mpr ⟨lw_p35, List.forall_mem_cons.mpr ⟨lw_p36, List.forall_mem_cons.mpr ⟨lw_p37, List.forall_mem_cons.mpr ⟨lw_p38, List.forall_mem_cons.mpr ⟨lw_p39, List.forall_mem_cons.mpr ⟨lw_p40, List.forall_mem_cons.mpr ⟨lw_p41, List.forall_mem_cons.mpr ⟨lw_p42, List.forall_mem_cons.mpr ⟨lw_p43, List.forall_mem_cons.mpr ⟨lw_p44, List.forall_mem_cons.mpr ⟨lw_p45, fun _ h => absurd h List.not_mem_nil⟩⟩⟩⟩⟩⟩⟩⟩⟩⟩⟩⟩⟩⟩
def lw_privs : List (MethodName × Nat) := lw_privs_1 ++ (lw_privs_2 ++ (lw_privs_3))
def lw_tbl : List Cond := k2_sels lw_privs ++ tables_1
theorem lw_privs_ok : ∀ q ∈ lw_privs, lw_okq q := by
  show ∀ q ∈ lw_privs_1 ++ (lw_privs_2 ++ (lw_privs_3)), lw_okq q
  exact List.forall_mem_append.mpr ⟨lw_r1, List.forall_mem_append.mpr ⟨lw_r2, lw_r3⟩⟩
/-- the streams that the claim lets the run draw from -/
abbrev lw_cs : List Choice := [Jvm.Choice.named "NaN.bits"]
theorem lw_bits : nanBits ∈ lw_cs := by first | decide | exact List.mem_cons_self | simp [lw_cs, nanBits]
end
section
/-! ===== BEGIN words of one list among another's, by their places ===== -/
theorem goodIn_r {big : List Cond} (ws : List Cond) (ps : List Nat) (hp : ws = ps.filterMap (fun i => big[i]?)) (h : ws.all goodWord = true) : GoodIn big ws := by
  intro w hw
  have h1 := List.all_eq_true.mp h w hw
  rw [hp] at hw
  obtain ⟨i, -, hi⟩ := List.mem_filterMap.mp hw
  have hm : w ∈ big := by first | exact List.mem_of_getElem? hi | exact List.getElem?_mem hi
  exact ⟨hm, good_of_word h1⟩
theorem goodIn_app {big a b : List Cond} (ha : GoodIn big a) (hb : GoodIn big b) : GoodIn big (a ++ b) := fun w h => (List.mem_append.mp h).elim (ha w) (hb w)
theorem goodIn_ca {big a b : List Cond} {c : Cond} (ha : GoodIn big (c :: a)) (hb : GoodIn big b) : GoodIn big (c :: (a ++ b)) := fun w h => (List.mem_cons.mp h).elim (fun e => ha w (List.mem_cons.mpr (Or.inl e))) (fun h => (List.mem_append.mp h).elim (fun h => ha w (List.mem_cons.mpr (Or.inr h))) (hb w))
theorem goodIn_sub {big ws : List Cond} (hm : ∀ w ∈ ws, w ∈ big) (h : ws.all goodWord = true) : GoodIn big ws := fun w hw => ⟨hm w hw, good_of_word (List.all_eq_true.mp h w hw)⟩
/-! ===== END ===== -/

/-! ===== BEGIN exceptions that leave a method, and their catching by the caller (launches without stack traces) ===== -/
section VXA
/-! The laws vx_back, vx_callV, vx_callS, vx_callSW, vx_throw0, vx_throwS follow proofs of the library, with one case more: JvmDerived/Free/Laws.lean (Back.of_free), Shelf42/LK1.lean (callV, callS), Shelf/KitTraced.lean (throwNew0V, throwNewS). -/
/-- where a method has thrown q: the class by its name, the cell, what was written, the world -/
def vx_T (XC : String → State → State → Prop) (st : State) (q : Addr) (t : State) (mc ms : Nat) (free : Addr → Prop) : Prop :=
  ∃ (E : String) (ce : Cell) (L : List Loc), XC E st t ∧ t.heap[q]? = some ce ∧ ce.vm = .none ∧ st.vm.findClass E = some ce.cls ∧ st.WarmedH t.vm ∧ st.sameButNew ({ t with vm := st.vm } : State) L mc ms ∧ ∀ z ∈ L, free z.base
def vx_Q (Qc : Array Value → State → Outcome → State → Prop) (XC : String → State → State → Prop) (mc ms : Nat) (free : Addr → Prop) : Array Value → State → Outcome → State → Prop := fun a st o t =>
  (Qc a st o t ∧ ∃ L, FrameEnd st o t L mc ms ∧ ∀ q ∈ L, free q.base) ∨ ∃ q, o = .threw q ∧ vx_T XC st q t mc ms free
/-- a callee that returns or throws -/
def vx_Met (l : Launch) (y : MethodName) (ws : List Cond) (rm : Room) (Pc : Array Value → State → Prop) (Qc : Array Value → State → Outcome → State → Prop) (XC : String → State → State → Prop) (mc ms : Nat) (free : Addr → Prop) : Prop :=
  MetFree l y (headSpec ws rm) Pc (fun _ _ _ _ _ => True) (vx_Q Qc XC mc ms free)
def vx_Post (XC : String → State → State → Prop) (mc ms : Nat) (free : Addr → Prop) : Pt → Array Value → Addr → Pt → Prop := fun A a q B =>
  ∃ (g : JFrame) (mk : MethodId) (t : State) (L : List Loc) (E : String) (ce : Cell), B.U.heap = t.heap ∧ B.U.vm = t.vm ∧ XC E (A.U.calling g mk a) t ∧ t.heap[q]? = some ce ∧ ce.vm = .none ∧ A.U.vm.findClass E = some ce.cls ∧ B.locs = A.locs ++ L ∧ (∀ z ∈ L, free z.base) ∧ B.cells = A.cells + mc ∧ B.slots = A.slots + ms
def vx_Back (l : Launch) (R : Room) (p : Program) (e : Env) (below : List Frame) (s : State) (sargs : Array Value) (y : MethodName) (len W9 : Nat)
    (Pre : Pt → Array Value → Prop) (Post : Pt → Array Value → Option Value → Pt → Prop) (PostX : Pt → Array Value → Addr → Pt → Prop) : Prop :=
  ∀ (m : MethodId) (meth : Method) (c : Code) (A : Pt) (g : JFrame) (ig : Instr) (mk : MethodId) (a : Array Value),
    Stand p l e R s m sargs below meth c A.U A.locs A.cells A.slots → g.method = m → g.locals.size = c.maxLocals → decode c.code g.pc = .ok (ig, len) →
    2 * g.monitorRoom + (g.stack.map fun v => v.category).sum ≤ W9 → A.U.methodNamed? y = some mk → Pre A a →
    (∃ (v : Option Value) (B : Pt), Stand p l e R s m sargs below meth c B.U B.locs B.cells B.slots ∧ Post A a v B ∧
      Steps p.tables e below (doInvoke e (A.U.setTop g) [] mk a).1 (B.U.setTop { g with pc := g.pc + len, stack := v.toList ++ g.stack })) ∨
    (∃ (q : Addr) (B : Pt), Stand p l e R s m sargs below meth c B.U B.locs B.cells B.slots ∧ PostX A a q B ∧
      Steps p.tables e below (doInvoke e (A.U.setTop g) [] mk a).1 ((B.U.setTop g).pushFrame (.throwing q)))
section Payer
variable {l : Launch} {R : Room} {p : Program} {e : Env} {below : List Frame} {s : State} {sargs : Array Value} {y : MethodName} {len W9 : Nat}
theorem vx_back {ws : List Cond} {rm : Room} {Pc : Array Value → State → Prop} {Qc : Array Value → State → Outcome → State → Prop} {XC : String → State → State → Prop} {mc ms : Nat} {free : Addr → Prop} {bytes : ByteArray} {maxL : Nat} {ret : Option FieldType}
    (hM : vx_Met l y ws rm Pc Qc XC mc ms free) (hblind : FrameBlind Pc) (hrc : rm.cells = mc) (hrs : rm.slots = ms)
    (hframes : rm.frames + 1 ≤ R.frames) (hlocals : W9 + (maxL + 11) + rm.locals ≤ R.locals)
    (hws : ∀ w ∈ ws, ∀ a' U, s.WarmedH U.vm → w.before a' U = true) (hcode : Cond.code y bytes maxL ret ∈ ws) (hinit : ∀ a' U, s.WarmedH U.vm → (Cond.initialized y.cls).before a' U = true) :
    vx_Back l R p e below s sargs y len W9 (PreOf R mc ms Pc) (PostOf Qc mc ms free) (vx_Post XC mc ms free) := by
  intro m meth c A g ig mk a X hg hsize hdg hW hn hp
  have h1 : (headSpec ws rm).pre.before a A.U = true := atoms_intro fun w hw => hws w hw _ _ X.warmed
  have h2 : (Cond.code y bytes maxL ret).before a A.U = true := hws _ hcode _ _ X.warmed
  have h3 : (Cond.initialized y.cls).before a A.U = true := hinit _ _ X.warmed
  have h4 : A.cells + (headSpec ws rm).room.cells ≤ R.cells := by rw [show (headSpec ws rm).room.cells = mc from hrc]; exact hp.1
  have h5 : A.slots + (headSpec ws rm).room.slots ≤ R.slots := by rw [show (headSpec ws rm).room.slots = ms from hrs]; exact hp.2.1
  have hPc : Pc a (A.U.calling g mk a) := hblind _ _ _ _ hp.2.2
  obtain ⟨U, Ls, c0, s0⟩ := A
  dsimp only [Pt.U, Pt.locs, Pt.cells, Pt.slots] at h1 h2 h3 h4 h5 X hn hPc ⊢
  obtain ⟨methY, cY, hmY, hcY, -, hlY, -, -, -, -⟩ := Cond.code_spec hn h2
  obtain ⟨kY, hkY, -⟩ := className_of_methodNamed hn
  have hinitY : kY.init = .initialized := Cond.initialized_spec (findClass_of_methodNamed hn) hkY h3
  have h : At U g.method c below := by rw [hg]; exact X.here
  have hlocals9 : W9 + (maxL + 11) + (headSpec ws rm).room.locals ≤ R.locals := hlocals
  have happ : (headSpec ws rm).appliesLoose y e.platform (U.calling g mk a) = true :=
    Spec.appliesLoose_calling (g := g) h hdg hn hkY hinitY
      (X.room_calling (g := g) (R' := (headSpec ws rm).room) hsize hmY hcY hframes (by rw [hlY]; omega) h4 h5) h1
  obtain ⟨mid, hmid⟩ := h.above
  have hfr : (U.setTop g).frames = (.java g :: mid) ++ below := by rw [State.frames_setTop' g h.top, hmid]; rfl
  obtain ⟨o, s₂, hsteps, -, hend, hq⟩ := Steps.callFree hM p X.admits X.cas X.clock (acts := []) hfr happ hPc trivial
  have hq' : vx_Q Qc XC mc ms free a (U.calling g mk a) o s₂ := hq
  rw [State.frames_setTop' g h.top] at hend
  obtain ⟨g₀, hg0⟩ := Option.isSome_iff_exists.mp h.top
  obtain ⟨r, hr⟩ := State.topJava?_eq_some.mp hg0
  have hr' : (({ U with heap := s₂.heap, slotsUsed := s₂.slotsUsed } : State).setVm s₂.vm).frames = .java g₀ :: r := hr
  rcases hq' with ⟨hqc, L, hfe, hL⟩ | ⟨q, rfl, E, ce, L, hx, hce, hcv, hcl, hW₂, hsm, hL⟩
  · obtain ⟨⟨v, rfl⟩, hW₂, e2, q2, q3, q4, q5, q6⟩ := id hfe
    have e3 : s₂ = ({ (U.calling g mk a).setFrames s₂.frames with heap := s₂.heap, slotsUsed := s₂.slotsUsed } : State).setVm s₂.vm := by
      have : s₂ = ({ s₂ with vm := (U.calling g mk a).vm } : State).setVm s₂.vm := rfl
      rw [e2] at this
      exact this
    obtain ⟨c₂, i₂, len₂, hc₂, hd₂, hf₂⟩ := hend
    have hW' : U.WarmedH s₂.vm := hW₂
    have hcc : c₂ = c := by
      have h1 : s₂.code? g.method = U.code? g.method := by
        rw [State.code?_eq, State.code?_eq, hW'.alike.method?]
      exact Option.some.inj (hc₂.symm.trans (h1.trans h.code))
    subst hcc
    have hlen : len₂ = len := by rw [hdg] at hd₂; cases hd₂; rfl
    subst hlen
    have hs₂ : s₂ = (({ U with heap := s₂.heap, slotsUsed := s₂.slotsUsed } : State).setVm s₂.vm).setTop { g with pc := g.pc + len₂, stack := v.toList ++ g.stack } := by
      refine e3.trans ?_
      rw [hf₂, State.calling_eq h.top, State.setFrames_setFrames, State.setTop_of_frames _ hr', hr]
      rfl
    have hsame : U.sameButNew ({ U with heap := s₂.heap, slotsUsed := s₂.slotsUsed } : State) L mc ms := by
      refine ⟨?_, q2, q3, q4, q5, q6⟩
      obtain ⟨t, ht, -⟩ := State.frames_cons hr
      show ({ U with heap := s₂.heap, slotsUsed := s₂.slotsUsed } : State) = { U.setFrames U.frames with heap := s₂.heap, slotsUsed := s₂.slotsUsed }
      rw [State.setFrames_self ht]
    subst hg
    refine Or.inl ⟨v, ⟨(({ U with heap := s₂.heap, slotsUsed := s₂.slotsUsed } : State).setVm s₂.vm), Ls ++ L, c0 + mc, s0 + ms⟩,
      ⟨X.admits, X.cas, X.clock, X.frames, X.room, X.hears, X.method, X.code, (X.here.setHeapUsed s₂.heap s₂.slotsUsed).setVm hW'.alike, X.tail, State.WarmedH.trans X.warmed hW', X.limits, X.bytes, X.same.trans (hsame.setVm s.vm)⟩,
      ⟨g, mk, s₂, L, rfl, rfl, hqc, rfl, hL, rfl, rfl⟩, ?_⟩
    show Steps p.tables e below _ ((({ U with heap := s₂.heap, slotsUsed := s₂.slotsUsed } : State).setVm s₂.vm).setTop { g with pc := g.pc + len₂, stack := v.toList ++ g.stack })
    rw [← hs₂]
    exact hsteps
  · obtain ⟨e2, q2, q3, q4, q5, q6⟩ := id hsm
    have e3 : s₂ = ({ (U.calling g mk a).setFrames s₂.frames with heap := s₂.heap, slotsUsed := s₂.slotsUsed } : State).setVm s₂.vm := by
      have : s₂ = ({ s₂ with vm := (U.calling g mk a).vm } : State).setVm s₂.vm := rfl
      rw [e2] at this
      exact this
    have hf₂ : s₂.frames = .throwing q :: .java g :: U.frames.tail := hend
    have hW' : U.WarmedH s₂.vm := hW₂
    have hs₂ : s₂ = ((({ U with heap := s₂.heap, slotsUsed := s₂.slotsUsed } : State).setVm s₂.vm).setTop g).pushFrame (.throwing q) := by
      refine e3.trans ?_
      rw [hf₂, State.calling_eq h.top, State.setFrames_setFrames, State.pushFrame, State.frames_setTop _ hr', State.setTop_of_frames _ hr', State.setFrames_setFrames, hr]
      rfl
    have hsame : U.sameButNew ({ U with heap := s₂.heap, slotsUsed := s₂.slotsUsed } : State) L mc ms := by
      refine ⟨?_, q2, q3, q4, q5, q6⟩
      obtain ⟨t, ht, -⟩ := State.frames_cons hr
      show ({ U with heap := s₂.heap, slotsUsed := s₂.slotsUsed } : State) = { U.setFrames U.frames with heap := s₂.heap, slotsUsed := s₂.slotsUsed }
      rw [State.setFrames_self ht]
    subst hg
    refine Or.inr ⟨q, ⟨(({ U with heap := s₂.heap, slotsUsed := s₂.slotsUsed } : State).setVm s₂.vm), Ls ++ L, c0 + mc, s0 + ms⟩,
      ⟨X.admits, X.cas, X.clock, X.frames, X.room, X.hears, X.method, X.code, (X.here.setHeapUsed s₂.heap s₂.slotsUsed).setVm hW'.alike, X.tail, State.WarmedH.trans X.warmed hW', X.limits, X.bytes, X.same.trans (hsame.setVm s.vm)⟩,
      ⟨g, mk, s₂, L, E, ce, rfl, rfl, hx, hce, hcv, hcl, rfl, hL, rfl, rfl⟩, ?_⟩
    show Steps p.tables e below _ (((({ U with heap := s₂.heap, slotsUsed := s₂.slotsUsed } : State).setVm s₂.vm).setTop g).pushFrame (.throwing q))
    rw [← hs₂]
    exact hsteps
end Payer
section Calls
variable {p : Program} {l : Launch} {e : Env} {R : Room} {s : State} {m : MethodId} {args : Array Value} {below : List Frame} {meth : Method} {c : Code} {T : State} {locs : List Loc} {cells slots : Nat}
theorem vx_callV (X : Stand p l e R s m args below meth c T locs cells slots) (hexec : p.tables.exec = Jvm.exec) {own C : String} {index : Nat} {y : MethodName} {bytes : ByteArray} {maxL : Nat} {ret : Option FieldType}
    (hown : s.vm.findClass own = some m.cls) (hlink : (Cond.methodLink own index y).before args s = true) (hinst : (Cond.instanceMethod y).before args s = true) (hsel : (Cond.selects C y y).before args s = true)
    (hcode : (Cond.code y bytes maxL ret).before args s = true) (hy : y.cls ≠ "java/lang/invoke/MethodHandle" ∧ y.cls ≠ "java/lang/invoke/VarHandle")
    {W9 : Nat} {Pre : Pt → Array Value → Prop} {Post : Pt → Array Value → Option Value → Pt → Prop} {PostX : Pt → Array Value → Addr → Pt → Prop} (hK : vx_Back l R p e below s args y 3 W9 Pre Post PostX)
    {b : Addr} {cellB : Cell} (hcell : T.heap[b]? = some cellB) (hobj : cellB.vm.isStatics = false) (hcls : s.vm.findClass C = some cellB.cls)
    {g : JFrame} (hg : g.method = m) (hsize : g.locals.size = c.maxLocals) {argsL rest : List Value} (hlen : ∀ sig, parseMethodDescriptor y.desc = some sig → argsL.length = sig.parameters.length)
    (hstack : g.stack = argsL.reverse ++ .ref b :: rest) (hW : 2 * g.monitorRoom + (rest.map fun v => v.category).sum ≤ W9) (hdg : decode c.code g.pc = .ok (.invokevirtual index, 3))
    (hpre : ∀ vm₁, s.WarmedH vm₁ → Pre ⟨T.setVm vm₁, locs, cells, slots⟩ (Value.ref b :: argsL).toArray) :
    (∃ (v : Option Value) (vm₁ : Vm) (B : Pt), s.WarmedH vm₁ ∧ Stand p l e R s m args below meth c B.U B.locs B.cells B.slots ∧ Post ⟨T.setVm vm₁, locs, cells, slots⟩ (Value.ref b :: argsL).toArray v B ∧
      ∀ target, Steps p.tables e below (B.U.setTop { g with pc := g.pc + 3, stack := v.toList ++ rest }) target → Steps p.tables e below (T.setTop g) target) ∨
    (∃ (q : Addr) (vm₁ : Vm) (B : Pt), s.WarmedH vm₁ ∧ Stand p l e R s m args below meth c B.U B.locs B.cells B.slots ∧ PostX ⟨T.setVm vm₁, locs, cells, slots⟩ (Value.ref b :: argsL).toArray q B ∧
      Steps p.tables e below (T.setTop g) ((B.U.setTop { g with stack := rest }).pushFrame (.throwing q))) := by
  obtain ⟨mk, methM, hnamed, hmethM, hstM, habM⟩ := Cond.instanceMethod_spec hinst
  obtain ⟨methM', cM, hmethM', -, -, -, -, -, -, hsigM⟩ := Cond.code_spec hnamed hcode
  cases hmethM.symm.trans hmethM'
  obtain ⟨c2, r2, m2, q1, q2, q3, q4, kP, hkP, hkPi⟩ := Cond.selects_spec hsel
  cases hcls.symm.trans q1
  cases (State.methodFound?_of_named hnamed hy).symm.trans q2
  cases hnamed.symm.trans q3
  have hselP : selectMethod e.platform s.vm cellB.cls mk = .method mk := by rw [Launch.admits_selectMethod X.admits]; exact q4
  obtain ⟨vm₁, X₁, hstep₁⟩ := X.invokevirtual hexec hown hlink hnamed hmethM hstM hkP hkPi hy (a := b) (cell := cellB) hcell
    (fun z h => by rw [h] at hobj; cases hobj) hselP hmethM habM hkP hkPi (g := g) hg (argsL := argsL) (rest := rest) (hlen _ hsigM) hstack hdg
  rcases hK m meth c ⟨T.setVm vm₁, locs, cells, slots⟩ { g with stack := rest } (.invokevirtual index) mk (Value.ref b :: argsL).toArray X₁ hg hsize hdg hW (X₁.named hnamed) (hpre vm₁ X₁.warmed) with ⟨v, B, X', hpost, hsteps⟩ | ⟨q, B, X', hpost, hsteps⟩
  · exact Or.inl ⟨v, vm₁, B, X₁.warmed, X', hpost, fun target h => hstep₁ _ fun acts => by rw [doInvoke_state]; exact hsteps.trans h⟩
  · exact Or.inr ⟨q, vm₁, B, X₁.warmed, X', hpost, hstep₁ _ fun acts => by rw [doInvoke_state]; exact hsteps⟩
theorem vx_callS (X : Stand p l e R s m args below meth c T locs cells slots) (hexec : p.tables.exec = Jvm.exec) {own : String} {index : Nat} {y : MethodName} {bytes : ByteArray} {maxL : Nat} {ret : Option FieldType}
    (hown : s.vm.findClass own = some m.cls) (hlink : (Cond.methodLink own index y).before args s = true) (hstat : (Cond.static y).before args s = true) (hinit : (Cond.initialized y.cls).before args s = true)
    (hcode : (Cond.code y bytes maxL ret).before args s = true) (hy : y.cls ≠ "java/lang/invoke/MethodHandle" ∧ y.cls ≠ "java/lang/invoke/VarHandle")
    {W9 : Nat} {Pre : Pt → Array Value → Prop} {Post : Pt → Array Value → Option Value → Pt → Prop} {PostX : Pt → Array Value → Addr → Pt → Prop} (hK : vx_Back l R p e below s args y 3 W9 Pre Post PostX)
    {g : JFrame} (hg : g.method = m) (hsize : g.locals.size = c.maxLocals) {argsL rest : List Value} (hlen : ∀ sig, parseMethodDescriptor y.desc = some sig → argsL.length = sig.parameters.length)
    (hstack : g.stack = argsL.reverse ++ rest) (hW : 2 * g.monitorRoom + (rest.map fun v => v.category).sum ≤ W9) (hdg : decode c.code g.pc = .ok (.invokestatic index, 3))
    (hpre : ∀ vm₁, s.WarmedH vm₁ → Pre ⟨T.setVm vm₁, locs, cells, slots⟩ argsL.toArray) :
    (∃ (v : Option Value) (vm₁ : Vm) (B : Pt), s.WarmedH vm₁ ∧ Stand p l e R s m args below meth c B.U B.locs B.cells B.slots ∧ Post ⟨T.setVm vm₁, locs, cells, slots⟩ argsL.toArray v B ∧
      ∀ target, Steps p.tables e below (B.U.setTop { g with pc := g.pc + 3, stack := v.toList ++ rest }) target → Steps p.tables e below (T.setTop g) target) ∨
    (∃ (q : Addr) (vm₁ : Vm) (B : Pt), s.WarmedH vm₁ ∧ Stand p l e R s m args below meth c B.U B.locs B.cells B.slots ∧ PostX ⟨T.setVm vm₁, locs, cells, slots⟩ argsL.toArray q B ∧
      Steps p.tables e below (T.setTop g) ((B.U.setTop { g with stack := rest }).pushFrame (.throwing q))) := by
  obtain ⟨mk, hnamed⟩ := Cond.code_named hcode
  obtain ⟨methM, cM, hmethM, -, -, -, -, -, -, hsigM⟩ := Cond.code_spec hnamed hcode
  have hstatic : methM.isStatic = true := Cond.static_spec hnamed hmethM hstat
  obtain ⟨kP, hkP, -⟩ := className_of_methodNamed hnamed
  have hinitP : kP.init = .initialized := Cond.initialized_spec (findClass_of_methodNamed hnamed) hkP hinit
  obtain ⟨vm₁, X₁, hstep₁⟩ := X.invokestatic hexec hown hlink hnamed hmethM hstatic hkP hinitP hy (g := g) hg (argsL := argsL) (rest := rest) (hlen _ hsigM) hstack hdg
  rcases hK m meth c ⟨T.setVm vm₁, locs, cells, slots⟩ { g with stack := rest } (.invokestatic index) mk argsL.toArray X₁ hg hsize hdg hW (X₁.named hnamed) (hpre vm₁ X₁.warmed) with ⟨v, B, X', hpost, hsteps⟩ | ⟨q, B, X', hpost, hsteps⟩
  · exact Or.inl ⟨v, vm₁, B, X₁.warmed, X', hpost, fun target h => hstep₁ _ fun acts => by rw [doInvoke_state]; exact hsteps.trans h⟩
  · exact Or.inr ⟨q, vm₁, B, X₁.warmed, X', hpost, hstep₁ _ fun acts => by rw [doInvoke_state]; exact hsteps⟩
end Calls
theorem vx_cls {s : State} {T : State} {vm₁ : Vm} {E : String} {k : ClassId} (hW : s.WarmedH vm₁) (h : (T.setVm vm₁).vm.findClass E = some k) : s.vm.findClass E = some k := by
  have h1 : vm₁.findClass E = some k := h
  rw [hW.alike.findClass] at h1
  exact h1
/-- the method's frame g, with q thrown over it -/
def vx_W (p : Program) (l : Launch) (e : Env) (R : Room) (s : State) (m : MethodId) (args : Array Value) (below : List Frame) (meth : Method) (c : Code) (H : Heap) (locs : List Loc) (cells slots : Nat) (Q : State → Prop) (g : JFrame) (q : Addr) : Prop :=
  ∀ T : State, T.heap = H → Stand p l e R s m args below meth c T locs cells slots → ∃ t, Steps p.tables e below ((T.setTop g).pushFrame (.throwing q)) t ∧ Q t
def vx_Run (p : Program) (l : Launch) (e : Env) (R : Room) (s : State) (m : MethodId) (args : Array Value) (below : List Frame) (meth : Method) (c : Code) (H : Heap) (locs : List Loc) (cells slots mc ms : Nat) (g : JFrame) (rest : List Value) (Qa : State → Outcome → State → Prop) (XC : String → State → State → Prop) (free : Addr → Prop) : Prop :=
  ∀ T : State, T.heap = H → Stand p l e R s m args below meth c T locs cells slots →
    (∃ (v : Option Value) (st₀ t T' : State) (L : List Loc), st₀.heap = H ∧ Stand p l e R s m args below meth c T' (locs ++ L) (cells + mc) (slots + ms) ∧ (∀ q ∈ L, free q.base) ∧ T'.heap = t.heap ∧ T'.vm = t.vm ∧ Qa st₀ (.returned v) t ∧
      Goes p e below T g T' { g with pc := g.pc + 3, stack := v.toList ++ rest }) ∨
    (∃ (q : Addr) (st₀ t T' : State) (L : List Loc) (E : String) (ce : Cell), st₀.heap = H ∧ Stand p l e R s m args below meth c T' (locs ++ L) (cells + mc) (slots + ms) ∧ (∀ z ∈ L, free z.base) ∧ T'.heap = t.heap ∧ T'.vm = t.vm ∧ XC E st₀ t ∧ t.heap[q]? = some ce ∧ ce.vm = .none ∧ s.vm.findClass E = some ce.cls ∧
      Steps p.tables e below (T.setTop g) ((T'.setTop { g with stack := rest }).pushFrame (.throwing q)))
def vx_X {S : Type} (px : S → Prop) (B : String → S → State → Prop) (A : Nat → Prop) : String → State → State → Prop := fun E st t => ∃ u : S, px u ∧ B E u t ∧ va_F A st t
section Runs
variable {p : Program} {l : Launch} {e : Env} {R : Room} {s : State} {m : MethodId} {args : Array Value} {below : List Frame} {meth : Method} {c : Code} {H : Heap} {locs : List Loc} {cells slots : Nat}
variable {y : MethodName} {bytes cc : ByteArray} {maxL nL mc ms n index : Nat} {ret : Option FieldType} {ws : List Cond} {rm : Room} {Pc : Array Value → State → Prop} {Qc : Array Value → State → Outcome → State → Prop} {XC : String → State → State → Prop} {free : Addr → Prop} {Ts : List Cond} {own C : String} {b : Addr} {As rest : List Value} {g : JFrame}
theorem vx_callBack (cb : CallB R s args own index y bytes maxL ret ws rm mc ms n) (hM : vx_Met l y ws rm Pc Qc XC mc ms free) (hbl : FrameBlind Pc) : vx_Back l R p e below s args y 3 8 (PreOf R mc ms Pc) (PostOf Qc mc ms free) (vx_Post XC mc ms free) := by
  obtain ⟨hrc, hrs, hfr, hlo, hws, hcw, -, hini, -⟩ := cb
  exact vx_back (bytes := bytes) (maxL := maxL) (ret := ret) hM hbl hrc hrs hfr hlo hws hcw (fun a' U hW => word_at hW (Or.inl (by first | rfl | simp [Cond.onTables, Cond.keeps, Cond.steady])) hini)
theorem vx_runV (S : CallFix p m c cc nL s args Ts own) (hM : vx_Met l y ws rm Pc Qc XC mc ms free) (cw : CallW R s args own C index y bytes maxL ret ws rm mc ms n) (hp : PreV s H C b Pc As)
    (hg : g.method = m) (hn : As.length = n) (hsize : g.locals.size = nL) (hstack : g.stack = As.reverse ++ .ref b :: rest) (hW : 2 * g.monitorRoom + (rest.map fun v => v.category).sum ≤ 8) (hdg : decode cc g.pc = .ok (.invokevirtual index, 3)) (hf : cells + mc ≤ R.cells ∧ slots + ms ≤ R.slots) :
    vx_Run p l e R s m args below meth c H locs cells slots mc ms g rest (Qc (Value.ref b :: As).toArray) XC free := by
  have hK : vx_Back l R p e below s args y 3 8 (PreOf R mc ms Pc) (PostOf Qc mc ms free) (vx_Post XC mc ms free) := vx_callBack cw.1 hM hp.1
  obtain ⟨⟨-, -, -, -, -, -, hcode, -, hy, hlen, hl⟩, hin, hse⟩ := cw
  obtain ⟨hx, hb, hml, ho, -⟩ := S
  obtain ⟨-, ⟨cellB, hcB, hoB, hclB⟩, hPc⟩ := hp
  intro T hT X
  rcases vx_callV X hx (C := C) (bytes := bytes) (maxL := maxL) (ret := ret) ho hl hin hse hcode hy hK (by rw [hT]; exact hcB) hoB hclB hg (hsize.trans hml.symm) (argsL := As) (rest := rest) (fun sig h => hn.trans (hlen sig h)) hstack hW (by rw [hb]; exact hdg)
    (fun vm₁ hW₁ => ⟨hf.1, hf.2, hPc (T.setVm vm₁) hT hW₁⟩) with ⟨v, vm₁, ⟨U', l2, c2, s2⟩, hW₁, X', ⟨g', mk, t, L, e1, e2, hq, h1, hL, h2, h3⟩, st⟩ | ⟨q, vm₁, ⟨U', l2, c2, s2⟩, hW₁, X', ⟨g', mk, t, L, E, ce, e1, e2, hq, hce, hcv, hcl, h1, hL, h2, h3⟩, st⟩
  · dsimp only [Pt.U, Pt.locs, Pt.cells, Pt.slots] at X' e1 e2 h1 h2 h3 st
    subst h1; subst h2; subst h3
    exact Or.inl ⟨v, (T.setVm vm₁).calling g' mk (Value.ref b :: As).toArray, t, U', L, hT, X', hL, e1, e2, hq, st⟩
  · dsimp only [Pt.U, Pt.locs, Pt.cells, Pt.slots] at X' e1 e2 h1 h2 h3 st hcl
    subst h1; subst h2; subst h3
    exact Or.inr ⟨q, (T.setVm vm₁).calling g' mk (Value.ref b :: As).toArray, t, U', L, E, ce, hT, X', hL, e1, e2, hq, hce, hcv, vx_cls hW₁ hcl, st⟩
theorem vx_runS (S : CallFix p m c cc nL s args Ts own) (hM : vx_Met l y ws rm Pc Qc XC mc ms free) (cw : CallB R s args own index y bytes maxL ret ws rm mc ms n ∧ (Cond.static y).before args s = true) (hp : PreS s H Pc As)
    (hg : g.method = m) (hn : As.length = n) (hsize : g.locals.size = nL) (hstack : g.stack = As.reverse ++ rest) (hW : 2 * g.monitorRoom + (rest.map fun v => v.category).sum ≤ 8) (hdg : decode cc g.pc = .ok (.invokestatic index, 3)) (hf : cells + mc ≤ R.cells ∧ slots + ms ≤ R.slots) :
    vx_Run p l e R s m args below meth c H locs cells slots mc ms g rest (Qc As.toArray) XC free := by
  have hK : vx_Back l R p e below s args y 3 8 (PreOf R mc ms Pc) (PostOf Qc mc ms free) (vx_Post XC mc ms free) := vx_callBack cw.1 hM hp.1
  obtain ⟨⟨-, -, -, -, -, -, hcode, hini, hy, hlen, hl⟩, hstt⟩ := cw
  obtain ⟨hx, hb, hml, ho, -⟩ := S
  intro T hT X
  rcases vx_callS X hx (bytes := bytes) (maxL := maxL) (ret := ret) ho hl hstt hini hcode hy hK hg (hsize.trans hml.symm) (argsL := As) (rest := rest) (fun sig h => hn.trans (hlen sig h)) hstack hW (by rw [hb]; exact hdg)
    (fun vm₁ hW₁ => ⟨hf.1, hf.2, hp.2 (T.setVm vm₁) hT hW₁⟩) with ⟨v, vm₁, ⟨U', l2, c2, s2⟩, hW₁, X', ⟨g', mk, t, L, e1, e2, hq, h1, hL, h2, h3⟩, st⟩ | ⟨q, vm₁, ⟨U', l2, c2, s2⟩, hW₁, X', ⟨g', mk, t, L, E, ce, e1, e2, hq, hce, hcv, hcl, h1, hL, h2, h3⟩, st⟩
  · dsimp only [Pt.U, Pt.locs, Pt.cells, Pt.slots] at X' e1 e2 h1 h2 h3 st
    subst h1; subst h2; subst h3
    exact Or.inl ⟨v, (T.setVm vm₁).calling g' mk As.toArray, t, U', L, hT, X', hL, e1, e2, hq, st⟩
  · dsimp only [Pt.U, Pt.locs, Pt.cells, Pt.slots] at X' e1 e2 h1 h2 h3 st hcl
    subst h1; subst h2; subst h3
    exact Or.inr ⟨q, (T.setVm vm₁).calling g' mk As.toArray, t, U', L, E, ce, hT, X', hL, e1, e2, hq, hce, hcv, vx_cls hW₁ hcl, st⟩
end Runs
section Rows
variable {p : Program} {l : Launch} {e : Env} {R : Room} {s : State} {m : MethodId} {args : Array Value} {below : List Frame} {meth : Method} {c : Code} {H : Heap} {locs : List Loc} {cells slots : Nat} {Q : State → Prop}
variable {mc ms : Nat} {free : Addr → Prop} {A0 A1 : Nat → Prop} {H0 : Heap} {a : Array Value} {pc : Nat} {ls : Array Slot} {st0 rest : List Value}
theorem vx_keep {st₀ t T' : State} {L : List Loc} (h0 : st₀.heap = H) (e1 : T'.heap = t.heap) (hS : va_S A0 H0 H locs) (hA : ∀ q, q < H.size → A1 q → A0 q) (hf : ∀ q, free q → A0 q) (hL : ∀ q ∈ L, free q.base) (hF : va_F A1 st₀ t) :
    H.size ≤ T'.heap.size ∧ (∀ q : Nat, q < H.size → ¬ A1 q → T'.heap[q]? = H[q]?) ∧ va_S A0 H0 T'.heap (locs ++ L) := by
  obtain ⟨hz, hk⟩ := hF
  rw [h0] at hz hk
  exact ⟨by rw [e1]; exact hz, fun q h1 h2 => by rw [e1]; exact hk q h1 h2,
    ⟨Nat.le_trans hS.1 (by rw [e1]; exact hz), fun q h1 h2 => by rw [e1, hk q (Nat.lt_of_lt_of_le h1 hS.1) (fun z => h2 (hA q (Nat.lt_of_lt_of_le h1 hS.1) z))]; exact hS.2.1 q h1 h2, fun q hq => by
      rcases List.mem_append.mp hq with h | h
      · exact hS.2.2 q h
      · exact hf _ (hL q h)⟩⟩
theorem vx_calli {S SX : Type} {post : Int32 → S → Prop} {px : SX → Prop} {B : S → State → Prop} {BX : String → SX → State → Prop} {AX : Nat → Prop} (hr : vx_Run p l e R s m args below meth c H locs cells slots mc ms (F0 m pc ls st0) rest (va_Qi post B A1 a) (vx_X px BX AX) free) (hS : va_S A0 H0 H locs) (hA : ∀ q, q < H.size → A1 q → A0 q) (hf : ∀ q, free q → A0 q) (hAX : ∀ q, q < H.size → AX q → A0 q)
    (kx : ∀ (E : String) (ce : Cell) (q9 : Addr) (u : SX) (t : State) (H1 : Heap) (locs1 : List Loc), t.heap = H1 → s.vm.Alike t.vm → px u → BX E u t → H.size ≤ H1.size → (∀ q : Nat, q < H.size → ¬ AX q → H1[q]? = H[q]?) → va_S A0 H0 H1 locs1 → H1[q9]? = some ce → ce.vm = .none → s.vm.findClass E = some ce.cls → vx_W p l e R s m args below meth c H1 locs1 (cells + mc) (slots + ms) Q (F0 m pc ls rest) q9)
    (kk : ∀ (r : Int32) (u : S) (t : State) (H1 : Heap) (locs1 : List Loc), t.heap = H1 → s.vm.Alike t.vm → post r u → B u t → H.size ≤ H1.size → (∀ q : Nat, q < H.size → ¬ A1 q → H1[q]? = H[q]?) → va_S A0 H0 H1 locs1 → W p l e R s m args below meth c H1 locs1 (cells + mc) (slots + ms) Q (F0 m (pc + 3) ls (.int r :: rest))) : W p l e R s m args below meth c H locs cells slots Q (F0 m pc ls st0) := by
  intro T hT X
  rcases hr T hT X with ⟨v, st₀, t, T', L, h0, X', hL, e1, e2, ⟨⟨r, u, hv, hp, hb⟩, hF⟩, st⟩ | ⟨q, st₀, t, T', L, E, ce, h0, X', hL, e1, e2, ⟨u, hp, hb, hF⟩, hce, hcv, hcl, st⟩
  · cases hv
    obtain ⟨k1, k2, k3⟩ := vx_keep h0 e1 hS hA hf hL hF
    obtain ⟨t2, a1, b1⟩ := kk r u t T'.heap (locs ++ L) e1.symm (by rw [← e2]; exact X'.warmed.alike) hp hb k1 k2 k3 T' rfl X'
    exact ⟨t2, st t2 a1, b1⟩
  · obtain ⟨k1, k2, k3⟩ := vx_keep h0 e1 hS hAX hf hL hF
    obtain ⟨t2, a1, b1⟩ := kx E ce q u t T'.heap (locs ++ L) e1.symm (by rw [← e2]; exact X'.warmed.alike) hp hb k1 k2 k3 (by rw [e1]; exact hce) hcv hcl T' rfl X'
    exact ⟨t2, st.trans a1, b1⟩
theorem vx_calll {S SX : Type} {post : Int64 → S → Prop} {px : SX → Prop} {B : S → State → Prop} {BX : String → SX → State → Prop} {AX : Nat → Prop} (hr : vx_Run p l e R s m args below meth c H locs cells slots mc ms (F0 m pc ls st0) rest (va_Ql post B A1 a) (vx_X px BX AX) free) (hS : va_S A0 H0 H locs) (hA : ∀ q, q < H.size → A1 q → A0 q) (hf : ∀ q, free q → A0 q) (hAX : ∀ q, q < H.size → AX q → A0 q)
    (kx : ∀ (E : String) (ce : Cell) (q9 : Addr) (u : SX) (t : State) (H1 : Heap) (locs1 : List Loc), t.heap = H1 → s.vm.Alike t.vm → px u → BX E u t → H.size ≤ H1.size → (∀ q : Nat, q < H.size → ¬ AX q → H1[q]? = H[q]?) → va_S A0 H0 H1 locs1 → H1[q9]? = some ce → ce.vm = .none → s.vm.findClass E = some ce.cls → vx_W p l e R s m args below meth c H1 locs1 (cells + mc) (slots + ms) Q (F0 m pc ls rest) q9)
    (kk : ∀ (r : Int64) (u : S) (t : State) (H1 : Heap) (locs1 : List Loc), t.heap = H1 → s.vm.Alike t.vm → post r u → B u t → H.size ≤ H1.size → (∀ q : Nat, q < H.size → ¬ A1 q → H1[q]? = H[q]?) → va_S A0 H0 H1 locs1 → W p l e R s m args below meth c H1 locs1 (cells + mc) (slots + ms) Q (F0 m (pc + 3) ls (.long r :: rest))) : W p l e R s m args below meth c H locs cells slots Q (F0 m pc ls st0) := by
  intro T hT X
  rcases hr T hT X with ⟨v, st₀, t, T', L, h0, X', hL, e1, e2, ⟨⟨r, u, hv, hp, hb⟩, hF⟩, st⟩ | ⟨q, st₀, t, T', L, E, ce, h0, X', hL, e1, e2, ⟨u, hp, hb, hF⟩, hce, hcv, hcl, st⟩
  · cases hv
    obtain ⟨k1, k2, k3⟩ := vx_keep h0 e1 hS hA hf hL hF
    obtain ⟨t2, a1, b1⟩ := kk r u t T'.heap (locs ++ L) e1.symm (by rw [← e2]; exact X'.warmed.alike) hp hb k1 k2 k3 T' rfl X'
    exact ⟨t2, st t2 a1, b1⟩
  · obtain ⟨k1, k2, k3⟩ := vx_keep h0 e1 hS hAX hf hL hF
    obtain ⟨t2, a1, b1⟩ := kx E ce q u t T'.heap (locs ++ L) e1.symm (by rw [← e2]; exact X'.warmed.alike) hp hb k1 k2 k3 (by rw [e1]; exact hce) hcv hcl T' rfl X'
    exact ⟨t2, st.trans a1, b1⟩
theorem vx_callf {S SX : Type} {post : UInt32 → S → Prop} {px : SX → Prop} {B : S → State → Prop} {BX : String → SX → State → Prop} {AX : Nat → Prop} (hr : vx_Run p l e R s m args below meth c H locs cells slots mc ms (F0 m pc ls st0) rest (va_Qf post B A1 a) (vx_X px BX AX) free) (hS : va_S A0 H0 H locs) (hA : ∀ q, q < H.size → A1 q → A0 q) (hf : ∀ q, free q → A0 q) (hAX : ∀ q, q < H.size → AX q → A0 q)
    (kx : ∀ (E : String) (ce : Cell) (q9 : Addr) (u : SX) (t : State) (H1 : Heap) (locs1 : List Loc), t.heap = H1 → s.vm.Alike t.vm → px u → BX E u t → H.size ≤ H1.size → (∀ q : Nat, q < H.size → ¬ AX q → H1[q]? = H[q]?) → va_S A0 H0 H1 locs1 → H1[q9]? = some ce → ce.vm = .none → s.vm.findClass E = some ce.cls → vx_W p l e R s m args below meth c H1 locs1 (cells + mc) (slots + ms) Q (F0 m pc ls rest) q9)
    (kk : ∀ (r : UInt32) (u : S) (t : State) (H1 : Heap) (locs1 : List Loc), t.heap = H1 → s.vm.Alike t.vm → post r u → B u t → H.size ≤ H1.size → (∀ q : Nat, q < H.size → ¬ A1 q → H1[q]? = H[q]?) → va_S A0 H0 H1 locs1 → W p l e R s m args below meth c H1 locs1 (cells + mc) (slots + ms) Q (F0 m (pc + 3) ls (.float r :: rest))) : W p l e R s m args below meth c H locs cells slots Q (F0 m pc ls st0) := by
  intro T hT X
  rcases hr T hT X with ⟨v, st₀, t, T', L, h0, X', hL, e1, e2, ⟨⟨r, u, hv, hp, hb⟩, hF⟩, st⟩ | ⟨q, st₀, t, T', L, E, ce, h0, X', hL, e1, e2, ⟨u, hp, hb, hF⟩, hce, hcv, hcl, st⟩
  · cases hv
    obtain ⟨k1, k2, k3⟩ := vx_keep h0 e1 hS hA hf hL hF
    obtain ⟨t2, a1, b1⟩ := kk r u t T'.heap (locs ++ L) e1.symm (by rw [← e2]; exact X'.warmed.alike) hp hb k1 k2 k3 T' rfl X'
    exact ⟨t2, st t2 a1, b1⟩
  · obtain ⟨k1, k2, k3⟩ := vx_keep h0 e1 hS hAX hf hL hF
    obtain ⟨t2, a1, b1⟩ := kx E ce q u t T'.heap (locs ++ L) e1.symm (by rw [← e2]; exact X'.warmed.alike) hp hb k1 k2 k3 (by rw [e1]; exact hce) hcv hcl T' rfl X'
    exact ⟨t2, st.trans a1, b1⟩
theorem vx_calld {S SX : Type} {post : UInt64 → S → Prop} {px : SX → Prop} {B : S → State → Prop} {BX : String → SX → State → Prop} {AX : Nat → Prop} (hr : vx_Run p l e R s m args below meth c H locs cells slots mc ms (F0 m pc ls st0) rest (va_Qd post B A1 a) (vx_X px BX AX) free) (hS : va_S A0 H0 H locs) (hA : ∀ q, q < H.size → A1 q → A0 q) (hf : ∀ q, free q → A0 q) (hAX : ∀ q, q < H.size → AX q → A0 q)
    (kx : ∀ (E : String) (ce : Cell) (q9 : Addr) (u : SX) (t : State) (H1 : Heap) (locs1 : List Loc), t.heap = H1 → s.vm.Alike t.vm → px u → BX E u t → H.size ≤ H1.size → (∀ q : Nat, q < H.size → ¬ AX q → H1[q]? = H[q]?) → va_S A0 H0 H1 locs1 → H1[q9]? = some ce → ce.vm = .none → s.vm.findClass E = some ce.cls → vx_W p l e R s m args below meth c H1 locs1 (cells + mc) (slots + ms) Q (F0 m pc ls rest) q9)
    (kk : ∀ (r : UInt64) (u : S) (t : State) (H1 : Heap) (locs1 : List Loc), t.heap = H1 → s.vm.Alike t.vm → post r u → B u t → H.size ≤ H1.size → (∀ q : Nat, q < H.size → ¬ A1 q → H1[q]? = H[q]?) → va_S A0 H0 H1 locs1 → W p l e R s m args below meth c H1 locs1 (cells + mc) (slots + ms) Q (F0 m (pc + 3) ls (.double r :: rest))) : W p l e R s m args below meth c H locs cells slots Q (F0 m pc ls st0) := by
  intro T hT X
  rcases hr T hT X with ⟨v, st₀, t, T', L, h0, X', hL, e1, e2, ⟨⟨r, u, hv, hp, hb⟩, hF⟩, st⟩ | ⟨q, st₀, t, T', L, E, ce, h0, X', hL, e1, e2, ⟨u, hp, hb, hF⟩, hce, hcv, hcl, st⟩
  · cases hv
    obtain ⟨k1, k2, k3⟩ := vx_keep h0 e1 hS hA hf hL hF
    obtain ⟨t2, a1, b1⟩ := kk r u t T'.heap (locs ++ L) e1.symm (by rw [← e2]; exact X'.warmed.alike) hp hb k1 k2 k3 T' rfl X'
    exact ⟨t2, st t2 a1, b1⟩
  · obtain ⟨k1, k2, k3⟩ := vx_keep h0 e1 hS hAX hf hL hF
    obtain ⟨t2, a1, b1⟩ := kx E ce q u t T'.heap (locs ++ L) e1.symm (by rw [← e2]; exact X'.warmed.alike) hp hb k1 k2 k3 (by rw [e1]; exact hce) hcv hcl T' rfl X'
    exact ⟨t2, st.trans a1, b1⟩
theorem vx_callv {S SX : Type} {post : S → Prop} {px : SX → Prop} {B : S → State → Prop} {BX : String → SX → State → Prop} {AX : Nat → Prop} (hr : vx_Run p l e R s m args below meth c H locs cells slots mc ms (F0 m pc ls st0) rest (va_Qv post B A1 a) (vx_X px BX AX) free) (hS : va_S A0 H0 H locs) (hA : ∀ q, q < H.size → A1 q → A0 q) (hf : ∀ q, free q → A0 q) (hAX : ∀ q, q < H.size → AX q → A0 q)
    (kx : ∀ (E : String) (ce : Cell) (q9 : Addr) (u : SX) (t : State) (H1 : Heap) (locs1 : List Loc), t.heap = H1 → s.vm.Alike t.vm → px u → BX E u t → H.size ≤ H1.size → (∀ q : Nat, q < H.size → ¬ AX q → H1[q]? = H[q]?) → va_S A0 H0 H1 locs1 → H1[q9]? = some ce → ce.vm = .none → s.vm.findClass E = some ce.cls → vx_W p l e R s m args below meth c H1 locs1 (cells + mc) (slots + ms) Q (F0 m pc ls rest) q9)
    (kk : ∀ (u : S) (t : State) (H1 : Heap) (locs1 : List Loc), t.heap = H1 → s.vm.Alike t.vm → post u → B u t → H.size ≤ H1.size → (∀ q : Nat, q < H.size → ¬ A1 q → H1[q]? = H[q]?) → va_S A0 H0 H1 locs1 → W p l e R s m args below meth c H1 locs1 (cells + mc) (slots + ms) Q (F0 m (pc + 3) ls (rest))) : W p l e R s m args below meth c H locs cells slots Q (F0 m pc ls st0) := by
  intro T hT X
  rcases hr T hT X with ⟨v, st₀, t, T', L, h0, X', hL, e1, e2, ⟨⟨u, hv, hp, hb⟩, hF⟩, st⟩ | ⟨q, st₀, t, T', L, E, ce, h0, X', hL, e1, e2, ⟨u, hp, hb, hF⟩, hce, hcv, hcl, st⟩
  · cases hv
    obtain ⟨k1, k2, k3⟩ := vx_keep h0 e1 hS hA hf hL hF
    obtain ⟨t2, a1, b1⟩ := kk u t T'.heap (locs ++ L) e1.symm (by rw [← e2]; exact X'.warmed.alike) hp hb k1 k2 k3 T' rfl X'
    exact ⟨t2, st t2 a1, b1⟩
  · obtain ⟨k1, k2, k3⟩ := vx_keep h0 e1 hS hAX hf hL hF
    obtain ⟨t2, a1, b1⟩ := kx E ce q u t T'.heap (locs ++ L) e1.symm (by rw [← e2]; exact X'.warmed.alike) hp hb k1 k2 k3 (by rw [e1]; exact hce) hcv hcl T' rfl X'
    exact ⟨t2, st.trans a1, b1⟩
/-- caught by the row x of this method's table; the rows ahead don't take it -/
theorem vx_catch {own name : String} {E : String} {ce : Cell} {q : Addr} (hown : s.vm.findClass own = some m.cls) (pre : List ExceptionTableEntry) (x : ExceptionTableEntry) (suf : List ExceptionTableEntry) (hsplit : c.exceptionTable.toList = pre ++ x :: suf)
    (hpass : ∀ z ∈ pre, covers z pc = false ∨ (z.catchType ≠ 0 ∧ ∃ nm : String, (Cond.classLink own z.catchType nm).before args s = true ∧ va_Nc E nm s)) (hx : covers x pc = true) (h0 : x.catchType ≠ 0)
    (hlink : (Cond.classLink own x.catchType name).before args s = true) (hcast : (Cond.castable E name).before args s = true) (hcell : H[q]? = some ce) (hv : ce.vm = .none) (hcl : s.vm.findClass E = some ce.cls)
    (kk : W p l e R s m args below meth c H locs cells slots Q (F0 m x.handlerPc ls [.ref q])) : vx_W p l e R s m args below meth c H locs cells slots Q (F0 m pc ls rest) q := by
  intro T hT X
  have hpl : e.platform.magicAccessors = ({} : Platform).magicAccessors := by rw [X.admits.platform]
  obtain ⟨c3, c4, hc3, hc4, hasg⟩ := Cond.castable_spec hcast
  cases Option.some.inj (hc3.symm.trans hcl)
  obtain ⟨c5, hc5, hcl5⟩ := Cond.classLink_spec hown hlink e.platform hpl
  cases Option.some.inj (hc4.symm.trans hc5)
  obtain ⟨vm', X', st⟩ := X.thenCaughtThrough q (g := F0 m pc ls rest) rfl (Steps.refl _) (by rw [hT]; exact hcell) (by rw [hv]; rfl) (by obtain ⟨k9, h9, -⟩ := Vm.findClass_spec hcl; exact ⟨k9, h9⟩) pre x suf hsplit
    (fun z hz => by
      rcases hpass z hz with h | ⟨hz0, nm, hl1, hn1⟩
      · exact Or.inl h
      · obtain ⟨c6, hc6, hcl6⟩ := Cond.classLink_spec hown hl1 e.platform hpl
        obtain ⟨a8, b8, h1, h2, h3⟩ := hn1
        cases Option.some.inj (h1.symm.trans hcl)
        cases Option.some.inj (h2.symm.trans hc6)
        exact Or.inr ⟨hz0, _, hcl6, h3⟩) hx (Or.inr ⟨h0, c4, hcl5, hasg⟩)
  obtain ⟨t, a1, b1⟩ := kk (T.setVm vm') hT X'
  exact ⟨t, st.trans a1, b1⟩
end Rows
section Ends
variable {p : Program} {l : Launch} {e : Env} {R : Room} {s : State} {m : MethodId} {args : Array Value} {below : List Frame} {meth : Method} {c : Code} {H : Heap} {locs : List Loc} {cells slots : Nat} {Q : State → Prop}
variable {mc ms : Nat} {free : Addr → Prop} {A0 A1 : Nat → Prop} {H0 : Heap} {a : Array Value} {ls : Array Slot} {st0 rest : List Value}
variable {Qc : Array Value → State → Outcome → State → Prop} {XC : String → State → State → Prop}
/-- what a body that may throw owes at its end -/
def vx_MQ (below : List Frame) (Qc : Array Value → State → Outcome → State → Prop) (XC : String → State → State → Prop) (a : Array Value) (s : State) (mc ms : Nat) (free : Addr → Prop) : State → Prop := fun t =>
  ∃ o, t.status = .running ∧ Ended t below o ∧ vx_Q Qc XC mc ms free a s o t
theorem vx_ret {g : JFrame} {mc ms : Nat} (k : W p l e R s m args below meth c H locs cells slots (MQ below Qc args s mc ms free) g) : W p l e R s m args below meth c H locs cells slots (vx_MQ below Qc XC args s mc ms free) g := by
  intro T hT X
  obtain ⟨t, a1, o, b1, b2, b3, b4⟩ := k T hT X
  exact ⟨t, a1, o, b1, b2, Or.inl ⟨b3, b4⟩⟩
/-- not caught here: it goes on to the caller -/
theorem vx_widen {g : JFrame} {q : Addr} {k n : Nat} (h1 : cells ≤ k) (h2 : slots ≤ n) (kk : vx_W p l e R s m args below meth c H locs k n Q g q) : vx_W p l e R s m args below meth c H locs cells slots Q g q := fun T hT X => kk T hT (stand_widen X h1 h2)
theorem vx_out {pc : Nat} {E : String} {ce : Cell} {q : Addr} {mc ms : Nat} (hout : ∀ x ∈ c.exceptionTable.toList, covers x pc = false) (hlocks : meth.locks = false) (hcell : H[q]? = some ce) (hv : ce.vm = .none) (hcl : s.vm.findClass E = some ce.cls)
    (hx : ∀ t : State, t.heap = H → s.vm.Alike t.vm → XC E s t) (hf : ∀ z ∈ locs, free z.base) (hc : cells ≤ mc) (hs : slots ≤ ms) :
    vx_W p l e R s m args below meth c H locs cells slots (vx_MQ below Qc XC args s mc ms free) (F0 m pc ls rest) q := by
  intro T hT X
  obtain ⟨st1, hrun, hend, hW, hsm⟩ := X.leaveThrown q (g := F0 m pc ls rest) rfl rfl rfl hout hlocks
  have hcell9 : (T.setFrames (.throwing q :: below)).heap[q]? = some ce := by
    show T.heap[q]? = some ce
    rw [hT]; exact hcell
  exact ⟨_, st1, .threw q, hrun, hend, Or.inr ⟨q, rfl, E, ce, locs, hx _ hT hW.alike, hcell9, hv, hcl, hW, hsm.mono hc hs, hf⟩⟩
theorem vx_frame {U : State} {k n : Nat} (h : s.sameButNew ({ U with vm := s.vm } : State) locs k n) : s.heap.size ≤ U.heap.size ∧ ∀ q : Nat, q < s.heap.size → (∀ z ∈ locs, z.base ≠ q) → U.heap[q]? = s.heap[q]? := by
  obtain ⟨-, h2, -, -, -, h6⟩ := h
  refine ⟨h2, fun q hq hz => ?_⟩
  obtain ⟨c9, e1, e2, e3, e4⟩ := h6 q _ (Array.getElem?_eq_getElem hq)
  have hs : c9.slots = (s.heap[q]).slots := Array.ext_getElem? fun i => e4 i fun hm => hz _ hm rfl
  have h9 : c9 = s.heap[q] := by
    rw [hs] at e2
    exact e2
  have e5 : U.heap[q]? = some c9 := e1
  rw [e5, h9, Array.getElem?_eq_getElem hq]
/-- the words of a throw but the four that speak of the heap -/
def vx_no (w : Cond) : Bool := decide (w ≠ .isRef (.static Bundle.tN "UNASSIGNED_STACK" Bundle.steD)) && decide (w ≠ .isRef (.static Bundle.tN "SUPPRESSED_SENTINEL" Bundle.listD)) && decide (w ≠ .laysStatic Bundle.tN "UNASSIGNED_STACK" Bundle.steD) && decide (w ≠ .laysStatic Bundle.tN "SUPPRESSED_SENTINEL" Bundle.listD)
def vx_at0 (own : String) (ic : Nat) (X : String) (names : List String) : List Cond := (Bundle.ownAtoms0 own ic X names).filter vx_no
def vx_atS (own : String) (ic : Nat) (X : String) (names : List String) : List Cond := (Bundle.ownAtoms own ic X names).filter vx_no
/-- a word that the tables alone decide, or a good one -/
def vx_ot (w : Cond) : Bool := w.onTables || goodWord w
theorem vx_ot_at {args a' : Array Value} {s U : State} {w : Cond} (hW : s.WarmedH U.vm) (hvm : s.vm = U.vm) (hg : vx_ot w = true) (h : w.before args s = true) : w.before a' U = true := by
  simp only [vx_ot, Bool.or_eq_true] at hg
  rcases hg with hg | hg
  · exact va_tabs hg hvm h
  · exact word_at hW (good_of_word hg) h
/-- a list's words: the good ones out of the method's own list, the others by premises of their own -/
theorem vx_hat {args : Array Value} {s : State} {L B : List Cond} (h1 : ∀ w ∈ L.filter goodWord, w.before args s = true) (h2 : ∀ w ∈ L.filter (fun w => !goodWord w), w ∈ B) (h3 : ∀ w ∈ B, w.before args s = true) : ∀ w ∈ L, w.before args s = true := by
  intro w hw
  by_cases g : goodWord w = true
  · exact h1 w (List.mem_filter.mpr ⟨hw, g⟩)
  · refine h3 w (h2 w (List.mem_filter.mpr ⟨hw, ?_⟩))
    show (!goodWord w) = true
    cases hgw : goodWord w
    · rfl
    · exact absurd hgw g
theorem vx_c {args : Array Value} {s : State} {w : Cond} {B : List Cond} (h : w.before args s = true) (t : ∀ w ∈ B, w.before args s = true) : ∀ w' ∈ w :: B, w'.before args s = true := fun w' h' => (List.mem_cons.mp h').elim (fun e => by rw [e]; exact h) (t w')
theorem vx_n {args : Array Value} {s : State} : ∀ w ∈ ([] : List Cond), w.before args s = true := fun _ h => nomatch h
theorem vx_own {args : Array Value} {s : State} {L : List Cond} (h1 : ∀ w ∈ L.filter vx_no, w.before args s = true)
    (hU : (Cond.isRef (.static Bundle.tN "UNASSIGNED_STACK" Bundle.steD)).before args s = true) (hN : (Cond.isRef (.static Bundle.tN "SUPPRESSED_SENTINEL" Bundle.listD)).before args s = true)
    (lU : (Cond.laysStatic Bundle.tN "UNASSIGNED_STACK" Bundle.steD).before args s = true) (lN : (Cond.laysStatic Bundle.tN "SUPPRESSED_SENTINEL" Bundle.listD).before args s = true) : ∀ w ∈ L, w.before args s = true := by
  intro w hw
  by_cases e1 : w = .isRef (.static Bundle.tN "UNASSIGNED_STACK" Bundle.steD)
  · rw [e1]; exact hU
  · by_cases e2 : w = .isRef (.static Bundle.tN "SUPPRESSED_SENTINEL" Bundle.listD)
    · rw [e2]; exact hN
    · by_cases e3 : w = .laysStatic Bundle.tN "UNASSIGNED_STACK" Bundle.steD
      · rw [e3]; exact lU
      · by_cases e4 : w = .laysStatic Bundle.tN "SUPPRESSED_SENTINEL" Bundle.listD
        · rw [e4]; exact lN
        · exact h1 w (List.mem_filter.mpr ⟨hw, by unfold vx_no; rw [decide_eq_true e1, decide_eq_true e2, decide_eq_true e3, decide_eq_true e4]; rfl⟩)
/-- where a static field lies, its class's statics cell in H -/
def vx_L (C n d : String) (A : Nat → Prop) (U : State) (H : Heap) : Prop := ∃ (c : ClassId) (k : Class) (i : Nat) (f : Field) (a : Nat) (cell : Cell), U.vm.findClass C = some c ∧ U.fieldFound? C n d = some (c, k, i, f) ∧ f.isStatic = true ∧ k.statics = some a ∧ H[a]? = some cell ∧ cell.vm.isStatics = true ∧ cell.cls = c ∧ f.slot < cell.slots.size ∧ k.staticTypes[f.slot]? = some f.type ∧ ¬ A a
theorem vx_L.moved {C n d : String} {A : Nat → Prop} {u U : State} {H : Heap} (hvm : u.vm.Alike U.vm) (h : vx_L C n d A u H) : vx_L C n d A U H := by
  obtain ⟨c, k, i, f, a, cell, h1, h2, h3, h4, h5, h6, h7, h8, h9, h10⟩ := h
  obtain ⟨k', hi', he⟩ := State.fieldFound?_setVm hvm h2
  exact ⟨c, k', i, f, a, cell, by rw [hvm.findClass]; exact h1, hi', h3, by rw [he]; exact h4, h5, h6, h7, h8, by rw [he]; exact h9, h10⟩
theorem vx_L.kept {C n d : String} {A : Nat → Prop} {U : State} {H H1 : Heap} (h : vx_L C n d A U H) (hq : ∀ a : Nat, a < H.size → ¬ A a → H1[a]? = H[a]?) : vx_L C n d A U H1 := by
  obtain ⟨c, k, i, f, a, cell, h1, h2, h3, h4, h5, h6, h7, h8, h9, h10⟩ := h
  exact ⟨c, k, i, f, a, cell, h1, h2, h3, h4, by rw [hq a (Array.getElem?_eq_some_iff.mp h5).1 h10]; exact h5, h6, h7, h8, h9, h10⟩
theorem vx_L.narrow {C n d : String} {A B : Nat → Prop} {U : State} {H : Heap} (h : vx_L C n d A U H) (hAB : ∀ q, B q → A q) : vx_L C n d B U H := by
  obtain ⟨c, k, i, f, a, cell, h1, h2, h3, h4, h5, h6, h7, h8, h9, h10⟩ := h
  exact ⟨c, k, i, f, a, cell, h1, h2, h3, h4, h5, h6, h7, h8, h9, fun z => h10 (hAB _ z)⟩
theorem vx_L.word {C n d : String} {A : Nat → Prop} {s : State} {args : Array Value} (h : vx_L C n d A s s.heap) : (Cond.laysStatic C n d).before args s = true := by
  obtain ⟨c, k, i, f, a, cell, h1, h2, h3, h4, h5, h6, h7, h8, h9, -⟩ := h
  show (Cond.laysStatic C n d).holds args s none s [] = true
  exact Cond.laysStatic_of h1 h2 h3 h4 h5 h6 h7 h8 h9
/-- .. and what it holds: null or some reference -/
def vx_Zq (C n d : String) (A : Nat → Prop) (U : State) (H : Heap) : Prop := va_Zq C n d A U H ∧ vx_L C n d A U H
theorem vx_Zq.moved {C n d : String} {A : Nat → Prop} {u U : State} {H : Heap} (hvm : u.vm.Alike U.vm) (h : vx_Zq C n d A u H) : vx_Zq C n d A U H := ⟨va_Zq.moved hvm h.1, vx_L.moved hvm h.2⟩
theorem vx_Zq.kept {C n d : String} {A : Nat → Prop} {U : State} {H H1 : Heap} (h : vx_Zq C n d A U H) (hq : ∀ a : Nat, a < H.size → ¬ A a → H1[a]? = H[a]?) : vx_Zq C n d A U H1 := ⟨va_Zq.kept h.1 hq, vx_L.kept h.2 hq⟩
theorem vx_Zq.narrow {C n d : String} {A B : Nat → Prop} {U : State} {H : Heap} (h : vx_Zq C n d A U H) (hAB : ∀ q, B q → A q) : vx_Zq C n d B U H := ⟨va_Zq.narrow h.1 hAB, vx_L.narrow h.2 hAB⟩
theorem vx_Zqof {args : Array Value} {s : State} {C n d : String} {A : Nat → Prop} (hl : (Cond.laysStatic C n d).before args s = true) (hini : (Cond.initialized C).before args s = true) (h : (Cond.isRef (.static C n d)).before args s = true) (hA : ∀ a : Nat, a < s.heap.size → ¬ A a) : vx_Zq C n d A s s.heap := by
  refine ⟨va_Zqof hl hini h hA, ?_⟩
  obtain ⟨c, k, i, f, a, cell, h1, h2, h3, h4, h5, h6, h7, h8, h9⟩ := Cond.laysStatic_spec hl
  exact ⟨c, k, i, f, a, cell, h1, h2, h3, h4, h5, h6, h7, h8, h9, hA a (Array.getElem?_eq_some_iff.mp h5).1⟩
theorem vx_isRef {C n d : String} {v : Value} {A : Nat → Prop} {s : State} {args : Array Value} (h : va_Z C n d v A s s.heap) (hv : v.isRef = true) : (Cond.isRef (.static C n d)).before args s = true := by
  obtain ⟨cf, kf, fi, f, a, cell, h1, h2, h3, h4, h5, h6, h7, -⟩ := h
  have he : (Term.static C n d).eval args s none [] s = some v := by
    simp [Term.eval, State.fieldNamed?, h1, h2, h4, h5, h6, h7]
  simp only [Cond.before, Cond.holds, Cond.value, he]
  cases v <;> simp_all [Value.isRef]
theorem vx_isRefq {C n d : String} {A : Nat → Prop} {s : State} {args : Array Value} (h : va_Zq C n d A s s.heap) : (Cond.isRef (.static C n d)).before args s = true := by
  rcases h with h | ⟨t, h⟩
  · exact vx_isRef h rfl
  · exact vx_isRef h rfl
/-- the same frame, seen from here: as if the method were called anew in this heap -/
theorem vx_rebase {T : State} (X : Stand p l e R s m args below meth c T locs cells slots) {R' : Room} (hf : R'.frames ≤ R.frames) (hl : R'.locals ≤ R.locals) (hc : cells + R'.cells ≤ R.cells) (hs : slots + R'.slots ≤ R.slots) :
    Stand p l e R' ((T.setVm s.vm).setFrames (.invoking m args :: below)) m args below meth c T [] 0 0 := by
  have htop : (T.setVm s.vm).topJava?.isSome := X.here.top
  have hF : ((T.setVm s.vm).setFrames (.invoking m args :: below)).frames = .invoking m args :: below := State.frames_setFrames _ (State.cur_lt_of_top htop)
  obtain ⟨g₀, hg0⟩ := Option.isSome_iff_exists.mp htop
  obtain ⟨r, hr⟩ := State.topJava?_eq_some.mp hg0
  have hl9 : e.platform.stackLimits (T.setVm s.vm).me = e.platform.stackLimits s.me := X.limits
  have hb9 : (T.setVm s.vm).me.stackBytes = s.me.stackBytes := X.bytes
  refine ⟨X.admits, X.cas, X.clock, hF, ?_, X.hears, X.method, X.code, X.here, X.tail, X.warmed, ?_, ?_, ?_⟩
  · have h := X.room
    have hU : ((T.setVm s.vm).setFrames (.invoking m args :: below)).localsInUse = s.localsInUse := by
      rw [State.localsInUse_invoking hF (meth := meth) (c := c) X.method X.code, State.localsInUse_invoking X.frames X.method X.code]
    simp only [State.hasRoom, Bool.and_eq_true, decide_eq_true_eq] at h ⊢
    obtain ⟨⟨⟨⟨h1, h2, h3, h4, h5, h6⟩, h7⟩, h8⟩, h9⟩ := h
    rw [X.frames, List.length_cons] at h2 h3
    have q1 := X.heapSize
    have q2 := X.used
    simp only [hF, hU, List.length_cons, State.stackLimits_setFrames, State.stackBytes_setFrames, hl9, hb9]
    refine ⟨⟨⟨⟨by omega, by omega, by omega, by omega, by omega, h6⟩, ?_⟩, ?_⟩, X.book⟩
    · show T.heap.size + R'.cells ≤ e.platform.maxCells
      omega
    · show T.slotsUsed + R'.slots ≤ e.platform.maxSlots
      omega
  · rw [State.stackLimits_setFrames]; rfl
  · rw [State.stackBytes_setFrames]; rfl
  · refine ⟨?_, Nat.le_refl _, Nat.le_refl _, ?_, ?_, fun a c9 h9 => ⟨c9, h9, rfl, rfl, fun _ _ => rfl⟩⟩
    · obtain ⟨t, ht, -⟩ := State.frames_cons hr
      show T.setVm s.vm = { ((T.setVm s.vm).setFrames (.invoking m args :: below)).setFrames (T.setVm s.vm).frames with heap := T.heap, slotsUsed := T.slotsUsed }
      rw [State.setFrames_setFrames, State.setFrames_self ht]
      rfl
    · show T.slotsUsed = T.slotsUsed + ((T.heap.toList.drop T.heap.size).map (·.slots.size)).sum
      rw [List.drop_eq_nil_of_le (Nat.le_of_eq Array.length_toList)]
      rfl
    · show ((T.heap.toList.drop T.heap.size).map (·.slots.size)).sum ≤ 0
      rw [List.drop_eq_nil_of_le (Nat.le_of_eq Array.length_toList)]
      exact Nat.le_refl _
/-- 'throw new E()': new; dup; invokespecial; athrow -/
theorem vx_throw0 {cc : ByteArray} {pc : Nat} (hexec : p.tables.exec = Jvm.exec) (hb : c.code = cc) (hl : l.stackTraces = false) {own cls : String} {names : List String} {ik ic mc ms : Nat} {A : Nat → Prop}
    (hown : s.vm.findClass own = some m.cls) (hcls : Bundle.fit cls = true) (hnames : ∀ n ∈ names, Bundle.fit n = true)
    (hk : (Cond.classLink own ik cls).before args s = true) (hini : (Cond.initialized cls).before args s = true) (hat : ∀ w ∈ vx_at0 own ic cls names, w.before args s = true)
    (hgood : ∀ w ∈ Cond.classLink own ik cls :: Cond.initialized cls :: vx_at0 own ic cls names, vx_ot w = true)
    (hU : vx_Zq Bundle.tN "UNASSIGNED_STACK" Bundle.steD A s s.heap) (hN : vx_Zq Bundle.tN "SUPPRESSED_SENTINEL" Bundle.listD A s s.heap) (hS : va_S A s.heap H locs) (hsize : ls.size = c.maxLocals)
    (d0 : decode cc pc = .ok (.new ik, 3)) (d3 : decode cc (pc + 3) = .ok (.dup, 1)) (d4 : decode cc (pc + 4) = .ok (.invokespecial ic, 3)) (d7 : decode cc (pc + 7) = .ok (.athrow, 1))
    (hout : ∀ x ∈ c.exceptionTable.toList, covers x (pc + 7) = false)
    (hRframes : names.length + 3 < R.frames) (hRlocals : (rest.map fun v => v.category).sum + (13 * (names.length + 1) + 42) ≤ R.locals) (hRcells : cells + 1 ≤ R.cells) (hRslots : slots + 6 ≤ R.slots) (hlocks : meth.locks = false)
    (hx : ∀ t : State, s.vm.Alike t.vm → H.size ≤ t.heap.size → (∀ q : Nat, q < H.size → t.heap[q]? = H[q]?) → XC cls s t)
    (hf : ∀ z ∈ locs, free z.base) (hc : cells + 1 ≤ mc) (hs : slots + 6 ≤ ms) :
    W p l e R s m args below meth c H locs cells slots (vx_MQ below Qc XC args s mc ms free) (F0 m pc ls rest) := by
  intro T hT X
  have htr : e.platform.stackTraces = false := (show e.platform.stackTraces = l.stackTraces by rw [X.admits.platform]).trans hl
  have Y := vx_rebase X (R' := { frames := R.frames, locals := R.locals, cells := 1, slots := 6 }) (Nat.le_refl _) (Nat.le_refl _) hRcells hRslots
  obtain ⟨s', hA⟩ : ∃ z, z = (T.setVm s.vm).setFrames (.invoking m args :: below) := ⟨_, rfl⟩
  rw [← hA] at Y
  have hvm : s'.vm = s.vm := by rw [hA]; rfl
  have hhp : s'.heap = H := by rw [hA]; exact hT
  have hW0 : s.WarmedH s'.vm := by rw [hvm]; exact State.WarmedH.refl s
  have hat' : ∀ w ∈ vx_at0 own ic cls names, w.before args s' = true := fun w hw => vx_ot_at hW0 hvm.symm (hgood w (List.mem_cons_of_mem _ (List.mem_cons_of_mem _ hw))) (hat w hw)
  have hk' : (Cond.classLink own ik cls).before args s' = true := vx_ot_at hW0 hvm.symm (hgood _ List.mem_cons_self) hk
  have hini' : (Cond.initialized cls).before args s' = true := vx_ot_at hW0 hvm.symm (hgood _ (List.mem_cons_of_mem _ List.mem_cons_self)) hini
  have hU' : vx_Zq Bundle.tN "UNASSIGNED_STACK" Bundle.steD A s' s'.heap := by rw [hhp]; exact vx_Zq.moved hW0.alike (hU.kept hS.2.1)
  have hN' : vx_Zq Bundle.tN "SUPPRESSED_SENTINEL" Bundle.listD A s' s'.heap := by rw [hhp]; exact vx_Zq.moved hW0.alike (hN.kept hS.2.1)
  have h : ∀ w ∈ Bundle.ownAtoms0 own ic cls names, w.before args s' = true := vx_own hat' (vx_isRefq hU'.1) (vx_isRefq hN'.1) hU'.2.word hN'.2.word
  have hown' : s'.vm.findClass own = some m.cls := by rw [hvm]; exact hown
  have hins : (Cond.instantiable cls 6).before args s' = true := h _ (by simp [Bundle.ownAtoms0])
  obtain ⟨vm₁, cX, kX, hfX, hkX, -, -, X₁, st1⟩ := Y.newCold hexec (own := own) (C := cls) (index := ik) (n := 6) hown' hk' hins hini'
    (g := F0 m pc ls rest) rfl (by rw [hb]; exact d0) (Nat.le_refl _) (Nat.le_refl _)
  generalize hT1 : (T.setVm vm₁).pushCell { cls := cX, slots := kX.instanceTypes.map defaultValue, vm := .none } = T1 at X₁ st1
  have hcat : (Value.ref T.heap.size).category = 1 := rfl
  have hcellA : T1.heap[T.heap.size]? = some (freshCell cX kX) := by rw [← hT1]; exact State.heap_pushCell_size _ _
  have d3' : decode c.code (pc + 3) = .ok (.dup, 1) := by rw [hb]; exact d3
  obtain ⟨U, hsteps, hrun, hend, hW, hsame, ce, hce, hO⟩ := X₁.ctorThrow0 hexec htr (own := own) (cls := cls) (names := names) (ic := ic) hown' hcls hnames h (fun x hx => nomatch hx) hfX hkX hcellA (by rw [hhp, hT]; exact Nat.le_refl _)
    (g := { method := m, pc := pc + 4, locals := ls, stack := .ref T.heap.size :: .ref T.heap.size :: rest, locked := none }) rfl hsize rfl rfl (rest := rest) rfl
    (by rw [hb]; exact d4) (by rw [hb]; exact d7) hout hRframes (by simp only [List.map_cons, List.sum_cons, hcat]; omega) hlocks
  obtain ⟨f1, f2⟩ := vx_frame hsame
  rw [hhp] at f1 f2
  have hWs : s.WarmedH U.vm := State.WarmedH.trans hW0 hW
  have hcl : s.vm.findClass cls = some ce.cls := by
    have h9 := hO.cls
    rw [hvm] at h9
    exact h9
  have hall : s.sameButNew ({ U with vm := s.vm } : State) locs mc ms := by
    subst hA
    obtain ⟨e1, e2⟩ := hsame
    rw [State.setFrames_setFrames] at e1
    have h2 : (T.setVm s.vm).sameButNew ({ U with vm := s.vm } : State) [] (0 + 1) (0 + 6) := ⟨e1, e2⟩
    have h3 := X.same.trans h2
    rw [List.append_nil] at h3
    exact h3.mono hc hs
  refine ⟨U, ?_, .threw T.heap.size, hrun, hend, Or.inr ⟨T.heap.size, rfl, cls, ce, locs, hx U hWs.alike f1 (fun q hq => f2 q hq (fun z hz => nomatch hz)), hce, hO.vm, hcl, hWs, hall, hf⟩⟩
  refine st1 _ ?_
  show Steps p.tables e below (T1.setTop { method := m, pc := pc + 3, locals := ls, stack := .ref T.heap.size :: rest, locked := none }) _
  jvm_step X₁.here [X₁.here.top, hexec, d3', Value.category]
  exact hsteps
/-- 'throw new E("text")': new; dup; ldc; invokespecial; athrow -/
theorem vx_throwS {cc : ByteArray} {pc : Nat} (hexec : p.tables.exec = Jvm.exec) (hb : c.code = cc) (hl : l.stackTraces = false) {own cls text : String} {names : List String} {ik is ic mc ms sa : Nat} {A : Nat → Prop}
    (hown : s.vm.findClass own = some m.cls) (hcls : Bundle.fit cls = true) (hnames : ∀ n ∈ names, Bundle.fit n = true)
    (hk : (Cond.classLink own ik cls).before args s = true) (hini : (Cond.initialized cls).before args s = true) (hstr : vk_R own is text sa s) (hat : ∀ w ∈ vx_atS own ic cls names, w.before args s = true)
    (hgood : ∀ w ∈ Cond.classLink own ik cls :: Cond.initialized cls :: vx_atS own ic cls names, vx_ot w = true)
    (hU : vx_Zq Bundle.tN "UNASSIGNED_STACK" Bundle.steD A s s.heap) (hN : vx_Zq Bundle.tN "SUPPRESSED_SENTINEL" Bundle.listD A s s.heap) (hS : va_S A s.heap H locs) (hsize : ls.size = c.maxLocals)
    (d0 : decode cc pc = .ok (.new ik, 3)) (d3 : decode cc (pc + 3) = .ok (.dup, 1)) (d4 : decode cc (pc + 4) = .ok (.ldc is, 2)) (d6 : decode cc (pc + 6) = .ok (.invokespecial ic, 3)) (d9 : decode cc (pc + 9) = .ok (.athrow, 1))
    (hout : ∀ x ∈ c.exceptionTable.toList, covers x (pc + 9) = false)
    (hRframes : names.length + 3 < R.frames) (hRlocals : (rest.map fun v => v.category).sum + (13 * (names.length + 1) + 43) ≤ R.locals) (hRcells : cells + 1 ≤ R.cells) (hRslots : slots + 6 ≤ R.slots) (hlocks : meth.locks = false)
    (hx : ∀ t : State, s.vm.Alike t.vm → H.size ≤ t.heap.size → (∀ q : Nat, q < H.size → t.heap[q]? = H[q]?) → XC cls s t)
    (hf : ∀ z ∈ locs, free z.base) (hc : cells + 1 ≤ mc) (hs : slots + 6 ≤ ms) :
    W p l e R s m args below meth c H locs cells slots (vx_MQ below Qc XC args s mc ms free) (F0 m pc ls rest) := by
  intro T hT X
  have htr : e.platform.stackTraces = false := (show e.platform.stackTraces = l.stackTraces by rw [X.admits.platform]).trans hl
  have Y := vx_rebase X (R' := { frames := R.frames, locals := R.locals, cells := 1, slots := 6 }) (Nat.le_refl _) (Nat.le_refl _) hRcells hRslots
  obtain ⟨s', hA⟩ : ∃ z, z = (T.setVm s.vm).setFrames (.invoking m args :: below) := ⟨_, rfl⟩
  rw [← hA] at Y
  have hvm : s'.vm = s.vm := by rw [hA]; rfl
  have hhp : s'.heap = H := by rw [hA]; exact hT
  have hW0 : s.WarmedH s'.vm := by rw [hvm]; exact State.WarmedH.refl s
  have hat' : ∀ w ∈ vx_atS own ic cls names, w.before args s' = true := fun w hw => vx_ot_at hW0 hvm.symm (hgood w (List.mem_cons_of_mem _ (List.mem_cons_of_mem _ hw))) (hat w hw)
  have hk' : (Cond.classLink own ik cls).before args s' = true := vx_ot_at hW0 hvm.symm (hgood _ List.mem_cons_self) hk
  have hini' : (Cond.initialized cls).before args s' = true := vx_ot_at hW0 hvm.symm (hgood _ (List.mem_cons_of_mem _ List.mem_cons_self)) hini
  have hU' : vx_Zq Bundle.tN "UNASSIGNED_STACK" Bundle.steD A s' s'.heap := by rw [hhp]; exact vx_Zq.moved hW0.alike (hU.kept hS.2.1)
  have hN' : vx_Zq Bundle.tN "SUPPRESSED_SENTINEL" Bundle.listD A s' s'.heap := by rw [hhp]; exact vx_Zq.moved hW0.alike (hN.kept hS.2.1)
  have h : ∀ w ∈ Bundle.ownAtoms own ic cls names, w.before args s' = true := vx_own hat' (vx_isRefq hU'.1) (vx_isRefq hN'.1) hU'.2.word hN'.2.word
  have hown' : s'.vm.findClass own = some m.cls := by rw [hvm]; exact hown
  have hins : (Cond.instantiable cls 6).before args s' = true := h _ (by simp [Bundle.ownAtoms])
  obtain ⟨vm₁, cX, kX, hfX, hkX, -, -, X₁, st1⟩ := Y.newCold hexec (own := own) (C := cls) (index := ik) (n := 6) hown' hk' hins hini'
    (g := F0 m pc ls rest) rfl (by rw [hb]; exact d0) (Nat.le_refl _) (Nat.le_refl _)
  generalize hT1 : (T.setVm vm₁).pushCell { cls := cX, slots := kX.instanceTypes.map defaultValue, vm := .none } = T1 at X₁ st1
  have hcat : (Value.ref T.heap.size).category = 1 := rfl
  have hcellA : T1.heap[T.heap.size]? = some (freshCell cX kX) := by rw [← hT1]; exact State.heap_pushCell_size _ _
  have d3' : decode c.code (pc + 3) = .ok (.dup, 1) := by rw [hb]; exact d3
  have d4' : decode c.code (pc + 4) = .ok (.ldc is, 2) := by rw [hb]; exact d4
  have hstr' : vk_R own is text sa s' := vk_R.warm hW0 hstr
  obtain ⟨U, hsteps, hrun, hend, hW, hsame, ce, hce, hO⟩ := X₁.ctorThrowS hexec htr (own := own) (cls := cls) (names := names) (ic := ic) hown' hcls hnames h (fun x hx => nomatch hx) hfX hkX hcellA (by rw [hhp, hT]; exact Nat.le_refl _) (msg := .ref sa) rfl
    (g := { method := m, pc := pc + 6, locals := ls, stack := .ref sa :: .ref T.heap.size :: .ref T.heap.size :: rest, locked := none }) rfl hsize rfl rfl (rest := rest) rfl
    (by rw [hb]; exact d6) (by rw [hb]; exact d9) hout hRframes (by simp only [List.map_cons, List.sum_cons, hcat]; omega) hlocks
  obtain ⟨f1, f2⟩ := vx_frame hsame
  rw [hhp] at f1 f2
  have hWs : s.WarmedH U.vm := State.WarmedH.trans hW0 hW
  have hcl : s.vm.findClass cls = some ce.cls := by
    have h9 := hO.cls
    rw [hvm] at h9
    exact h9
  have hall : s.sameButNew ({ U with vm := s.vm } : State) locs mc ms := by
    subst hA
    obtain ⟨e1, e2⟩ := hsame
    rw [State.setFrames_setFrames] at e1
    have h2 : (T.setVm s.vm).sameButNew ({ U with vm := s.vm } : State) [] (0 + 1) (0 + 6) := ⟨e1, e2⟩
    have h3 := X.same.trans h2
    rw [List.append_nil] at h3
    exact h3.mono hc hs
  refine ⟨U, ?_, .threw T.heap.size, hrun, hend, Or.inr ⟨T.heap.size, rfl, cls, ce, locs, hx U hWs.alike f1 (fun q hq => f2 q hq (fun z hz => nomatch hz)), hce, hO.vm, hcl, hWs, hall, hf⟩⟩
  refine st1 _ ?_
  show Steps p.tables e below (T1.setTop { method := m, pc := pc + 3, locals := ls, stack := .ref T.heap.size :: rest, locked := none }) _
  jvm_step X₁.here [X₁.here.top, hexec, d3', Value.category]
  exact X₁.ldcString hexec (own := own) (text := text) (index := is) (a := sa) hown' hstr'.1 hstr'.2
    (g := { method := m, pc := pc + 4, locals := ls, stack := .ref T.heap.size :: .ref T.heap.size :: rest, locked := none }) rfl d4' _ hsteps
/-- 'throw new E("text")', the text by a wide index -/
theorem vx_throwSW {cc : ByteArray} {pc : Nat} (hexec : p.tables.exec = Jvm.exec) (hb : c.code = cc) (hl : l.stackTraces = false) {own cls text : String} {names : List String} {ik is ic mc ms sa : Nat} {A : Nat → Prop}
    (hown : s.vm.findClass own = some m.cls) (hcls : Bundle.fit cls = true) (hnames : ∀ n ∈ names, Bundle.fit n = true)
    (hk : (Cond.classLink own ik cls).before args s = true) (hini : (Cond.initialized cls).before args s = true) (hstr : vk_R own is text sa s) (hat : ∀ w ∈ vx_atS own ic cls names, w.before args s = true)
    (hgood : ∀ w ∈ Cond.classLink own ik cls :: Cond.initialized cls :: vx_atS own ic cls names, vx_ot w = true)
    (hU : vx_Zq Bundle.tN "UNASSIGNED_STACK" Bundle.steD A s s.heap) (hN : vx_Zq Bundle.tN "SUPPRESSED_SENTINEL" Bundle.listD A s s.heap) (hS : va_S A s.heap H locs) (hsize : ls.size = c.maxLocals)
    (d0 : decode cc pc = .ok (.new ik, 3)) (d3 : decode cc (pc + 3) = .ok (.dup, 1)) (d4 : decode cc (pc + 4) = .ok (.ldc_w is, 3)) (d7 : decode cc (pc + 7) = .ok (.invokespecial ic, 3)) (d10 : decode cc (pc + 10) = .ok (.athrow, 1))
    (hout : ∀ x ∈ c.exceptionTable.toList, covers x (pc + 10) = false)
    (hRframes : names.length + 3 < R.frames) (hRlocals : (rest.map fun v => v.category).sum + (13 * (names.length + 1) + 43) ≤ R.locals) (hRcells : cells + 1 ≤ R.cells) (hRslots : slots + 6 ≤ R.slots) (hlocks : meth.locks = false)
    (hx : ∀ t : State, s.vm.Alike t.vm → H.size ≤ t.heap.size → (∀ q : Nat, q < H.size → t.heap[q]? = H[q]?) → XC cls s t)
    (hf : ∀ z ∈ locs, free z.base) (hc : cells + 1 ≤ mc) (hs : slots + 6 ≤ ms) :
    W p l e R s m args below meth c H locs cells slots (vx_MQ below Qc XC args s mc ms free) (F0 m pc ls rest) := by
  intro T hT X
  have htr : e.platform.stackTraces = false := (show e.platform.stackTraces = l.stackTraces by rw [X.admits.platform]).trans hl
  have Y := vx_rebase X (R' := { frames := R.frames, locals := R.locals, cells := 1, slots := 6 }) (Nat.le_refl _) (Nat.le_refl _) hRcells hRslots
  obtain ⟨s', hA⟩ : ∃ z, z = (T.setVm s.vm).setFrames (.invoking m args :: below) := ⟨_, rfl⟩
  rw [← hA] at Y
  have hvm : s'.vm = s.vm := by rw [hA]; rfl
  have hhp : s'.heap = H := by rw [hA]; exact hT
  have hW0 : s.WarmedH s'.vm := by rw [hvm]; exact State.WarmedH.refl s
  have hat' : ∀ w ∈ vx_atS own ic cls names, w.before args s' = true := fun w hw => vx_ot_at hW0 hvm.symm (hgood w (List.mem_cons_of_mem _ (List.mem_cons_of_mem _ hw))) (hat w hw)
  have hk' : (Cond.classLink own ik cls).before args s' = true := vx_ot_at hW0 hvm.symm (hgood _ List.mem_cons_self) hk
  have hini' : (Cond.initialized cls).before args s' = true := vx_ot_at hW0 hvm.symm (hgood _ (List.mem_cons_of_mem _ List.mem_cons_self)) hini
  have hU' : vx_Zq Bundle.tN "UNASSIGNED_STACK" Bundle.steD A s' s'.heap := by rw [hhp]; exact vx_Zq.moved hW0.alike (hU.kept hS.2.1)
  have hN' : vx_Zq Bundle.tN "SUPPRESSED_SENTINEL" Bundle.listD A s' s'.heap := by rw [hhp]; exact vx_Zq.moved hW0.alike (hN.kept hS.2.1)
  have h : ∀ w ∈ Bundle.ownAtoms own ic cls names, w.before args s' = true := vx_own hat' (vx_isRefq hU'.1) (vx_isRefq hN'.1) hU'.2.word hN'.2.word
  have hown' : s'.vm.findClass own = some m.cls := by rw [hvm]; exact hown
  have hins : (Cond.instantiable cls 6).before args s' = true := h _ (by simp [Bundle.ownAtoms])
  obtain ⟨vm₁, cX, kX, hfX, hkX, -, -, X₁, st1⟩ := Y.newCold hexec (own := own) (C := cls) (index := ik) (n := 6) hown' hk' hins hini'
    (g := F0 m pc ls rest) rfl (by rw [hb]; exact d0) (Nat.le_refl _) (Nat.le_refl _)
  generalize hT1 : (T.setVm vm₁).pushCell { cls := cX, slots := kX.instanceTypes.map defaultValue, vm := .none } = T1 at X₁ st1
  have hcat : (Value.ref T.heap.size).category = 1 := rfl
  have hcellA : T1.heap[T.heap.size]? = some (freshCell cX kX) := by rw [← hT1]; exact State.heap_pushCell_size _ _
  have d3' : decode c.code (pc + 3) = .ok (.dup, 1) := by rw [hb]; exact d3
  have d4' : decode c.code (pc + 4) = .ok (.ldc_w is, 3) := by rw [hb]; exact d4
  have hstr' : vk_R own is text sa s' := vk_R.warm hW0 hstr
  obtain ⟨U, hsteps, hrun, hend, hW, hsame, ce, hce, hO⟩ := X₁.ctorThrowS hexec htr (own := own) (cls := cls) (names := names) (ic := ic) hown' hcls hnames h (fun x hx => nomatch hx) hfX hkX hcellA (by rw [hhp, hT]; exact Nat.le_refl _) (msg := .ref sa) rfl
    (g := { method := m, pc := pc + 7, locals := ls, stack := .ref sa :: .ref T.heap.size :: .ref T.heap.size :: rest, locked := none }) rfl hsize rfl rfl (rest := rest) rfl
    (by rw [hb]; exact d7) (by rw [hb]; exact d10) hout hRframes (by simp only [List.map_cons, List.sum_cons, hcat]; omega) hlocks
  obtain ⟨f1, f2⟩ := vx_frame hsame
  rw [hhp] at f1 f2
  have hWs : s.WarmedH U.vm := State.WarmedH.trans hW0 hW
  have hcl : s.vm.findClass cls = some ce.cls := by
    have h9 := hO.cls
    rw [hvm] at h9
    exact h9
  have hall : s.sameButNew ({ U with vm := s.vm } : State) locs mc ms := by
    subst hA
    obtain ⟨e1, e2⟩ := hsame
    rw [State.setFrames_setFrames] at e1
    have h2 : (T.setVm s.vm).sameButNew ({ U with vm := s.vm } : State) [] (0 + 1) (0 + 6) := ⟨e1, e2⟩
    have h3 := X.same.trans h2
    rw [List.append_nil] at h3
    exact h3.mono hc hs
  refine ⟨U, ?_, .threw T.heap.size, hrun, hend, Or.inr ⟨T.heap.size, rfl, cls, ce, locs, hx U hWs.alike f1 (fun q hq => f2 q hq (fun z hz => nomatch hz)), hce, hO.vm, hcl, hWs, hall, hf⟩⟩
  refine st1 _ ?_
  show Steps p.tables e below (T1.setTop { method := m, pc := pc + 3, locals := ls, stack := .ref T.heap.size :: rest, locked := none }) _
  jvm_step X₁.here [X₁.here.top, hexec, d3', Value.category]
  exact X₁.ldcStringW hexec (own := own) (text := text) (index := is) (a := sa) hown' hstr'.1 hstr'.2
    (g := { method := m, pc := pc + 4, locals := ls, stack := .ref T.heap.size :: .ref T.heap.size :: rest, locked := none }) rfl d4' _ hsteps
end Ends
section Bodies
variable {l : Launch}
theorem vx_ofW {y : MethodName} {ws ws' : List Cond} {rm : Room} {Pc : Array Value → State → Prop} {Qc : Array Value → State → Outcome → State → Prop} {XC : String → State → State → Prop} {mc ms : Nat} {free : Addr → Prop} {cc : ByteArray} {maxL : Nat} {ret : Option FieldType}
    (hy : plainName y.cls = true) (hw : ws = Cond.code y cc maxL ret :: ws')
    (body : ∀ p e s m args below meth c s₁, BodyLoose p l y (headSpec ws rm) cc maxL ret e s m args below meth c s₁ → c.maxLocals = maxL → (∀ x ∈ c.exceptionTable.toList, False) → Pc args s →
      W p l e (headSpec ws rm).room s m args below meth c s.heap [] 0 0 (vx_MQ below Qc XC args s mc ms free) (entryFrame m args maxL)) : vx_Met l y ws rm Pc Qc XC mc ms free := by
  refine MetFree.of_bodyS (code := cc) (maxLocals := maxL) (ret := ret) hy ?_ ?_
  · intro args s m h hn
    obtain ⟨meth, c, h1, h2, h3, h4, h5, h6, -, -⟩ := Cond.code_spec hn (atoms_spec (ws := ws) h _ (by rw [hw]; exact List.mem_cons_self))
    exact ⟨meth, c, h1, h2, h3, h4, h5, h6⟩
  · intro p e s m args below meth c s₁ B hml hP _
    have hh0 : s₁.heap = s.heap := by rw [B.state]; rfl
    have ht : ∀ x ∈ c.exceptionTable.toList, False := by
      obtain ⟨meth9, c9, h1, h2, -, -, -, -, h7, -⟩ := Cond.code_spec B.named (atoms_spec (ws := ws) B.pre _ (by rw [hw]; exact List.mem_cons_self))
      cases Option.some.inj (h1.symm.trans B.method)
      cases Option.some.inj (h2.symm.trans (Stand.of_body B).code)
      intro x hx
      rw [Array.isEmpty_iff.mp h7] at hx
      cases hx
    obtain ⟨t, a1, o, b1, b2, b3⟩ := body p e s m args below meth c s₁ B hml ht hP s₁ hh0 (Stand.of_body B)
    exact ⟨t, o, a1, b1, b2, b3⟩
/-- the table of a body with handlers -/
theorem vx_table {p : Program} {x y : MethodName} {S : Spec} {cc bytes : ByteArray} {maxL maxL' : Nat} {ret ret' : Option FieldType} {e : Env} {s s₁ : State} {m : MethodId} {args : Array Value} {below : List Frame} {meth : Method} {c : Code} {hh : List (Nat × Nat × Nat × Nat)}
    (B : BodyLoose p l y S cc maxL ret e s m args below meth c s₁) (h : (Cond.codeWith y bytes maxL' ret' hh).before args s = true) : c.exceptionTable.toList = tableOf hh := by
  obtain ⟨m9, meth9, c9, hn9, h1, h2, -, -, h6, -⟩ := Cond.codeWith_spec h
  cases Option.some.inj (hn9.symm.trans B.named)
  cases Option.some.inj (h1.symm.trans B.method)
  cases Option.some.inj (h2.symm.trans (Stand.of_body B).code)
  rw [← h6, table_eq]
end Bodies
end VXA
/-! ===== END ===== -/
/-! ===== BEGIN a static call of a method with an exception table ===== -/
section VXS
variable {p : Program} {l : Launch} {e : Env} {R : Room} {s : State} {m : MethodId} {args : Array Value} {below : List Frame} {meth : Method} {c : Code} {T : State} {H : Heap} {locs : List Loc} {cells slots : Nat}
abbrev vx_CSW (R : Room) (s : State) (args : Array Value) (own : String) (index : Nat) (y : MethodName) (bytes : ByteArray) (maxL : Nat) (ret : Option FieldType) (hh : List (Nat × Nat × Nat × Nat)) (ws : List Cond) (rm : Room) (mc ms n : Nat) : Prop :=
  (rm.cells = mc ∧ rm.slots = ms ∧ rm.frames + 1 ≤ R.frames ∧ 8 + (maxL + 11) + rm.locals ≤ R.locals ∧ (∀ w ∈ ws, ∀ (a' : Array Value) (U : State), s.WarmedH U.vm → w.before a' U = true) ∧ Cond.codeWith y bytes maxL ret hh ∈ ws) ∧
  (Cond.codeWith y bytes maxL ret hh).before args s = true ∧ (Cond.initialized y.cls).before args s = true ∧ (y.cls ≠ "java/lang/invoke/MethodHandle" ∧ y.cls ≠ "java/lang/invoke/VarHandle") ∧
  (∀ sig, parseMethodDescriptor y.desc = some sig → n = sig.parameters.length) ∧ (Cond.methodLink own index y).before args s = true ∧ (Cond.static y).before args s = true
theorem vx_cwSW {own : String} {index maxL mc ms : Nat} {y : MethodName} {bytes : ByteArray} {ret : Option FieldType} {hh : List (Nat × Nat × Nat × Nat)} {Ts ws ws' : List Cond} {rm : Room} (n : Nat) (ht : ∀ w ∈ Ts, w.before args s = true) (hT : GoodIn Ts (va_wsS own index y ws)) (hw : ws = Cond.codeWith y bytes maxL ret hh :: ws') (hrc : rm.cells = mc) (hrs : rm.slots = ms)
    (hd : y.cls ≠ "java/lang/invoke/MethodHandle" ∧ y.cls ≠ "java/lang/invoke/VarHandle" ∧ (parseMethodDescriptor y.desc).map (fun d => d.parameters.length) = some n) (hR : rm.frames + 1 ≤ R.frames ∧ 8 + (maxL + 11) + rm.locals ≤ R.locals) :
    vx_CSW R s args own index y bytes maxL ret hh ws rm mc ms n := by
  have ok : ∀ w ∈ va_wsS own index y ws, w.before args s = true := fun w h => ht w (hT w h).1
  have hG : GoodIn Ts ws := fun w h => hT w (by unfold va_wsS; exact List.mem_append_right _ h)
  have hc : Cond.codeWith y bytes maxL ret hh ∈ ws := by rw [hw]; exact List.mem_cons_self
  refine ⟨⟨hrc, hrs, hR.1, hR.2, pay_in ht hG, hc⟩, ht _ (hG _ hc).1, ok _ (by simp [va_wsS]), ⟨hd.1, hd.2.1⟩, fun sig h => ?_, ok _ (by simp [va_wsS]), ok _ (by simp [va_wsS])⟩
  have h2 := hd.2.2
  rw [h] at h2
  exact (Option.some.inj h2).symm
theorem vx_callSW (X : Stand p l e R s m args below meth c T locs cells slots) (hexec : p.tables.exec = Jvm.exec) {own : String} {index : Nat} {y : MethodName} {bytes : ByteArray} {maxL : Nat} {ret : Option FieldType} {hh : List (Nat × Nat × Nat × Nat)}
    (hown : s.vm.findClass own = some m.cls) (hlink : (Cond.methodLink own index y).before args s = true) (hstat : (Cond.static y).before args s = true) (hinit : (Cond.initialized y.cls).before args s = true)
    (hcode : (Cond.codeWith y bytes maxL ret hh).before args s = true) (hy : y.cls ≠ "java/lang/invoke/MethodHandle" ∧ y.cls ≠ "java/lang/invoke/VarHandle")
    {W9 : Nat} {Pre : Pt → Array Value → Prop} {Post : Pt → Array Value → Option Value → Pt → Prop} (hK : Back l R p e below s args y 3 W9 Pre Post)
    {g : JFrame} (hg : g.method = m) (hsize : g.locals.size = c.maxLocals) {argsL rest : List Value} (hlen : ∀ sig, parseMethodDescriptor y.desc = some sig → argsL.length = sig.parameters.length)
    (hstack : g.stack = argsL.reverse ++ rest) (hW : 2 * g.monitorRoom + (rest.map fun v => v.category).sum ≤ W9) (hdg : decode c.code g.pc = .ok (.invokestatic index, 3))
    (hpre : ∀ vm₁, s.WarmedH vm₁ → Pre ⟨T.setVm vm₁, locs, cells, slots⟩ argsL.toArray) :
    ∃ (v : Option Value) (vm₁ : Vm) (B : Pt), s.WarmedH vm₁ ∧ Stand p l e R s m args below meth c B.U B.locs B.cells B.slots ∧ Post ⟨T.setVm vm₁, locs, cells, slots⟩ argsL.toArray v B ∧
      ∀ target, Steps p.tables e below (B.U.setTop { g with pc := g.pc + 3, stack := v.toList ++ rest }) target → Steps p.tables e below (T.setTop g) target := by
  obtain ⟨mk, methM, cM, hnamed, hmethM, -, -, -, -, -, -, hsigM⟩ := Cond.codeWith_spec hcode
  have hstatic : methM.isStatic = true := Cond.static_spec hnamed hmethM hstat
  obtain ⟨kP, hkP, -⟩ := className_of_methodNamed hnamed
  have hinitP : kP.init = .initialized := Cond.initialized_spec (findClass_of_methodNamed hnamed) hkP hinit
  obtain ⟨vm₁, X₁, hstep₁⟩ := X.invokestatic hexec hown hlink hnamed hmethM hstatic hkP hinitP hy (g := g) hg (argsL := argsL) (rest := rest) (hlen _ hsigM) hstack hdg
  obtain ⟨v, B, X', hpost, hsteps⟩ := hK m meth c ⟨T.setVm vm₁, locs, cells, slots⟩ { g with stack := rest } (.invokestatic index) mk argsL.toArray X₁ hg hsize hdg hW (X₁.named hnamed) (hpre vm₁ X₁.warmed)
  exact ⟨v, vm₁, B, X₁.warmed, X', hpost, fun target h => hstep₁ _ fun acts => by rw [doInvoke_state]; exact hsteps.trans h⟩
theorem vx_runSW {y : MethodName} {bytes cc : ByteArray} {maxL nL mc ms n index : Nat} {ret : Option FieldType} {hh : List (Nat × Nat × Nat × Nat)} {ws : List Cond} {rm : Room} {Pc : Array Value → State → Prop} {Qc : Array Value → State → Outcome → State → Prop} {free : Addr → Prop} {Ts : List Cond} {own : String} {As rest : List Value} {g : JFrame}
    (S : CallFix p m c cc nL s args Ts own) (hM : Met l y ws rm Pc Qc mc ms free) (cw : vx_CSW R s args own index y bytes maxL ret hh ws rm mc ms n) (hp : PreS s H Pc As)
    (hg : g.method = m) (hn : As.length = n) (hsize : g.locals.size = nL) (hstack : g.stack = As.reverse ++ rest) (hW : 2 * g.monitorRoom + (rest.map fun v => v.category).sum ≤ 8) (hdg : decode cc g.pc = .ok (.invokestatic index, 3)) (hf : cells + mc ≤ R.cells ∧ slots + ms ≤ R.slots) :
    va_Run p l e R s m args below meth c H locs cells slots mc ms g rest (Qc As.toArray) (free) := by
  obtain ⟨⟨hrc, hrs, hfr, hlo, hws, hcw⟩, hcode, hini, hy, hlen, hl, hstt⟩ := cw
  have hK : Back l R p e below s args y 3 8 (PreOf R mc ms Pc) (PostOf Qc mc ms free) := va_backW (hh := hh) (bytes := bytes) (maxL := maxL) (ret := ret) hM hp.1 hrc hrs hfr hlo hws hcw (fun a' U hW => word_at hW (Or.inl (by first | rfl | simp [Cond.onTables, Cond.keeps, Cond.steady])) hini)
  obtain ⟨hx, hb, hml, ho, -⟩ := S
  intro T hT X
  obtain ⟨v, vm₁, ⟨U', l2, c2, s2⟩, hW₁, X', ⟨g', mk, t, L, e1, e2, hq, h1, hL, h2, h3⟩, st⟩ := vx_callSW X hx (hh := hh) (bytes := bytes) (maxL := maxL) (ret := ret) ho hl hstt hini hcode hy hK hg (hsize.trans hml.symm) (argsL := As) (rest := rest) (fun sig h => hn.trans (hlen sig h)) hstack hW (by rw [hb]; exact hdg)
    (fun vm₁ hW₁ => ⟨hf.1, hf.2, hp.2 (T.setVm vm₁) hT hW₁⟩)
  dsimp only [Pt.U, Pt.locs, Pt.cells, Pt.slots] at X' e1 e2 h1 h2 h3 st
  subst h1; subst h2; subst h3
  exact ⟨v, (T.setVm vm₁).calling g' mk As.toArray, t, U', L, hT, X', hL, e1, e2, hq, st⟩
/-- not caught here, past rows that name other classes: it goes on to the caller -/
theorem vx_outP {p : Program} {l : Launch} {e : Env} {R : Room} {s : State} {m : MethodId} {args : Array Value} {below : List Frame} {meth : Method} {c : Code} {H : Heap} {locs : List Loc} {cells slots : Nat} {free : Addr → Prop} {ls : Array Slot} {rest : List Value} {Qc : Array Value → State → Outcome → State → Prop} {XC : String → State → State → Prop}
    {pc : Nat} {own E : String} {ce : Cell} {q : Addr} {mc ms : Nat} (hown : s.vm.findClass own = some m.cls) (hlocks : meth.locks = false)
    (hpass : ∀ z ∈ c.exceptionTable.toList, covers z pc = false ∨ (z.catchType ≠ 0 ∧ ∃ nm : String, (Cond.classLink own z.catchType nm).before args s = true ∧ va_Nc E nm s)) (hcell : H[q]? = some ce) (hv : ce.vm = .none) (hcl : s.vm.findClass E = some ce.cls)
    (hx : ∀ t : State, t.heap = H → s.vm.Alike t.vm → XC E s t) (hf : ∀ z ∈ locs, free z.base) (hc : cells ≤ mc) (hs : slots ≤ ms) :
    vx_W p l e R s m args below meth c H locs cells slots (vx_MQ below Qc XC args s mc ms free) (F0 m pc ls rest) q := by
  intro T hT X
  have hpl : e.platform.magicAccessors = ({} : Platform).magicAccessors := by rw [X.admits.platform]
  obtain ⟨vm', hW', X', st⟩ := X.outThrough hlocks q (g := F0 m pc ls rest) rfl rfl rfl (cell := ce) (by rw [hT]; exact hcell) (by rw [hv]; rfl)
    (by obtain ⟨k9, h9, -⟩ := Vm.findClass_spec hcl; exact ⟨k9, h9⟩) (fun z hz => by
      rcases hpass z hz with h | ⟨hz0, nm, hl1, hn1⟩
      · exact Or.inl h
      · obtain ⟨c6, hc6, hcl6⟩ := Cond.classLink_spec hown hl1 e.platform hpl
        obtain ⟨a8, b8, h1, h2, h3⟩ := hn1
        cases Option.some.inj (h1.symm.trans hcl)
        cases Option.some.inj (h2.symm.trans hc6)
        exact Or.inr ⟨hz0, _, hcl6, h3⟩)
  obtain ⟨g₀, hfr⟩ := X'.frames_eq
  have hcell9 : ((T.setVm vm').setFrames (.throwing q :: below)).heap[q]? = some ce := by
    show T.heap[q]? = some ce
    rw [hT]; exact hcell
  have hend : Ended ((T.setVm vm').setFrames (.throwing q :: below)) below (.threw q) := State.frames_setFrames _ (State.cur_lt_of_frames hfr)
  refine ⟨(T.setVm vm').setFrames (.throwing q :: below), ?_, .threw q, X'.here.running, hend, Or.inr ⟨q, rfl, E, ce, locs, hx _ hT (X'.ends _).1.alike, hcell9, hv, hcl, (X'.ends _).1, (X'.ends _).2.mono hc hs, hf⟩⟩
  rw [X.pushThrowing_eq]
  exact st
/-- a thing of a world lies in the heap -/
theorem vx_lt {D : va_G} {cl : List vw_C} {ws : va_W} {H1 : Heap} (h : va_P D cl ws H1) {k : Nat} {q : Nat × va_E} (hk : ws[k]? = some q) : q.1 < H1.size := (h k q hk).lt
end VXS
/-! ===== END ===== -/
/-! ===== BEGIN methods with a table of their own: called by a name, returning or throwing ===== -/
section VXH
/-! vx_backW, vx_callVX, vx_callSX, vx_callVW, vx_runVW, vx_runVX, vx_runSX, vx_ofWH follow the same proofs as their sisters above (Free/Laws.lean, Shelf42/LK1.lean); vx_outP calls Shelf42/NT130.lean (outThrough). -/
section
variable {l : Launch} {R : Room} {p : Program} {e : Env} {below : List Frame} {s : State} {sargs : Array Value} {y : MethodName} {len W9 : Nat}
theorem vx_backW {ws : List Cond} {rm : Room} {Pc : Array Value → State → Prop} {Qc : Array Value → State → Outcome → State → Prop} {XC : String → State → State → Prop} {mc ms : Nat} {free : Addr → Prop} {bytes : ByteArray} {maxL : Nat} {ret : Option FieldType} {hh : List (Nat × Nat × Nat × Nat)}
    (hM : vx_Met l y ws rm Pc Qc XC mc ms free) (hblind : FrameBlind Pc) (hrc : rm.cells = mc) (hrs : rm.slots = ms)
    (hframes : rm.frames + 1 ≤ R.frames) (hlocals : W9 + (maxL + 11) + rm.locals ≤ R.locals)
    (hws : ∀ w ∈ ws, ∀ a' U, s.WarmedH U.vm → w.before a' U = true) (hcode : Cond.codeWith y bytes maxL ret hh ∈ ws) (hinit : ∀ a' U, s.WarmedH U.vm → (Cond.initialized y.cls).before a' U = true) :
    vx_Back l R p e below s sargs y len W9 (PreOf R mc ms Pc) (PostOf Qc mc ms free) (vx_Post XC mc ms free) := by
  intro m meth c A g ig mk a X hg hsize hdg hW hn hp
  have h1 : (headSpec ws rm).pre.before a A.U = true := atoms_intro fun w hw => hws w hw _ _ X.warmed
  have h2 : (Cond.codeWith y bytes maxL ret hh).before a A.U = true := hws _ hcode _ _ X.warmed
  have h3 : (Cond.initialized y.cls).before a A.U = true := hinit _ _ X.warmed
  have h4 : A.cells + (headSpec ws rm).room.cells ≤ R.cells := by rw [show (headSpec ws rm).room.cells = mc from hrc]; exact hp.1
  have h5 : A.slots + (headSpec ws rm).room.slots ≤ R.slots := by rw [show (headSpec ws rm).room.slots = ms from hrs]; exact hp.2.1
  have hPc : Pc a (A.U.calling g mk a) := hblind _ _ _ _ hp.2.2
  obtain ⟨U, Ls, c0, s0⟩ := A
  dsimp only [Pt.U, Pt.locs, Pt.cells, Pt.slots] at h1 h2 h3 h4 h5 X hn hPc ⊢
  obtain ⟨m9, methY, cY, hn9, hmY, hcY, -, hlY, -⟩ := Cond.codeWith_spec h2
  cases Option.some.inj (hn9.symm.trans hn)
  obtain ⟨kY, hkY, -⟩ := className_of_methodNamed hn
  have hinitY : kY.init = .initialized := Cond.initialized_spec (findClass_of_methodNamed hn) hkY h3
  have h : At U g.method c below := by rw [hg]; exact X.here
  have hlocals9 : W9 + (maxL + 11) + (headSpec ws rm).room.locals ≤ R.locals := hlocals
  have happ : (headSpec ws rm).appliesLoose y e.platform (U.calling g mk a) = true :=
    Spec.appliesLoose_calling (g := g) h hdg hn hkY hinitY
      (X.room_calling (g := g) (R' := (headSpec ws rm).room) hsize hmY hcY hframes (by rw [hlY]; omega) h4 h5) h1
  obtain ⟨mid, hmid⟩ := h.above
  have hfr : (U.setTop g).frames = (.java g :: mid) ++ below := by rw [State.frames_setTop' g h.top, hmid]; rfl
  obtain ⟨o, s₂, hsteps, -, hend, hq⟩ := Steps.callFree hM p X.admits X.cas X.clock (acts := []) hfr happ hPc trivial
  have hq' : vx_Q Qc XC mc ms free a (U.calling g mk a) o s₂ := hq
  rw [State.frames_setTop' g h.top] at hend
  obtain ⟨g₀, hg0⟩ := Option.isSome_iff_exists.mp h.top
  obtain ⟨r, hr⟩ := State.topJava?_eq_some.mp hg0
  have hr' : (({ U with heap := s₂.heap, slotsUsed := s₂.slotsUsed } : State).setVm s₂.vm).frames = .java g₀ :: r := hr
  rcases hq' with ⟨hqc, L, hfe, hL⟩ | ⟨q, rfl, E, ce, L, hx, hce, hcv, hcl, hW₂, hsm, hL⟩
  · obtain ⟨⟨v, rfl⟩, hW₂, e2, q2, q3, q4, q5, q6⟩ := id hfe
    have e3 : s₂ = ({ (U.calling g mk a).setFrames s₂.frames with heap := s₂.heap, slotsUsed := s₂.slotsUsed } : State).setVm s₂.vm := by
      have : s₂ = ({ s₂ with vm := (U.calling g mk a).vm } : State).setVm s₂.vm := rfl
      rw [e2] at this
      exact this
    obtain ⟨c₂, i₂, len₂, hc₂, hd₂, hf₂⟩ := hend
    have hW' : U.WarmedH s₂.vm := hW₂
    have hcc : c₂ = c := by
      have h1 : s₂.code? g.method = U.code? g.method := by
        rw [State.code?_eq, State.code?_eq, hW'.alike.method?]
      exact Option.some.inj (hc₂.symm.trans (h1.trans h.code))
    subst hcc
    have hlen : len₂ = len := by rw [hdg] at hd₂; cases hd₂; rfl
    subst hlen
    have hs₂ : s₂ = (({ U with heap := s₂.heap, slotsUsed := s₂.slotsUsed } : State).setVm s₂.vm).setTop { g with pc := g.pc + len₂, stack := v.toList ++ g.stack } := by
      refine e3.trans ?_
      rw [hf₂, State.calling_eq h.top, State.setFrames_setFrames, State.setTop_of_frames _ hr', hr]
      rfl
    have hsame : U.sameButNew ({ U with heap := s₂.heap, slotsUsed := s₂.slotsUsed } : State) L mc ms := by
      refine ⟨?_, q2, q3, q4, q5, q6⟩
      obtain ⟨t, ht, -⟩ := State.frames_cons hr
      show ({ U with heap := s₂.heap, slotsUsed := s₂.slotsUsed } : State) = { U.setFrames U.frames with heap := s₂.heap, slotsUsed := s₂.slotsUsed }
      rw [State.setFrames_self ht]
    subst hg
    refine Or.inl ⟨v, ⟨(({ U with heap := s₂.heap, slotsUsed := s₂.slotsUsed } : State).setVm s₂.vm), Ls ++ L, c0 + mc, s0 + ms⟩,
      ⟨X.admits, X.cas, X.clock, X.frames, X.room, X.hears, X.method, X.code, (X.here.setHeapUsed s₂.heap s₂.slotsUsed).setVm hW'.alike, X.tail, State.WarmedH.trans X.warmed hW', X.limits, X.bytes, X.same.trans (hsame.setVm s.vm)⟩,
      ⟨g, mk, s₂, L, rfl, rfl, hqc, rfl, hL, rfl, rfl⟩, ?_⟩
    show Steps p.tables e below _ ((({ U with heap := s₂.heap, slotsUsed := s₂.slotsUsed } : State).setVm s₂.vm).setTop { g with pc := g.pc + len₂, stack := v.toList ++ g.stack })
    rw [← hs₂]
    exact hsteps
  · obtain ⟨e2, q2, q3, q4, q5, q6⟩ := id hsm
    have e3 : s₂ = ({ (U.calling g mk a).setFrames s₂.frames with heap := s₂.heap, slotsUsed := s₂.slotsUsed } : State).setVm s₂.vm := by
      have : s₂ = ({ s₂ with vm := (U.calling g mk a).vm } : State).setVm s₂.vm := rfl
      rw [e2] at this
      exact this
    have hf₂ : s₂.frames = .throwing q :: .java g :: U.frames.tail := hend
    have hW' : U.WarmedH s₂.vm := hW₂
    have hs₂ : s₂ = ((({ U with heap := s₂.heap, slotsUsed := s₂.slotsUsed } : State).setVm s₂.vm).setTop g).pushFrame (.throwing q) := by
      refine e3.trans ?_
      rw [hf₂, State.calling_eq h.top, State.setFrames_setFrames, State.pushFrame, State.frames_setTop _ hr', State.setTop_of_frames _ hr', State.setFrames_setFrames, hr]
      rfl
    have hsame : U.sameButNew ({ U with heap := s₂.heap, slotsUsed := s₂.slotsUsed } : State) L mc ms := by
      refine ⟨?_, q2, q3, q4, q5, q6⟩
      obtain ⟨t, ht, -⟩ := State.frames_cons hr
      show ({ U with heap := s₂.heap, slotsUsed := s₂.slotsUsed } : State) = { U.setFrames U.frames with heap := s₂.heap, slotsUsed := s₂.slotsUsed }
      rw [State.setFrames_self ht]
    subst hg
    refine Or.inr ⟨q, ⟨(({ U with heap := s₂.heap, slotsUsed := s₂.slotsUsed } : State).setVm s₂.vm), Ls ++ L, c0 + mc, s0 + ms⟩,
      ⟨X.admits, X.cas, X.clock, X.frames, X.room, X.hears, X.method, X.code, (X.here.setHeapUsed s₂.heap s₂.slotsUsed).setVm hW'.alike, X.tail, State.WarmedH.trans X.warmed hW', X.limits, X.bytes, X.same.trans (hsame.setVm s.vm)⟩,
      ⟨g, mk, s₂, L, E, ce, rfl, rfl, hx, hce, hcv, hcl, rfl, hL, rfl, rfl⟩, ?_⟩
    show Steps p.tables e below _ (((({ U with heap := s₂.heap, slotsUsed := s₂.slotsUsed } : State).setVm s₂.vm).setTop g).pushFrame (.throwing q))
    rw [← hs₂]
    exact hsteps
end
variable {p : Program} {l : Launch} {e : Env} {R : Room} {s : State} {m : MethodId} {args : Array Value} {below : List Frame} {meth : Method} {c : Code} {T : State} {H : Heap} {locs : List Loc} {cells slots : Nat}
theorem vx_callVX (X : Stand p l e R s m args below meth c T locs cells slots) (hexec : p.tables.exec = Jvm.exec) {own C : String} {index : Nat} {y : MethodName} {bytes : ByteArray} {maxL : Nat} {ret : Option FieldType} {hh : List (Nat × Nat × Nat × Nat)}
    (hown : s.vm.findClass own = some m.cls) (hlink : (Cond.methodLink own index y).before args s = true) (hinst : (Cond.instanceMethod y).before args s = true) (hsel : (Cond.selects C y y).before args s = true)
    (hcode : (Cond.codeWith y bytes maxL ret hh).before args s = true) (hy : y.cls ≠ "java/lang/invoke/MethodHandle" ∧ y.cls ≠ "java/lang/invoke/VarHandle")
    {W9 : Nat} {Pre : Pt → Array Value → Prop} {Post : Pt → Array Value → Option Value → Pt → Prop} {PostX : Pt → Array Value → Addr → Pt → Prop} (hK : vx_Back l R p e below s args y 3 W9 Pre Post PostX)
    {b : Addr} {cellB : Cell} (hcell : T.heap[b]? = some cellB) (hobj : cellB.vm.isStatics = false) (hcls : s.vm.findClass C = some cellB.cls)
    {g : JFrame} (hg : g.method = m) (hsize : g.locals.size = c.maxLocals) {argsL rest : List Value} (hlen : ∀ sig, parseMethodDescriptor y.desc = some sig → argsL.length = sig.parameters.length)
    (hstack : g.stack = argsL.reverse ++ .ref b :: rest) (hW : 2 * g.monitorRoom + (rest.map fun v => v.category).sum ≤ W9) (hdg : decode c.code g.pc = .ok (.invokevirtual index, 3))
    (hpre : ∀ vm₁, s.WarmedH vm₁ → Pre ⟨T.setVm vm₁, locs, cells, slots⟩ (Value.ref b :: argsL).toArray) :
    (∃ (v : Option Value) (vm₁ : Vm) (B : Pt), s.WarmedH vm₁ ∧ Stand p l e R s m args below meth c B.U B.locs B.cells B.slots ∧ Post ⟨T.setVm vm₁, locs, cells, slots⟩ (Value.ref b :: argsL).toArray v B ∧
      ∀ target, Steps p.tables e below (B.U.setTop { g with pc := g.pc + 3, stack := v.toList ++ rest }) target → Steps p.tables e below (T.setTop g) target) ∨
    (∃ (q : Addr) (vm₁ : Vm) (B : Pt), s.WarmedH vm₁ ∧ Stand p l e R s m args below meth c B.U B.locs B.cells B.slots ∧ PostX ⟨T.setVm vm₁, locs, cells, slots⟩ (Value.ref b :: argsL).toArray q B ∧
      Steps p.tables e below (T.setTop g) ((B.U.setTop { g with stack := rest }).pushFrame (.throwing q))) := by
  obtain ⟨mk, methM, hnamed, hmethM, hstM, habM⟩ := Cond.instanceMethod_spec hinst
  obtain ⟨m8, methM', cM, hn8, hmethM', -, -, -, -, -, -, hsigM⟩ := Cond.codeWith_spec hcode
  cases Option.some.inj (hn8.symm.trans hnamed)
  cases hmethM.symm.trans hmethM'
  obtain ⟨c2, r2, m2, q1, q2, q3, q4, kP, hkP, hkPi⟩ := Cond.selects_spec hsel
  cases hcls.symm.trans q1
  cases (State.methodFound?_of_named hnamed hy).symm.trans q2
  cases hnamed.symm.trans q3
  have hselP : selectMethod e.platform s.vm cellB.cls mk = .method mk := by rw [Launch.admits_selectMethod X.admits]; exact q4
  obtain ⟨vm₁, X₁, hstep₁⟩ := X.invokevirtual hexec hown hlink hnamed hmethM hstM hkP hkPi hy (a := b) (cell := cellB) hcell
    (fun z h => by rw [h] at hobj; cases hobj) hselP hmethM habM hkP hkPi (g := g) hg (argsL := argsL) (rest := rest) (hlen _ hsigM) hstack hdg
  rcases hK m meth c ⟨T.setVm vm₁, locs, cells, slots⟩ { g with stack := rest } (.invokevirtual index) mk (Value.ref b :: argsL).toArray X₁ hg hsize hdg hW (X₁.named hnamed) (hpre vm₁ X₁.warmed) with ⟨v, B, X', hpost, hsteps⟩ | ⟨q, B, X', hpost, hsteps⟩
  · exact Or.inl ⟨v, vm₁, B, X₁.warmed, X', hpost, fun target h => hstep₁ _ fun acts => by rw [doInvoke_state]; exact hsteps.trans h⟩
  · exact Or.inr ⟨q, vm₁, B, X₁.warmed, X', hpost, hstep₁ _ fun acts => by rw [doInvoke_state]; exact hsteps⟩
theorem vx_callSX (X : Stand p l e R s m args below meth c T locs cells slots) (hexec : p.tables.exec = Jvm.exec) {own : String} {index : Nat} {y : MethodName} {bytes : ByteArray} {maxL : Nat} {ret : Option FieldType} {hh : List (Nat × Nat × Nat × Nat)}
    (hown : s.vm.findClass own = some m.cls) (hlink : (Cond.methodLink own index y).before args s = true) (hstat : (Cond.static y).before args s = true) (hinit : (Cond.initialized y.cls).before args s = true)
    (hcode : (Cond.codeWith y bytes maxL ret hh).before args s = true) (hy : y.cls ≠ "java/lang/invoke/MethodHandle" ∧ y.cls ≠ "java/lang/invoke/VarHandle")
    {W9 : Nat} {Pre : Pt → Array Value → Prop} {Post : Pt → Array Value → Option Value → Pt → Prop} {PostX : Pt → Array Value → Addr → Pt → Prop} (hK : vx_Back l R p e below s args y 3 W9 Pre Post PostX)
    {g : JFrame} (hg : g.method = m) (hsize : g.locals.size = c.maxLocals) {argsL rest : List Value} (hlen : ∀ sig, parseMethodDescriptor y.desc = some sig → argsL.length = sig.parameters.length)
    (hstack : g.stack = argsL.reverse ++ rest) (hW : 2 * g.monitorRoom + (rest.map fun v => v.category).sum ≤ W9) (hdg : decode c.code g.pc = .ok (.invokestatic index, 3))
    (hpre : ∀ vm₁, s.WarmedH vm₁ → Pre ⟨T.setVm vm₁, locs, cells, slots⟩ argsL.toArray) :
    (∃ (v : Option Value) (vm₁ : Vm) (B : Pt), s.WarmedH vm₁ ∧ Stand p l e R s m args below meth c B.U B.locs B.cells B.slots ∧ Post ⟨T.setVm vm₁, locs, cells, slots⟩ argsL.toArray v B ∧
      ∀ target, Steps p.tables e below (B.U.setTop { g with pc := g.pc + 3, stack := v.toList ++ rest }) target → Steps p.tables e below (T.setTop g) target) ∨
    (∃ (q : Addr) (vm₁ : Vm) (B : Pt), s.WarmedH vm₁ ∧ Stand p l e R s m args below meth c B.U B.locs B.cells B.slots ∧ PostX ⟨T.setVm vm₁, locs, cells, slots⟩ argsL.toArray q B ∧
      Steps p.tables e below (T.setTop g) ((B.U.setTop { g with stack := rest }).pushFrame (.throwing q))) := by
  obtain ⟨mk, methM, cM, hnamed, hmethM, -, -, -, -, -, -, hsigM⟩ := Cond.codeWith_spec hcode
  have hstatic : methM.isStatic = true := Cond.static_spec hnamed hmethM hstat
  obtain ⟨kP, hkP, -⟩ := className_of_methodNamed hnamed
  have hinitP : kP.init = .initialized := Cond.initialized_spec (findClass_of_methodNamed hnamed) hkP hinit
  obtain ⟨vm₁, X₁, hstep₁⟩ := X.invokestatic hexec hown hlink hnamed hmethM hstatic hkP hinitP hy (g := g) hg (argsL := argsL) (rest := rest) (hlen _ hsigM) hstack hdg
  rcases hK m meth c ⟨T.setVm vm₁, locs, cells, slots⟩ { g with stack := rest } (.invokestatic index) mk argsL.toArray X₁ hg hsize hdg hW (X₁.named hnamed) (hpre vm₁ X₁.warmed) with ⟨v, B, X', hpost, hsteps⟩ | ⟨q, B, X', hpost, hsteps⟩
  · exact Or.inl ⟨v, vm₁, B, X₁.warmed, X', hpost, fun target h => hstep₁ _ fun acts => by rw [doInvoke_state]; exact hsteps.trans h⟩
  · exact Or.inr ⟨q, vm₁, B, X₁.warmed, X', hpost, hstep₁ _ fun acts => by rw [doInvoke_state]; exact hsteps⟩
theorem vx_callVW (X : Stand p l e R s m args below meth c T locs cells slots) (hexec : p.tables.exec = Jvm.exec) {own C : String} {index : Nat} {y : MethodName} {bytes : ByteArray} {maxL : Nat} {ret : Option FieldType} {hh : List (Nat × Nat × Nat × Nat)}
    (hown : s.vm.findClass own = some m.cls) (hlink : (Cond.methodLink own index y).before args s = true) (hinst : (Cond.instanceMethod y).before args s = true) (hsel : (Cond.selects C y y).before args s = true)
    (hcode : (Cond.codeWith y bytes maxL ret hh).before args s = true) (hy : y.cls ≠ "java/lang/invoke/MethodHandle" ∧ y.cls ≠ "java/lang/invoke/VarHandle")
    {W9 : Nat} {Pre : Pt → Array Value → Prop} {Post : Pt → Array Value → Option Value → Pt → Prop} (hK : Back l R p e below s args y 3 W9 Pre Post)
    {b : Addr} {cellB : Cell} (hcell : T.heap[b]? = some cellB) (hobj : cellB.vm.isStatics = false) (hcls : s.vm.findClass C = some cellB.cls)
    {g : JFrame} (hg : g.method = m) (hsize : g.locals.size = c.maxLocals) {argsL rest : List Value} (hlen : ∀ sig, parseMethodDescriptor y.desc = some sig → argsL.length = sig.parameters.length)
    (hstack : g.stack = argsL.reverse ++ .ref b :: rest) (hW : 2 * g.monitorRoom + (rest.map fun v => v.category).sum ≤ W9) (hdg : decode c.code g.pc = .ok (.invokevirtual index, 3))
    (hpre : ∀ vm₁, s.WarmedH vm₁ → Pre ⟨T.setVm vm₁, locs, cells, slots⟩ (Value.ref b :: argsL).toArray) :
    ∃ (v : Option Value) (vm₁ : Vm) (B : Pt), s.WarmedH vm₁ ∧ Stand p l e R s m args below meth c B.U B.locs B.cells B.slots ∧ Post ⟨T.setVm vm₁, locs, cells, slots⟩ (Value.ref b :: argsL).toArray v B ∧
      ∀ target, Steps p.tables e below (B.U.setTop { g with pc := g.pc + 3, stack := v.toList ++ rest }) target → Steps p.tables e below (T.setTop g) target := by
  obtain ⟨mk, methM, hnamed, hmethM, hstM, habM⟩ := Cond.instanceMethod_spec hinst
  obtain ⟨m8, methM', cM, hn8, hmethM', -, -, -, -, -, -, hsigM⟩ := Cond.codeWith_spec hcode
  cases Option.some.inj (hn8.symm.trans hnamed)
  cases hmethM.symm.trans hmethM'
  obtain ⟨c2, r2, m2, q1, q2, q3, q4, kP, hkP, hkPi⟩ := Cond.selects_spec hsel
  cases hcls.symm.trans q1
  cases (State.methodFound?_of_named hnamed hy).symm.trans q2
  cases hnamed.symm.trans q3
  have hselP : selectMethod e.platform s.vm cellB.cls mk = .method mk := by rw [Launch.admits_selectMethod X.admits]; exact q4
  obtain ⟨vm₁, X₁, hstep₁⟩ := X.invokevirtual hexec hown hlink hnamed hmethM hstM hkP hkPi hy (a := b) (cell := cellB) hcell
    (fun z h => by rw [h] at hobj; cases hobj) hselP hmethM habM hkP hkPi (g := g) hg (argsL := argsL) (rest := rest) (hlen _ hsigM) hstack hdg
  obtain ⟨v, B, X', hpost, hsteps⟩ := hK m meth c ⟨T.setVm vm₁, locs, cells, slots⟩ { g with stack := rest } (.invokevirtual index) mk (Value.ref b :: argsL).toArray X₁ hg hsize hdg hW (X₁.named hnamed) (hpre vm₁ X₁.warmed)
  exact ⟨v, vm₁, B, X₁.warmed, X', hpost, fun target h => hstep₁ _ fun acts => by rw [doInvoke_state]; exact hsteps.trans h⟩
abbrev vx_CVW (R : Room) (s : State) (args : Array Value) (own C : String) (index : Nat) (y : MethodName) (bytes : ByteArray) (maxL : Nat) (ret : Option FieldType) (hh : List (Nat × Nat × Nat × Nat)) (ws : List Cond) (rm : Room) (mc ms n : Nat) : Prop :=
  (rm.cells = mc ∧ rm.slots = ms ∧ rm.frames + 1 ≤ R.frames ∧ 8 + (maxL + 11) + rm.locals ≤ R.locals ∧ (∀ w ∈ ws, ∀ (a' : Array Value) (U : State), s.WarmedH U.vm → w.before a' U = true) ∧ Cond.codeWith y bytes maxL ret hh ∈ ws) ∧
  (Cond.codeWith y bytes maxL ret hh).before args s = true ∧ (Cond.initialized y.cls).before args s = true ∧ (y.cls ≠ "java/lang/invoke/MethodHandle" ∧ y.cls ≠ "java/lang/invoke/VarHandle") ∧
  (∀ sig, parseMethodDescriptor y.desc = some sig → n = sig.parameters.length) ∧ (Cond.methodLink own index y).before args s = true ∧ (Cond.instanceMethod y).before args s = true ∧ (Cond.selects C y y).before args s = true
theorem vx_cwVW {own C : String} {index maxL mc ms : Nat} {y : MethodName} {bytes : ByteArray} {ret : Option FieldType} {hh : List (Nat × Nat × Nat × Nat)} {Ts ws ws' : List Cond} {rm : Room} (n : Nat) (ht : ∀ w ∈ Ts, w.before args s = true) (hT : GoodIn Ts (wsV own index C y ws)) (hw : ws = Cond.codeWith y bytes maxL ret hh :: ws') (hrc : rm.cells = mc) (hrs : rm.slots = ms)
    (hd : y.cls = C ∧ y.cls ≠ "java/lang/invoke/MethodHandle" ∧ y.cls ≠ "java/lang/invoke/VarHandle" ∧ (parseMethodDescriptor y.desc).map (fun d => d.parameters.length) = some n) (hR : rm.frames + 1 ≤ R.frames ∧ 8 + (maxL + 11) + rm.locals ≤ R.locals) :
    vx_CVW R s args own C index y bytes maxL ret hh ws rm mc ms n := by
  obtain ⟨hC, hd⟩ := hd
  subst hC
  have ok : ∀ w ∈ wsV own index y.cls y ws, w.before args s = true := fun w h => ht w (hT w h).1
  have hG : GoodIn Ts ws := fun w h => hT w (by unfold wsV; exact List.mem_append_right _ h)
  have hc : Cond.codeWith y bytes maxL ret hh ∈ ws := by rw [hw]; exact List.mem_cons_self
  refine ⟨⟨hrc, hrs, hR.1, hR.2, pay_in ht hG, hc⟩, ht _ (hG _ hc).1, ok _ (by simp [wsV]), ⟨hd.1, hd.2.1⟩, fun sig h => ?_, ok _ (by simp [wsV]), ok _ (by simp [wsV]), ok _ (by simp [wsV])⟩
  have h2 := hd.2.2
  rw [h] at h2
  exact (Option.some.inj h2).symm
theorem vx_runVW {y : MethodName} {bytes cc : ByteArray} {maxL nL mc ms n index : Nat} {ret : Option FieldType} {hh : List (Nat × Nat × Nat × Nat)} {ws : List Cond} {rm : Room} {Pc : Array Value → State → Prop} {Qc : Array Value → State → Outcome → State → Prop} {free : Addr → Prop} {Ts : List Cond} {own C : String} {b : Addr} {As rest : List Value} {g : JFrame}
    (S : CallFix p m c cc nL s args Ts own) (hM : Met l y ws rm Pc Qc mc ms free) (cw : vx_CVW R s args own C index y bytes maxL ret hh ws rm mc ms n) (hp : PreV s H C b Pc As)
    (hg : g.method = m) (hn : As.length = n) (hsize : g.locals.size = nL) (hstack : g.stack = As.reverse ++ .ref b :: rest) (hW : 2 * g.monitorRoom + (rest.map fun v => v.category).sum ≤ 8) (hdg : decode cc g.pc = .ok (.invokevirtual index, 3)) (hf : cells + mc ≤ R.cells ∧ slots + ms ≤ R.slots) :
    va_Run p l e R s m args below meth c H locs cells slots mc ms g rest (Qc (Value.ref b :: As).toArray) free := by
  obtain ⟨⟨hrc, hrs, hfr, hlo, hws, hcw⟩, hcode, hini, hy, hlen, hl, hin, hse⟩ := cw
  have hK : Back l R p e below s args y 3 8 (PreOf R mc ms Pc) (PostOf Qc mc ms free) := va_backW (hh := hh) (bytes := bytes) (maxL := maxL) (ret := ret) hM hp.1 hrc hrs hfr hlo hws hcw (fun a' U hW => word_at hW (Or.inl (by first | rfl | simp [Cond.onTables, Cond.keeps, Cond.steady])) hini)
  obtain ⟨hx, hb, hml, ho, -⟩ := S
  obtain ⟨-, ⟨cellB, hcB, hoB, hclB⟩, hPc⟩ := hp
  intro T hT X
  obtain ⟨v, vm₁, ⟨U', l2, c2, s2⟩, hW₁, X', ⟨g', mk, t, L, e1, e2, hq, h1, hL, h2, h3⟩, st⟩ := vx_callVW X hx (C := C) (hh := hh) (bytes := bytes) (maxL := maxL) (ret := ret) ho hl hin hse hcode hy hK (by rw [hT]; exact hcB) hoB hclB hg (hsize.trans hml.symm) (argsL := As) (rest := rest) (fun sig h => hn.trans (hlen sig h)) hstack hW (by rw [hb]; exact hdg)
    (fun vm₁ hW₁ => ⟨hf.1, hf.2, hPc (T.setVm vm₁) hT hW₁⟩)
  dsimp only [Pt.U, Pt.locs, Pt.cells, Pt.slots] at X' e1 e2 h1 h2 h3 st
  subst h1; subst h2; subst h3
  exact ⟨v, (T.setVm vm₁).calling g' mk (Value.ref b :: As).toArray, t, U', L, hT, X', hL, e1, e2, hq, st⟩
section
variable {y : MethodName} {bytes cc : ByteArray} {maxL nL mc ms n index : Nat} {ret : Option FieldType} {ws : List Cond} {rm : Room} {Pc : Array Value → State → Prop} {Qc : Array Value → State → Outcome → State → Prop} {XC : String → State → State → Prop} {free : Addr → Prop} {Ts : List Cond} {own C : String} {b : Addr} {As rest : List Value} {g : JFrame}
theorem vx_runVX {hh : List (Nat × Nat × Nat × Nat)} (S : CallFix p m c cc nL s args Ts own) (hM : vx_Met l y ws rm Pc Qc XC mc ms free) (cw : vx_CVW R s args own C index y bytes maxL ret hh ws rm mc ms n) (hp : PreV s H C b Pc As)
    (hg : g.method = m) (hn : As.length = n) (hsize : g.locals.size = nL) (hstack : g.stack = As.reverse ++ .ref b :: rest) (hW : 2 * g.monitorRoom + (rest.map fun v => v.category).sum ≤ 8) (hdg : decode cc g.pc = .ok (.invokevirtual index, 3)) (hf : cells + mc ≤ R.cells ∧ slots + ms ≤ R.slots) :
    vx_Run p l e R s m args below meth c H locs cells slots mc ms g rest (Qc (Value.ref b :: As).toArray) XC free := by
  obtain ⟨⟨hrc, hrs, hfr, hlo, hws, hcw⟩, hcode, hini, hy, hlen, hl, hin, hse⟩ := cw
  have hK : vx_Back l R p e below s args y 3 8 (PreOf R mc ms Pc) (PostOf Qc mc ms free) (vx_Post XC mc ms free) := vx_backW (hh := hh) (bytes := bytes) (maxL := maxL) (ret := ret) hM hp.1 hrc hrs hfr hlo hws hcw (fun a' U hW => word_at hW (Or.inl (by first | rfl | simp [Cond.onTables, Cond.keeps, Cond.steady])) hini)
  obtain ⟨hx, hb, hml, ho, -⟩ := S
  obtain ⟨-, ⟨cellB, hcB, hoB, hclB⟩, hPc⟩ := hp
  intro T hT X
  rcases vx_callVX X hx (C := C) (hh := hh) (bytes := bytes) (maxL := maxL) (ret := ret) ho hl hin hse hcode hy hK (by rw [hT]; exact hcB) hoB hclB hg (hsize.trans hml.symm) (argsL := As) (rest := rest) (fun sig h => hn.trans (hlen sig h)) hstack hW (by rw [hb]; exact hdg)
    (fun vm₁ hW₁ => ⟨hf.1, hf.2, hPc (T.setVm vm₁) hT hW₁⟩) with ⟨v, vm₁, ⟨U', l2, c2, s2⟩, hW₁, X', ⟨g', mk, t, L, e1, e2, hq, h1, hL, h2, h3⟩, st⟩ | ⟨q, vm₁, ⟨U', l2, c2, s2⟩, hW₁, X', ⟨g', mk, t, L, E, ce, e1, e2, hq, hce, hcv, hcl, h1, hL, h2, h3⟩, st⟩
  · dsimp only [Pt.U, Pt.locs, Pt.cells, Pt.slots] at X' e1 e2 h1 h2 h3 st
    subst h1; subst h2; subst h3
    exact Or.inl ⟨v, (T.setVm vm₁).calling g' mk (Value.ref b :: As).toArray, t, U', L, hT, X', hL, e1, e2, hq, st⟩
  · dsimp only [Pt.U, Pt.locs, Pt.cells, Pt.slots] at X' e1 e2 h1 h2 h3 st hcl
    subst h1; subst h2; subst h3
    exact Or.inr ⟨q, (T.setVm vm₁).calling g' mk (Value.ref b :: As).toArray, t, U', L, E, ce, hT, X', hL, e1, e2, hq, hce, hcv, vx_cls hW₁ hcl, st⟩
theorem vx_runSX {hh : List (Nat × Nat × Nat × Nat)} (S : CallFix p m c cc nL s args Ts own) (hM : vx_Met l y ws rm Pc Qc XC mc ms free) (cw : vx_CSW R s args own index y bytes maxL ret hh ws rm mc ms n) (hp : PreS s H Pc As)
    (hg : g.method = m) (hn : As.length = n) (hsize : g.locals.size = nL) (hstack : g.stack = As.reverse ++ rest) (hW : 2 * g.monitorRoom + (rest.map fun v => v.category).sum ≤ 8) (hdg : decode cc g.pc = .ok (.invokestatic index, 3)) (hf : cells + mc ≤ R.cells ∧ slots + ms ≤ R.slots) :
    vx_Run p l e R s m args below meth c H locs cells slots mc ms g rest (Qc As.toArray) XC free := by
  obtain ⟨⟨hrc, hrs, hfr, hlo, hws, hcw⟩, hcode, hini, hy, hlen, hl, hstt⟩ := cw
  have hK : vx_Back l R p e below s args y 3 8 (PreOf R mc ms Pc) (PostOf Qc mc ms free) (vx_Post XC mc ms free) := vx_backW (hh := hh) (bytes := bytes) (maxL := maxL) (ret := ret) hM hp.1 hrc hrs hfr hlo hws hcw (fun a' U hW => word_at hW (Or.inl (by first | rfl | simp [Cond.onTables, Cond.keeps, Cond.steady])) hini)
  obtain ⟨hx, hb, hml, ho, -⟩ := S
  intro T hT X
  rcases vx_callSX X hx (hh := hh) (bytes := bytes) (maxL := maxL) (ret := ret) ho hl hstt hini hcode hy hK hg (hsize.trans hml.symm) (argsL := As) (rest := rest) (fun sig h => hn.trans (hlen sig h)) hstack hW (by rw [hb]; exact hdg)
    (fun vm₁ hW₁ => ⟨hf.1, hf.2, hp.2 (T.setVm vm₁) hT hW₁⟩) with ⟨v, vm₁, ⟨U', l2, c2, s2⟩, hW₁, X', ⟨g', mk, t, L, e1, e2, hq, h1, hL, h2, h3⟩, st⟩ | ⟨q, vm₁, ⟨U', l2, c2, s2⟩, hW₁, X', ⟨g', mk, t, L, E, ce, e1, e2, hq, hce, hcv, hcl, h1, hL, h2, h3⟩, st⟩
  · dsimp only [Pt.U, Pt.locs, Pt.cells, Pt.slots] at X' e1 e2 h1 h2 h3 st
    subst h1; subst h2; subst h3
    exact Or.inl ⟨v, (T.setVm vm₁).calling g' mk As.toArray, t, U', L, hT, X', hL, e1, e2, hq, st⟩
  · dsimp only [Pt.U, Pt.locs, Pt.cells, Pt.slots] at X' e1 e2 h1 h2 h3 st hcl
    subst h1; subst h2; subst h3
    exact Or.inr ⟨q, (T.setVm vm₁).calling g' mk As.toArray, t, U', L, E, ce, hT, X', hL, e1, e2, hq, hce, hcv, vx_cls hW₁ hcl, st⟩
end
end VXH
theorem vx_ofWH {l : Launch} {y : MethodName} {ws ws' : List Cond} {rm : Room} {Pc : Array Value → State → Prop} {Qc : Array Value → State → Outcome → State → Prop} {XC : String → State → State → Prop} {mc ms : Nat} {free : Addr → Prop} {cc : ByteArray} {maxL : Nat} {ret : Option FieldType} {hh : List (Nat × Nat × Nat × Nat)}
    (hy : plainName y.cls = true) (hw : ws = Cond.codeWith y cc maxL ret hh :: ws')
    (body : ∀ p e s m args below meth c s₁, BodyLoose p l y (headSpec ws rm) cc maxL ret e s m args below meth c s₁ → c.maxLocals = maxL → Pc args s →
      W p l e (headSpec ws rm).room s m args below meth c s.heap [] 0 0 (vx_MQ below Qc XC args s mc ms free) (entryFrame m args maxL)) : vx_Met l y ws rm Pc Qc XC mc ms free := by
  refine MetFree.of_bodyS (code := cc) (maxLocals := maxL) (ret := ret) hy ?_ ?_
  · intro args s m h hn
    obtain ⟨m9, meth, c, hn9, h1, h2, h3, h4, -, h5, h6, -⟩ := Cond.codeWith_spec (atoms_spec (ws := ws) h _ (by rw [hw]; exact List.mem_cons_self))
    cases hn.symm.trans hn9
    exact ⟨meth, c, h1, h2, h3, h4, h5, h6⟩
  · intro p e s m args below meth c s₁ B hml hP _
    have hh0 : s₁.heap = s.heap := by rw [B.state]; rfl
    obtain ⟨t, a1, o, b1, b2, b3⟩ := body p e s m args below meth c s₁ B hml hP s₁ hh0 (Stand.of_body B)
    exact ⟨t, o, a1, b1, b2, b3⟩
/-! ===== END ===== -/

/-! ===== BEGIN what the machine throws by itself, no traces kept ===== -/
section VXM
set_option maxHeartbeats 1000000 in
/-- the machine throws cls with the message text, no traces kept: from its note over the frame g to 'throwing' over the same frame (follows the proofs of Stand.vmThrowsMessage, Shelf/KitTracedVmS.lean, and Stand.throwsMessageColdBareV, StandMessageColdV.lean, without the step out of the frame) -/
theorem vx_vmAt {p : Program} {l : Launch} {e : Env} {R : Room} {s : State} {m₀ : MethodId} {args : Array Value} {below : List Frame} {meth : Method} {c : Code} {W : State} {locs : List Loc} {cells slots : Nat}
    (X : Stand p l e R s m₀ args below meth c W locs cells slots) (hexec : p.tables.exec = Jvm.exec) (htr : e.platform.stackTraces = false) {cls : String} {names : List String} {text : String}
    (hcls : Bundle.fit cls = true) (hnames : ∀ n ∈ names, Bundle.fit n = true) (hsoe : (cls == "java/lang/StackOverflowError") = false) (hoom : (cls == "java/lang/OutOfMemoryError") = false)
    (h : ∀ a ∈ Bundle.messageArmAtoms cls names, a.before args s = true)
    (hlocs : ∀ x ∈ locs, ∀ cell, s.heap[x.base]? = some cell → cell.vm.isStatics = false)
    (htext : (text == notModelled) = false) (hlimit : ¬ (stringBytes (stringToUtf16 text)).size > e.platform.arrayLengthLimit) (hheap : ¬ (stringBytes (stringToUtf16 text)).size * componentBytes .byte > e.platform.maxHeapBytes)
    {g : JFrame} (hg : g.method = m₀) (hsize : g.locals.size = c.maxLocals)
    (hRframes : names.length + 4 < R.frames) (hRlocals : 2 * g.monitorRoom + (g.stack.map fun v => v.category).sum + 10240 ≤ R.locals) (hshort : 13 * names.length + 55 ≤ 10240)
    (hRcells : cells + 3 ≤ R.cells) (hRslots : slots + ((stringBytes (stringToUtf16 text)).size + 4 + 6) ≤ R.slots) (hlocks : meth.locks = false) :
    ∃ (S : State) (q : Addr) (ce : Cell), (∀ target, Steps p.tables e below ((S.setTop g).pushFrame (.throwing q)) target → Steps p.tables e below ((W.setTop g).pushFrame (.throwNew cls (some text) none)) target) ∧
      Stand p l e R s m₀ args below meth c S locs (cells + 3) (slots + ((stringBytes (stringToUtf16 text)).size + 4 + 6)) ∧ S.heap[q]? = some ce ∧ s.vm.findClass cls = some ce.cls ∧ ce.vm = .none := by
  have howns : e.platform.frameOwnsMonitors = true := by rw [X.admits.platform]
  have hfin : e.platform.finalization = false := by rw [X.admits.platform]
  have hpl : e.platform.magicAccessors = ({} : Platform).magicAccessors := by rw [X.admits.platform]
  have a : ∀ x, x ∈ Bundle.messageArmAtoms cls names → x.holds args s none s [] = true := fun x hx => h x hx
  obtain ⟨T, Z0, L, -, Y⟩ := ThrowableC.of_atoms (args := args) howns hfin hpl (fun x hx => h x (by simp [Bundle.messageArmAtoms, hx]))
  obtain ⟨Z, M, LZ, LM, hnZ⟩ := Init0T.ofS_atoms (args := args) hpl L Y (fun x hx => h x (by simp [Bundle.messageArmAtoms, hx]))
  obtain ⟨P1, Ps, hlen, L1, hL, hP1m, hlink1, hlink⟩ := Bundle.chainS (args := args) hpl hnZ names cls hcls hnames (fun x hx => h x (by simp [Bundle.messageArmAtoms, hx]))
  obtain ⟨Zs, LZs, hn4, hfitv, hfitc⟩ := StringT.of_atoms (args := args) (fun x hx => h x (by simp [Bundle.messageArmAtoms, hx]))
  have hfound : s.vm.findClass cls = some P1.m.cls := findClass_of_methodNamed hP1m
  obtain ⟨c1, kX, hc1, hk, hord, -, -, hn6⟩ := Cond.instantiable_spec (a (.instantiable cls 6) (by simp [Bundle.messageArmAtoms]))
  cases Option.some.inj (hc1.symm.trans hfound)
  have hinit := Cond.initialized_spec hfound hk (a (.initialized cls) (by simp [Bundle.messageArmAtoms]))
  have hctor : kX.findMethod "<init>" "(Ljava/lang/String;)V" = some P1.m.idx := findMethod_of_methodNamed hP1m hk
  have hsel0 : selectMethod e.platform s.vm P1.m.cls T.fill0 = .method T.fill0 := by
    obtain ⟨c2, r2, m2, q1, q2, q3, q4, -⟩ := Cond.selects_spec (a (.selects cls Bundle.tFill0 Bundle.tFill0) (by simp [Bundle.messageArmAtoms]))
    cases Option.some.inj (q1.symm.trans hfound)
    cases Option.some.inj (q2.symm.trans (State.methodFound?_of_named Y.fill0 (by decide)))
    cases Option.some.inj (q3.symm.trans Y.fill0)
    rw [Launch.admits_selectMethod X.admits]; exact q4
  have hselF : selectMethod e.platform s.vm P1.m.cls T.fill = .method T.fill := by
    obtain ⟨c2, r2, m2, q1, q2, q3, q4, -⟩ := Cond.selects_spec (a (.selects cls Bundle.tFill Bundle.tFill) (by simp [Bundle.messageArmAtoms]))
    cases Option.some.inj (q1.symm.trans hfound)
    cases Option.some.inj (q2.symm.trans (State.methodFound?_of_named Y.fill (by decide)))
    cases Option.some.inj (q3.symm.trans Y.fill)
    rw [Launch.admits_selectMethod X.admits]; exact q4
  obtain ⟨cellS0, hcS0, hiss⟩ := Y.statics
  obtain ⟨u0, hu0⟩ := Cond.staticRefV Y.unassigned L.unassignedStatic L.statics hcS0 hiss (a (.isRef (.static Bundle.tN "UNASSIGNED_STACK" Bundle.steD)) (by simp [Bundle.messageArmAtoms]))
  obtain ⟨sen, hsen⟩ := Cond.staticRefV Y.sentinel L.sentinelStatic L.statics hcS0 hiss (a (.isRef (.static Bundle.tN "SUPPRESSED_SENTINEL" Bundle.listD)) (by simp [Bundle.messageArmAtoms]))
  obtain ⟨ci198, i198, fB, hk198, hg198, ha198, hsB, -, hnB, htB, hffB⟩ := Cond.ownField (t := .object "java/lang/Object") Y.found L.cls (by decide +kernel) (a (.fieldLink Bundle.tN 198 Bundle.tN "backtrace" "Ljava/lang/Object;") (by simp [Bundle.messageArmAtoms])) (a (.lays Bundle.tN Bundle.tN "backtrace" "Ljava/lang/Object;") (by simp [Bundle.messageArmAtoms])) e.platform hpl
  obtain ⟨cellS, hcS', heS, -, hkeep⟩ := X.same.2.2.2.2.2 T.aS cellS0 hcS0
  have hcellS : W.heap[T.aS]? = some cellS := hcS'
  have hout' : ∀ i, (⟨T.aS, i⟩ : Loc) ∉ locs := fun i hmem => by
    have := hlocs _ hmem cellS0 hcS0
    rw [hiss] at this; cases this
  have hknownS : cellS.vm ≠ .unknown := by
    rw [heS]; intro hu
    rw [show cellS0.vm = .unknown from hu] at hiss
    cases hiss
  have hvU : cellS.slots[T.fUnassigned.slot]? = some u0.v := by rw [hkeep _ (hout' _)]; exact hu0
  have hvSen : cellS.slots[T.fSentinel.slot]? = some sen.v := by rw [hkeep _ (hout' _)]; exact hsen
  obtain ⟨iM, hffM⟩ := Y.msg
  obtain ⟨tyC, dC, hdC, hdnC⟩ := Cond.laysAt hfound hk Y.cause (a (.lays cls Bundle.tN "cause" "Ljava/lang/Throwable;") (by simp [Bundle.messageArmAtoms]))
  obtain ⟨tyS, dS, hdS, hdnS⟩ := Cond.laysAt hfound hk Y.stack (a (.lays cls Bundle.tN "stackTrace" Bundle.steD) (by simp [Bundle.messageArmAtoms]))
  obtain ⟨tyP, dP, hdP, hdnP⟩ := Cond.laysAt hfound hk Y.supp (a (.lays cls Bundle.tN "suppressedExceptions" Bundle.listD) (by simp [Bundle.messageArmAtoms]))
  obtain ⟨tyM, dM, hdM, hdnM⟩ := Cond.laysAt hfound hk hffM (a (.lays cls Bundle.tN "detailMessage" "Ljava/lang/String;") (by simp [Bundle.messageArmAtoms]))
  obtain ⟨tyB, dB, hdB, hdnB⟩ := Cond.laysAt hfound hk hffB (a (.lays cls Bundle.tN "backtrace" "Ljava/lang/Object;") (by simp [Bundle.messageArmAtoms]))
  have bC := Cond.laysApart hdB hdC hdnB hdnC (by rw [hnB, Y.causeName]; decide)
  have bS := Cond.laysApart hdB hdS hdnB hdnS (by rw [hnB, Y.stackName]; decide)
  have bP := Cond.laysApart hdB hdP hdnB hdnP (by rw [hnB, Y.suppName]; decide)
  have hbk : ((preparedCellV T.toThrowableT (freshCell P1.m.cls kX) (W.heap.size + 2) u0 sen).withEntry W.cur).slots[fB.slot]? = some .null := by
    have := fresh_default (c := P1.m.cls) tyB
    rw [htB] at this
    simpa [preparedCellV, Cell.setSlot, Cell.withEntry, Array.getElem?_setIfInBounds, bC, bS, bP, bC.symm, bS.symm, bP.symm, defaultValue] using this
  have tkC := Takes.of_laid (v := .ref (W.heap.size + 2)) hk hord tyC (by rw [Y.causeType]; rfl)
  have tkS := Takes.of_laid (v := u0.v) hk hord tyS (by rw [Y.stackType]; exact fits_refV_array _ u0)
  have tkP := Takes.of_laid (v := sen.v) hk hord tyP (by rw [Y.suppType]; exact fits_refV_object _ sen)
  have tkM := Takes.of_laid (v := .ref (W.heap.size + 1)) hk hord tyM (by rw [Y.msgType]; rfl)
  have hskip : SkipFacts T e.platform s (fun u => u) u0 ((preparedCellV T.toThrowableT (freshCell P1.m.cls kX) (W.heap.size + 2) u0 sen).withEntry W.cur) := ⟨{ ci198 := ci198, i198 := i198, fBack := fB }, ⟨hk198, hg198, ha198, hsB⟩, hbk, fun _ _ => rfl⟩
  have h0 : At W g.method c below := by rw [hg]; exact X.here
  obtain ⟨hbeyond, hfreeW⟩ := X.vmMayThrow hsize (.throwNew cls (some text) none) (fun f hf => by cases hf) rfl hRlocals
  have hfr' : W.frames.length + Ps.length + 4 < (e.platform.stackLimits W.me).1 := by have := X.framesAbove hRframes; omega
  have hwd' : (stackUse (.java g :: W.frames.tail)).2 + 13 * Ps.length + 55 ≤ (e.platform.stackLimits W.me).2 := by have := X.stackAbove hsize (K := 13 * Ps.length + 55) (by omega); omega
  have hslots : W.slotsUsed + (stringBytes (stringToUtf16 text)).size + Zs.kS.instanceTypes.size + kX.instanceTypes.size ≤ e.platform.maxSlots := by
    have := X.slotsAbove hRslots
    rw [hn4, hn6]
    omega
  obtain ⟨vm', hW', st⟩ := Steps.vmThrowsMessageColdByV p (s₀ := s) (S := W) (g := g) h0 hexec T L Z LZ M LM X.warmed (t := W.cur) rfl Zs LZs P1 L1 Ps hL hlink1 hlink hsoe hoom hfound hk hinit hord hctor
    (Launch.admits_hotImplicitExceptions X.admits) hbeyond hfreeW htext hlimit hheap (X.cellsAbove hRcells) hslots (hfitv _) (hfitc _)
    (Nn := fun u => u) heapOnly_id (fun _ _ => rfl) (fun _ => rfl) (fun u x y => setCell_twice _ _ _ _) (fun _ => Nat.le_refl _) (cN := ((preparedCellV T.toThrowableT (freshCell P1.m.cls kX) (W.heap.size + 2) u0 sen).withEntry W.cur))
    hsel0 hcellS hknownS hvU tkS (fun _ hu => hu) (fun _ hu => hu) rfl rfl rfl (by simp [preparedCellV, Cell.setSlot, Cell.withEntry]) hskip (fun _ _ hA hW _ hroom _ hrest => L.nativeOff p htr hA hW hroom hrest) hselF hvSen tkC tkP tkM Y.objLocals rfl hfr' hwd'
  rw [plainBareV_eq T.toThrowableT (W.heap.size + 2) u0 sen (.ref (W.heap.size + 1)) W.cur rfl rfl] at st
  obtain ⟨-, -, w3, w4, -, -, -⟩ := withThrown_facts e.platform W Zs text P1.m.cls kX
  have X3 := ((X.pushed (bytesOf Zs.cB (stringToUtf16 text))).pushed (stringAt Zs.cS Zs.kS Zs.fv Zs.fc (stringToUtf16 text) W.heap.size)).pushed (freshCell P1.m.cls kX)
  rw [← withString_eq] at X3
  have X4 := X3.noted hW'
  have ha : (W.heap.size + 2) < ((withThrown W Zs text P1.m.cls kX).setVm vm').heap.size := by show _ < (withThrown W Zs text P1.m.cls kX).heap.size; rw [w3]; omega
  have hcell : ((withThrown W Zs text P1.m.cls kX).setVm vm').heap[(W.heap.size + 2)]? = some (freshCell P1.m.cls kX) := w4
  have X5 := ((((X4.stored hcell T.fCause.slot (.ref (W.heap.size + 2))).storedAgain ha T.fStack.slot u0.v).storedAgain ha T.fSupp.slot sen.v).storedAgain ha T.fStack.slot u0.v).storedAgain ha T.fMsg.slot (.ref (W.heap.size + 1))
  obtain ⟨g₁, hfrM⟩ := X5.frames_eq
  have hU : ((((withThrown W Zs text P1.m.cls kX).setVm vm').setCell (W.heap.size + 2) (plainBareV T.toThrowableT (freshCell P1.m.cls kX) (W.heap.size + 2) u0 sen (.ref (W.heap.size + 1)))).setTop g).pushFrame (.throwing (W.heap.size + 2)) = (((withThrown W Zs text P1.m.cls kX).setVm vm').setCell (W.heap.size + 2) (plainBareV T.toThrowableT (freshCell P1.m.cls kX) (W.heap.size + 2) u0 sen (.ref (W.heap.size + 1)))).setFrames (.throwing (W.heap.size + 2) :: .java g :: below) := by
    rw [State.pushFrame, State.frames_setTop _ hfrM, State.setTop_of_frames _ hfrM, State.setFrames_setFrames]
  have b1 : (bytesOf Zs.cB (stringToUtf16 text)).slots.size = (stringBytes (stringToUtf16 text)).size := by
    rw [(Cell.writeAll_facts _ _).2.2]; simp [bytes0]
  have b2 : (stringAt Zs.cS Zs.kS Zs.fv Zs.fc (stringToUtf16 text) W.heap.size).slots.size = 4 := by simp [string0, Cell.setSlot, hn4]
  have b3 : (freshCell P1.m.cls kX).slots.size = 6 := by simp [hn6]
  rw [b1, b2, b3] at X5
  have e9 : slots + (stringBytes (stringToUtf16 text)).size + 4 + 6 = slots + ((stringBytes (stringToUtf16 text)).size + 4 + 6) := by omega
  rw [e9] at X5
  simp only [List.append_assoc, List.cons_append, List.nil_append] at X5
  refine ⟨((withThrown W Zs text P1.m.cls kX).setVm vm').setCell (W.heap.size + 2) (plainBareV T.toThrowableT (freshCell P1.m.cls kX) (W.heap.size + 2) u0 sen (.ref (W.heap.size + 1))), W.heap.size + 2, _, fun target ht => st _ (by rw [X.tail, ← hU]; exact ht),
    X5.forget (fun y hy => ?_), heapAt_setCell_self _ ha, hfound, rfl⟩
  simp only [List.mem_cons, List.not_mem_nil, or_false] at hy
  have hge : s.heap.size ≤ W.heap.size := X.same.2.1
  rcases hy with rfl | rfl | rfl | rfl | rfl <;> exact Nat.le_trans hge (Nat.le_add_right _ 2)
set_option maxHeartbeats 1000000 in
/-- the machine throws NullPointerException, no traces kept: from its note over the frame g to 'throwing' over the same frame (follows the proof of Stand.vmThrowsNpe, Shelf42/KT2.lean; throwsNpeColdBareVAt, Shelf42/NT91.lean, called) -/
theorem vx_npeAt {p : Program} {l : Launch} {e : Env} {R : Room} {s : State} {m₀ : MethodId} {args : Array Value} {below : List Frame} {meth : Method} {c : Code} {W : State} {locs : List Loc} {cells slots : Nat}
    (X : Stand p l e R s m₀ args below meth c W locs cells slots) (hexec : p.tables.exec = Jvm.exec) (htr : e.platform.stackTraces = false) {n : Nat}
    (h : ∀ a ∈ Bundle.npeArmAtoms n, a.before args s = true)
    (hlocs : ∀ x ∈ locs, ∀ cell, s.heap[x.base]? = some cell → cell.vm.isStatics = false)
    {g : JFrame} (hg : g.method = m₀) (hsize : g.locals.size = c.maxLocals)
    (hRframes : 7 < R.frames) (hRlocals : 2 * g.monitorRoom + (g.stack.map fun v => v.category).sum + 10240 ≤ R.locals)
    (hRcells : cells + 1 ≤ R.cells) (hRslots : slots + n ≤ R.slots) (hlocks : meth.locks = false) :
    ∃ (S : State) (q : Addr) (ce : Cell), (∀ target, Steps p.tables e below ((S.setTop g).pushFrame (.throwing q)) target → Steps p.tables e below ((W.setTop g).pushFrame (.throwNew "java/lang/NullPointerException" none none)) target) ∧
      Stand p l e R s m₀ args below meth c S locs (cells + 1) (slots + n) ∧ S.heap[q]? = some ce ∧ s.vm.findClass "java/lang/NullPointerException" = some ce.cls ∧ ce.vm = .none := by
  have howns : e.platform.frameOwnsMonitors = true := by rw [X.admits.platform]
  have hfin : e.platform.finalization = false := by rw [X.admits.platform]
  have hpl : e.platform.magicAccessors = ({} : Platform).magicAccessors := by rw [X.admits.platform]
  have hpl2 : e.platform.arrayCloneIsPublic = true := by rw [X.admits.platform]
  have a' : ∀ x, x ∈ Bundle.npeArmAtoms n → x.holds args s none s [] = true := fun x hx => h x hx
  obtain ⟨T, Z, L, LZ, Y⟩ := ThrowableC.of_atoms (args := args) howns hfin hpl (fun x hx => h x (by simp [Bundle.npeArmAtoms, hx]))
  obtain ⟨N, LN, hcN, hnNF, hordN, hffS⟩ := NpeC.of_atoms (args := args) hpl hpl2 L Y (fun x hx => h x (by simp [Bundle.npeArmAtoms, hx]))
  obtain ⟨P1, L1, hP1m, hP1s⟩ := PassC.of_atoms (args := args) (s := s) hpl (X := Bundle.nN) (Y := Bundle.rN) (by decide) (by decide) LibCode.NullPointerException.Init0.at_0 LibCode.NullPointerException.Init0.at_1 LibCode.NullPointerException.Init0.at_4 (fun x hx => h x (by simp [Bundle.npeArmAtoms, hx]))
  obtain ⟨PR, LR, hPRm, hPRs⟩ := PassC.of_atoms (args := args) (s := s) hpl (X := Bundle.rN) (Y := Bundle.eN) (by decide) (by decide) LibCode.RuntimeException.Init0.at_0 LibCode.RuntimeException.Init0.at_1 LibCode.RuntimeException.Init0.at_4 (fun x hx => h x (by simp [Bundle.npeArmAtoms, hx]))
  obtain ⟨PE, LEx, hPEm, hPEs⟩ := PassC.of_atoms (args := args) (s := s) hpl (X := Bundle.eN) (Y := Bundle.tN) (by decide) (by decide) LibCode.Exception.Init0.at_0 LibCode.Exception.Init0.at_1 LibCode.Exception.Init0.at_4 (fun x hx => h x (by simp [Bundle.npeArmAtoms, hx]))
  have hfound : s.vm.findClass Bundle.nN = some P1.m.cls := findClass_of_methodNamed hP1m
  have ecls : N.cN = P1.m.cls := Option.some.inj (hcN.symm.trans hfound)
  have hk : s.vm.classes[P1.m.cls]? = some N.kN := by rw [← ecls]; exact LN.cls
  have hinit := Cond.initialized_spec hfound hk (a' (.initialized Bundle.nN) (by simp [Bundle.npeArmAtoms]))
  have hctor : N.kN.findMethod "<init>" "()V" = some P1.m.idx := findMethod_of_methodNamed hP1m hk
  obtain ⟨c1, k1, hc1, hk1, -, -, -, hn⟩ := Cond.instantiable_spec (a' (.instantiable Bundle.nN n) (by simp [Bundle.npeArmAtoms]))
  cases Option.some.inj (hc1.symm.trans hfound)
  cases Option.some.inj (hk1.symm.trans hk)
  have hfsz : (freshCell P1.m.cls N.kN).slots.size = n := by simp [hn]
  have hlink1 : P1.sup = PR.m := Option.some.inj (hP1s.symm.trans hPRm)
  have hlinkR : PR.sup = PE.m := Option.some.inj (hPRs.symm.trans hPEm)
  have hlinkE : PE.sup = Z.m T.toThrowableT := Option.some.inj (hPEs.symm.trans Y.init0)
  have hLs : ∀ P, P ∈ [PR, PE] → P.Links0 e.platform s := fun P hP => by
    simp only [List.mem_cons, List.not_mem_nil, or_false] at hP
    rcases hP with rfl | rfl
    · exact LR
    · exact LEx
  have hsel0 : selectMethod e.platform s.vm P1.m.cls T.fill0 = .method T.fill0 := by
    obtain ⟨c2, r2, m2, q1, q2, q3, q4, -⟩ := Cond.selects_spec (a' (.selects Bundle.nN Bundle.tFill0 Bundle.tFill0) (by simp [Bundle.npeArmAtoms]))
    cases Option.some.inj (q1.symm.trans hfound)
    cases Option.some.inj (q2.symm.trans (State.methodFound?_of_named Y.fill0 (by decide)))
    cases Option.some.inj (q3.symm.trans Y.fill0)
    rw [Launch.admits_selectMethod X.admits]; exact q4
  have hselF : selectMethod e.platform s.vm P1.m.cls T.fill = .method N.fill := by
    obtain ⟨c2, r2, m2, q1, q2, q3, q4, -⟩ := Cond.selects_spec (a' (.selects Bundle.nN Bundle.tFill Bundle.nFill) (by simp [Bundle.npeArmAtoms]))
    cases Option.some.inj (q1.symm.trans hfound)
    cases Option.some.inj (q2.symm.trans (State.methodFound?_of_named Y.fill (by decide)))
    cases Option.some.inj (q3.symm.trans hnNF)
    rw [Launch.admits_selectMethod X.admits]; exact q4
  obtain ⟨cellS0, hcS0, hiss⟩ := Y.statics
  obtain ⟨u0, hu0⟩ := Cond.staticRefV Y.unassigned L.unassignedStatic L.statics hcS0 hiss (a' (.isRef (.static Bundle.tN "UNASSIGNED_STACK" Bundle.steD)) (by simp [Bundle.npeArmAtoms]))
  obtain ⟨sen, hsen⟩ := Cond.staticRefV Y.sentinel L.sentinelStatic L.statics hcS0 hiss (a' (.isRef (.static Bundle.tN "SUPPRESSED_SENTINEL" Bundle.listD)) (by simp [Bundle.npeArmAtoms]))
  obtain ⟨ci198, i198, fB, hk198, hg198, ha198, hsB, -, hnB, htB, hffB⟩ := Cond.ownField (t := .object "java/lang/Object") Y.found L.cls (by decide +kernel) (a' (.fieldLink Bundle.tN 198 Bundle.tN "backtrace" Bundle.objD) (by simp [Bundle.npeArmAtoms])) (a' (.lays Bundle.tN Bundle.tN "backtrace" Bundle.objD) (by simp [Bundle.npeArmAtoms])) e.platform hpl
  obtain ⟨cellS, hcS', heS, -, hkeep⟩ := X.same.2.2.2.2.2 T.aS cellS0 hcS0
  have hcellS : W.heap[T.aS]? = some cellS := hcS'
  have hout' : ∀ i, (⟨T.aS, i⟩ : Loc) ∉ locs := fun i hmem => by
    have := hlocs _ hmem cellS0 hcS0
    rw [hiss] at this; cases this
  have hknownS : cellS.vm ≠ .unknown := by
    rw [heS]; intro hu
    rw [show cellS0.vm = .unknown from hu] at hiss
    cases hiss
  have hvU : cellS.slots[T.fUnassigned.slot]? = some u0.v := by rw [hkeep _ (hout' _)]; exact hu0
  have hvSen : cellS.slots[T.fSentinel.slot]? = some sen.v := by rw [hkeep _ (hout' _)]; exact hsen
  obtain ⟨tyC, dC, hdC, hdnC⟩ := Cond.laysAt hfound hk Y.cause (a' (.lays Bundle.nN Bundle.tN "cause" "Ljava/lang/Throwable;") (by simp [Bundle.npeArmAtoms]))
  obtain ⟨tyS, dS, hdS, hdnS⟩ := Cond.laysAt hfound hk Y.stack (a' (.lays Bundle.nN Bundle.tN "stackTrace" Bundle.steD) (by simp [Bundle.npeArmAtoms]))
  obtain ⟨tyP, dP, hdP, hdnP⟩ := Cond.laysAt hfound hk Y.supp (a' (.lays Bundle.nN Bundle.tN "suppressedExceptions" Bundle.listD) (by simp [Bundle.npeArmAtoms]))
  obtain ⟨tyX, dX, hdX, hdnX⟩ := Cond.laysAt hfound hk hffS (a' (.lays Bundle.nN Bundle.nN "extendedMessageState" "I") (by simp [Bundle.npeArmAtoms, Bundle.npeAtoms]))
  obtain ⟨hnX, htX⟩ := State.fieldFound?_type hffS (t := .int) (by decide +kernel)
  have xC := Cond.laysApart hdC hdX hdnC hdnX (by rw [hnX, Y.causeName]; decide)
  have xS := Cond.laysApart hdS hdX hdnS hdnX (by rw [hnX, Y.stackName]; decide)
  have xP := Cond.laysApart hdP hdX hdnP hdnX (by rw [hnX, Y.suppName]; decide)
  have hv0 : (freshCell P1.m.cls N.kN).slots[N.fState.slot]? = some (.int 0) := by
    have := fresh_default (c := P1.m.cls) tyX
    rw [htX] at this; exact this
  obtain ⟨tyB, dB, hdB, hdnB⟩ := Cond.laysAt hfound hk hffB (a' (.lays Bundle.nN Bundle.tN "backtrace" Bundle.objD) (by simp [Bundle.npeArmAtoms]))
  have bC := Cond.laysApart hdB hdC hdnB hdnC (by rw [hnB, Y.causeName]; decide)
  have bS := Cond.laysApart hdB hdS hdnB hdnS (by rw [hnB, Y.stackName]; decide)
  have bP := Cond.laysApart hdB hdP hdnB hdnP (by rw [hnB, Y.suppName]; decide)
  have bX := Cond.laysApart hdB hdX hdnB hdnX (by rw [hnB, hnX]; decide)
  have hbk : ((npeCell N.toNpeT (preparedCellV T.toThrowableT (freshCell P1.m.cls N.kN) W.heap.size u0 sen) W.cur).withEntry W.cur).slots[fB.slot]? = some .null := by
    have := fresh_default (c := P1.m.cls) tyB
    rw [htB] at this
    simpa [npeCell, preparedCellV, Cell.setSlot, Cell.withEntry, Array.getElem?_setIfInBounds, bC, bS, bP, bX, bC.symm, bS.symm, bP.symm, bX.symm, defaultValue] using this
  have tkC := Takes.of_laid (v := .ref W.heap.size) hk hordN tyC (by rw [Y.causeType]; rfl)
  have tkS := Takes.of_laid (v := u0.v) hk hordN tyS (by rw [Y.stackType]; exact fits_refV_array _ u0)
  have tkP := Takes.of_laid (v := sen.v) hk hordN tyP (by rw [Y.suppType]; exact fits_refV_object _ sen)
  have tkX := Takes.of_laid (v := .int 1) hk hordN tyX (by rw [htX]; rfl)
  have hskip : SkipFacts T e.platform s (fun u => u) u0 ((npeCell N.toNpeT (preparedCellV T.toThrowableT (freshCell P1.m.cls N.kN) W.heap.size u0 sen) W.cur).withEntry W.cur) := ⟨{ ci198 := ci198, i198 := i198, fBack := fB }, ⟨hk198, hg198, ha198, hsB⟩, hbk, fun _ _ => rfl⟩
  obtain ⟨vm', X3, st, -⟩ := X.throwsNpeColdBareVAt hexec hg hsize T L Z LZ N LN P1 L1 [PR, PE] hLs hlink1 ⟨hlinkR, hlinkE, trivial⟩ hfound hk hinit hordN hctor hsel0 hselF hcellS hknownS hvU hvSen
    hv0 xC xS xP tkC tkS tkP tkX Y.objLocals hskip (fun _ _ hA hW _ hroom _ hrest => L.nativeOff p htr hA hW hroom hrest) (by simpa using hRframes) hRlocals (by simp) hRcells (by rw [hn]; exact hRslots)
  have hlt : W.heap.size < ((W.pushCell (freshCell P1.m.cls N.kN)).setVm vm').heap.size := by
    show W.heap.size < (W.pushCell (freshCell P1.m.cls N.kN)).heap.size
    rw [State.heap_size_pushCell]; omega
  rw [hfsz] at X3
  obtain ⟨g₁, hfrM⟩ := X3.frames_eq
  have hU : ((((W.pushCell (freshCell P1.m.cls N.kN)).setVm vm').setCell W.heap.size (npeBareV T.toThrowableT N.toNpeT (freshCell P1.m.cls N.kN) W.heap.size u0 sen)).setTop g).pushFrame (.throwing W.heap.size) = (((W.pushCell (freshCell P1.m.cls N.kN)).setVm vm').setCell W.heap.size (npeBareV T.toThrowableT N.toNpeT (freshCell P1.m.cls N.kN) W.heap.size u0 sen)).setFrames (.throwing W.heap.size :: .java g :: below) := by
    rw [State.pushFrame, State.frames_setTop _ hfrM, State.setTop_of_frames _ hfrM, State.setFrames_setFrames]
  refine ⟨_, W.heap.size, _, fun target ht => st.trans (by rw [← hU]; exact ht), X3.forget (fun y hy => ?_), heapAt_setCell_self _ hlt, hfound, rfl⟩
  simp only [List.mem_cons, List.not_mem_nil, or_false] at hy
  have hge : s.heap.size ≤ W.heap.size := X.same.2.1
  rcases hy with rfl | rfl | rfl | rfl | rfl <;> exact hge
/-- the words of a machine's NullPointerException, but the four that speak of the heap -/
def vx_atN (n : Nat) : List Cond := (Bundle.npeArmAtoms n).filter vx_no
/-- the words of a machine's throw with a message, but the four that speak of the heap -/
def vx_atM (X : String) (names : List String) : List Cond := (Bundle.messageArmAtoms X names).filter vx_no
section
variable {p : Program} {l : Launch} {e : Env} {R : Room} {s : State} {m : MethodId} {args : Array Value} {below : List Frame} {meth : Method} {c : Code} {H : Heap} {locs : List Loc} {cells slots : Nat}
/-- a frame seen from a rebased start, seen from the first start again -/
theorem vx_back9 {T S : State} {R' : Room} {k n : Nat} (X : Stand p l e R s m args below meth c T locs cells slots) (Y : Stand p l e R' ((T.setVm s.vm).setFrames (.invoking m args :: below)) m args below meth c T [] 0 0) (Z : Stand p l e R' ((T.setVm s.vm).setFrames (.invoking m args :: below)) m args below meth c S [] k n) :
    Stand p l e R s m args below meth c S locs (cells + k) (slots + n) := by
  have hW0 : s.WarmedH ((T.setVm s.vm).setFrames (.invoking m args :: below)).vm := State.WarmedH.refl s
  refine { admits := X.admits, cas := X.cas, clock := X.clock, frames := X.frames, room := X.room, hears := X.hears, method := X.method, code := X.code, here := Z.here, tail := Z.tail, warmed := State.WarmedH.trans hW0 Z.warmed, limits := Z.limits.trans (Y.limits.symm.trans X.limits), bytes := Z.bytes.trans (Y.bytes.symm.trans X.bytes), same := ?_ }
  obtain ⟨e1, e2⟩ := Z.same
  rw [State.setFrames_setFrames] at e1
  have h2 : (T.setVm s.vm).sameButNew (S.setVm s.vm) [] k n := ⟨e1, e2⟩
  have h3 := X.same.trans h2
  rw [List.append_nil] at h3
  exact h3
/-- from the machine's note that E is thrown here with this text -/
def vx_Note (p : Program) (l : Launch) (e : Env) (R : Room) (s : State) (m : MethodId) (args : Array Value) (below : List Frame) (meth : Method) (c : Code) (H : Heap) (locs : List Loc) (cells slots : Nat) (Q : State → Prop) (g : JFrame) (E text : String) : Prop :=
  ∀ T : State, T.heap = H → Stand p l e R s m args below meth c T locs cells slots → ∃ t, Steps p.tables e below ((T.setTop g).pushFrame (.throwNew E (some text) none)) t ∧ Q t
theorem vx_vm {pc : Nat} {ls : Array Slot} {rest : List Value} {Q : State → Prop} (hexec : p.tables.exec = Jvm.exec) (hl : l.stackTraces = false) {cls text : String} {names : List String} {nb : Nat} {A : Nat → Prop}
    (hcls : Bundle.fit cls = true) (hnames : ∀ n ∈ names, Bundle.fit n = true) (hsoe : (cls == "java/lang/StackOverflowError") = false) (hoom : (cls == "java/lang/OutOfMemoryError") = false)
    (hat : ∀ w ∈ vx_atM cls names, w.before args s = true) (hgood : ∀ w ∈ vx_atM cls names, vx_ot w = true)
    (hU : vx_Zq Bundle.tN "UNASSIGNED_STACK" Bundle.steD A s s.heap) (hN : vx_Zq Bundle.tN "SUPPRESSED_SENTINEL" Bundle.listD A s s.heap) (hS : va_S A s.heap H locs) (hsize : ls.size = c.maxLocals)
    (htext : (text == notModelled) = false) (hnb : (stringBytes (stringToUtf16 text)).size ≤ nb) (hnb1 : nb ≤ 1000)
    (hRframes : names.length + 4 < R.frames) (hRlocals : (rest.map fun v => v.category).sum + 10240 ≤ R.locals) (hshort : 13 * names.length + 55 ≤ 10240) (hRcells : cells + 3 ≤ R.cells) (hRslots : slots + (nb + 10) ≤ R.slots) (hlocks : meth.locks = false)
    (k : ∀ (H1 : Heap) (q9 : Addr) (ce : Cell), H.size ≤ H1.size → (∀ q : Nat, q < H.size → H1[q]? = H[q]?) → va_S A s.heap H1 locs → H1[q9]? = some ce → ce.vm = .none → s.vm.findClass cls = some ce.cls → vx_W p l e R s m args below meth c H1 locs (cells + 3) (slots + (nb + 10)) Q (F0 m pc ls rest) q9) :
    vx_Note p l e R s m args below meth c H locs cells slots Q (F0 m pc ls rest) cls text := by
  intro T hT X
  have htr : e.platform.stackTraces = false := (show e.platform.stackTraces = l.stackTraces by rw [X.admits.platform]).trans hl
  have Y := vx_rebase X (R' := { frames := R.frames, locals := R.locals, cells := 3, slots := nb + 10 }) (Nat.le_refl _) (Nat.le_refl _) hRcells hRslots
  have hhp : ((T.setVm s.vm).setFrames (.invoking m args :: below)).heap = H := hT
  have hW0 : s.WarmedH ((T.setVm s.vm).setFrames (.invoking m args :: below)).vm := State.WarmedH.refl s
  have hat' : ∀ w ∈ vx_atM cls names, w.before args ((T.setVm s.vm).setFrames (.invoking m args :: below)) = true := fun w hw => vx_ot_at hW0 rfl (hgood w hw) (hat w hw)
  have hU' : vx_Zq Bundle.tN "UNASSIGNED_STACK" Bundle.steD A ((T.setVm s.vm).setFrames (.invoking m args :: below)) ((T.setVm s.vm).setFrames (.invoking m args :: below)).heap := by rw [hhp]; exact vx_Zq.moved hW0.alike (hU.kept hS.2.1)
  have hN' : vx_Zq Bundle.tN "SUPPRESSED_SENTINEL" Bundle.listD A ((T.setVm s.vm).setFrames (.invoking m args :: below)) ((T.setVm s.vm).setFrames (.invoking m args :: below)).heap := by rw [hhp]; exact vx_Zq.moved hW0.alike (hN.kept hS.2.1)
  obtain ⟨S, q, ce, st, Z, hce, hcl', hv⟩ := vx_vmAt Y hexec htr (cls := cls) (names := names) (text := text) hcls hnames hsoe hoom (vx_own hat' (vx_isRefq hU'.1) (vx_isRefq hN'.1) hU'.2.word hN'.2.word) (fun x hx => nomatch hx) htext
    (by rw [Launch.admits_arrayLengthLimit X.admits]; omega) (by rw [Launch.admits_maxHeapBytes X.admits]; simp only [componentBytes]; omega)
    (g := F0 m pc ls rest) rfl hsize hRframes (by show 2 * 0 + (rest.map fun v => v.category).sum + 10240 ≤ R.locals; omega) hshort (by show 0 + 3 ≤ 3; omega) (by show 0 + (_ + 4 + 6) ≤ nb + 10; omega) hlocks
  obtain ⟨f1, f2⟩ := vx_frame Z.same
  have f1' : H.size ≤ S.heap.size := by rw [← hT]; exact f1
  have f2' : ∀ q : Nat, q < H.size → S.heap[q]? = H[q]? := fun q hq => by
    rw [← hT]
    exact f2 q (by rw [← hT] at hq; exact hq) (fun z hz => nomatch hz)
  have X5 := vx_back9 X Y Z
  have X6 : Stand p l e R s m args below meth c S locs (cells + 3) (slots + (nb + 10)) := { X5 with same := X5.same.mono (by omega) (by omega) }
  obtain ⟨t, a1, b1⟩ := k S.heap q ce f1' f2' ⟨Nat.le_trans hS.1 f1', fun q h1 h2 => (f2' q (Nat.lt_of_lt_of_le h1 hS.1)).trans (hS.2.1 q h1 h2), hS.2.2⟩ hce hv hcl' S rfl X6
  exact ⟨t, st t a1, b1⟩
/-- from the machine's note that NullPointerException is thrown here -/
def vx_NoteN (p : Program) (l : Launch) (e : Env) (R : Room) (s : State) (m : MethodId) (args : Array Value) (below : List Frame) (meth : Method) (c : Code) (H : Heap) (locs : List Loc) (cells slots : Nat) (Q : State → Prop) (g : JFrame) : Prop :=
  ∀ T : State, T.heap = H → Stand p l e R s m args below meth c T locs cells slots → ∃ t, Steps p.tables e below ((T.setTop g).pushFrame (.throwNew "java/lang/NullPointerException" none none)) t ∧ Q t
theorem vx_npe {pc : Nat} {ls : Array Slot} {rest : List Value} {Q : State → Prop} (hexec : p.tables.exec = Jvm.exec) (hl : l.stackTraces = false) {nb : Nat} {A : Nat → Prop}
    (hat : ∀ w ∈ vx_atN nb, w.before args s = true) (hgood : ∀ w ∈ vx_atN nb, vx_ot w = true)
    (hU : vx_Zq Bundle.tN "UNASSIGNED_STACK" Bundle.steD A s s.heap) (hN : vx_Zq Bundle.tN "SUPPRESSED_SENTINEL" Bundle.listD A s s.heap) (hS : va_S A s.heap H locs) (hsize : ls.size = c.maxLocals)
    (hRframes : 7 < R.frames) (hRlocals : (rest.map fun v => v.category).sum + 10240 ≤ R.locals) (hRcells : cells + 1 ≤ R.cells) (hRslots : slots + nb ≤ R.slots) (hlocks : meth.locks = false)
    (k : ∀ (H1 : Heap) (q9 : Addr) (ce : Cell), H.size ≤ H1.size → (∀ q : Nat, q < H.size → H1[q]? = H[q]?) → va_S A s.heap H1 locs → H1[q9]? = some ce → ce.vm = .none → s.vm.findClass "java/lang/NullPointerException" = some ce.cls → vx_W p l e R s m args below meth c H1 locs (cells + 1) (slots + nb) Q (F0 m pc ls rest) q9) :
    vx_NoteN p l e R s m args below meth c H locs cells slots Q (F0 m pc ls rest) := by
  intro T hT X
  have htr : e.platform.stackTraces = false := (show e.platform.stackTraces = l.stackTraces by rw [X.admits.platform]).trans hl
  have Y := vx_rebase X (R' := { frames := R.frames, locals := R.locals, cells := 1, slots := nb }) (Nat.le_refl _) (Nat.le_refl _) hRcells hRslots
  have hhp : ((T.setVm s.vm).setFrames (.invoking m args :: below)).heap = H := hT
  have hW0 : s.WarmedH ((T.setVm s.vm).setFrames (.invoking m args :: below)).vm := State.WarmedH.refl s
  have hat' : ∀ w ∈ vx_atN nb, w.before args ((T.setVm s.vm).setFrames (.invoking m args :: below)) = true := fun w hw => vx_ot_at hW0 rfl (hgood w hw) (hat w hw)
  have hU' : vx_Zq Bundle.tN "UNASSIGNED_STACK" Bundle.steD A ((T.setVm s.vm).setFrames (.invoking m args :: below)) ((T.setVm s.vm).setFrames (.invoking m args :: below)).heap := by rw [hhp]; exact vx_Zq.moved hW0.alike (hU.kept hS.2.1)
  have hN' : vx_Zq Bundle.tN "SUPPRESSED_SENTINEL" Bundle.listD A ((T.setVm s.vm).setFrames (.invoking m args :: below)) ((T.setVm s.vm).setFrames (.invoking m args :: below)).heap := by rw [hhp]; exact vx_Zq.moved hW0.alike (hN.kept hS.2.1)
  obtain ⟨S, q, ce, st, Z, hce, hcl', hv⟩ := vx_npeAt Y hexec htr (n := nb) (vx_own hat' (vx_isRefq hU'.1) (vx_isRefq hN'.1) hU'.2.word hN'.2.word) (fun x hx => nomatch hx)
    (g := F0 m pc ls rest) rfl hsize hRframes (by show 2 * 0 + (rest.map fun v => v.category).sum + 10240 ≤ R.locals; omega) (by show 0 + 1 ≤ 1; omega) (by show 0 + nb ≤ nb; omega) hlocks
  obtain ⟨f1, f2⟩ := vx_frame Z.same
  have f1' : H.size ≤ S.heap.size := by rw [← hT]; exact f1
  have f2' : ∀ q : Nat, q < H.size → S.heap[q]? = H[q]? := fun q hq => by
    rw [← hT]
    exact f2 q (by rw [← hT] at hq; exact hq) (fun z hz => nomatch hz)
  have X5 := vx_back9 X Y Z
  have X6 : Stand p l e R s m args below meth c S locs (cells + 1) (slots + nb) := { X5 with same := X5.same.mono (by omega) (by omega) }
  obtain ⟨t, a1, b1⟩ := k S.heap q ce f1' f2' ⟨Nat.le_trans hS.1 f1', fun q h1 h2 => (f2' q (Nat.lt_of_lt_of_le h1 hS.1)).trans (hS.2.1 q h1 h2), hS.2.2⟩ hce hv hcl' S rfl X6
  exact ⟨t, st t a1, b1⟩
variable {Q : State → Prop} {cc : ByteArray} {pc : Nat} {ls : Array Slot} {rest : List Value}
theorem vx_idivZ (hexec : p.tables.exec = Jvm.exec) (hb : c.code = cc) {a b : Int32} (h0 : b = 0) (d : decode cc pc = .ok (.idiv, 1)) (k : vx_Note p l e R s m args below meth c H locs cells slots Q (F0 m pc ls rest) "java/lang/ArithmeticException" "/ by zero") :
    W p l e R s m args below meth c H locs cells slots Q (F0 m pc ls (.int b :: .int a :: rest)) := by
  intro T hT X
  obtain ⟨t, st, q⟩ := k T hT X
  exact ⟨t, X.idivZero hexec (g := F0 m pc ls (.int b :: .int a :: rest)) rfl (a := a) (rest := rest) (by rw [h0]) (by rw [hb]; exact d) t st, q⟩
theorem vx_iremZ (hexec : p.tables.exec = Jvm.exec) (hb : c.code = cc) {a b : Int32} (h0 : b = 0) (d : decode cc pc = .ok (.irem, 1)) (k : vx_Note p l e R s m args below meth c H locs cells slots Q (F0 m pc ls rest) "java/lang/ArithmeticException" "/ by zero") :
    W p l e R s m args below meth c H locs cells slots Q (F0 m pc ls (.int b :: .int a :: rest)) := by
  intro T hT X
  obtain ⟨t, st, q⟩ := k T hT X
  exact ⟨t, X.iremZero hexec (g := F0 m pc ls (.int b :: .int a :: rest)) rfl (a := a) (rest := rest) (by rw [h0]) (by rw [hb]; exact d) t st, q⟩
theorem vx_ldivZ (hexec : p.tables.exec = Jvm.exec) (hb : c.code = cc) {a b : Int64} (h0 : b = 0) (d : decode cc pc = .ok (.ldiv, 1)) (k : vx_Note p l e R s m args below meth c H locs cells slots Q (F0 m pc ls rest) "java/lang/ArithmeticException" "/ by zero") :
    W p l e R s m args below meth c H locs cells slots Q (F0 m pc ls (.long b :: .long a :: rest)) := by
  intro T hT X
  obtain ⟨t, st, q⟩ := k T hT X
  exact ⟨t, X.ldivZero hexec (g := F0 m pc ls (.long b :: .long a :: rest)) rfl (a := a) (rest := rest) (by rw [h0]) (by rw [hb]; exact d) t st, q⟩
theorem vx_lremZ (hexec : p.tables.exec = Jvm.exec) (hb : c.code = cc) {a b : Int64} (h0 : b = 0) (d : decode cc pc = .ok (.lrem, 1)) (k : vx_Note p l e R s m args below meth c H locs cells slots Q (F0 m pc ls rest) "java/lang/ArithmeticException" "/ by zero") :
    W p l e R s m args below meth c H locs cells slots Q (F0 m pc ls (.long b :: .long a :: rest)) := by
  intro T hT X
  obtain ⟨t, st, q⟩ := k T hT X
  exact ⟨t, X.lremZero hexec (g := F0 m pc ls (.long b :: .long a :: rest)) rfl (a := a) (rest := rest) (by rw [h0]) (by rw [hb]; exact d) t st, q⟩
theorem vx_ialdZ {D : va_G} {cl : List vw_C} {ws : va_W} {tys : List (ClassId × FieldType)} {a : Nat} (hexec : p.tables.exec = Jvm.exec) (hb : c.code = cc) (hK : va_K D cl tys s) (hP : va_P D cl ws H) (q0 t0 : Nat) {cA : ClassId} {n : Nat} {f : Nat → Int32} (ha : ws[q0]? = some (a, .inl (cA, n, .inl f))) (ht : tys[t0]? = some (cA, .int)) {i : Int32} (hout : ¬ vp_in i n) (hdg : decode cc pc = .ok (.iaload, 1))
    (k : ∀ tx : String, tx = (toString "Index " ++ toString i ++ toString " out of bounds for length " ++ toString n : String) → vx_Note p l e R s m args below meth c H locs cells slots Q (F0 m pc ls rest) "java/lang/ArrayIndexOutOfBoundsException" tx) : W p l e R s m args below meth c H locs cells slots Q (F0 m pc ls (.int i :: .ref a :: rest)) := by
  intro T hT X
  obtain ⟨t, st, q⟩ := k _ rfl T hT X
  refine ⟨t, ?_, q⟩
  have h1 := X.ialoadOut hexec (by rw [hT]; exact hP q0 _ ha) ((hK.2 t0 _ ht).1 n (fun j => .int (f j))) (j := i) (by show (i < 0 ∨ (arrV _ _ _).slots.size ≤ _); rw [arrV_size]; exact Classical.byContradiction hout) (g := F0 m pc ls (.int i :: .ref a :: rest)) rfl (rest := rest) rfl (by rw [hb]; exact hdg) t
  simp only [arrV_size] at h1
  exact h1 st
theorem vx_iastZ {D : va_G} {cl : List vw_C} {ws : va_W} {tys : List (ClassId × FieldType)} {a : Nat} (hexec : p.tables.exec = Jvm.exec) (hb : c.code = cc) (hK : va_K D cl tys s) (hP : va_P D cl ws H) (q0 t0 : Nat) {cA : ClassId} {n : Nat} {f : Nat → Int32} (ha : ws[q0]? = some (a, .inl (cA, n, .inl f))) (ht : tys[t0]? = some (cA, .int)) {i : Int32} {x : Int32} (hout : ¬ vp_in i n) (hdg : decode cc pc = .ok (.iastore, 1))
    (k : ∀ tx : String, tx = (toString "Index " ++ toString i ++ toString " out of bounds for length " ++ toString n : String) → vx_Note p l e R s m args below meth c H locs cells slots Q (F0 m pc ls rest) "java/lang/ArrayIndexOutOfBoundsException" tx) : W p l e R s m args below meth c H locs cells slots Q (F0 m pc ls (.int x :: .int i :: .ref a :: rest)) := by
  intro T hT X
  obtain ⟨t, st, q⟩ := k _ rfl T hT X
  refine ⟨t, ?_, q⟩
  have h1 := X.iastoreOut hexec (by rw [hT]; exact hP q0 _ ha) ((hK.2 t0 _ ht).1 n (fun j => .int (f j))) (j := i) (by show (i < 0 ∨ (arrV _ _ _).slots.size ≤ _); rw [arrV_size]; exact Classical.byContradiction hout) (g := F0 m pc ls (.int x :: .int i :: .ref a :: rest)) rfl (rest := rest) rfl (by rw [hb]; exact hdg) t
  simp only [arrV_size] at h1
  exact h1 st
theorem vx_baldZ {D : va_G} {cl : List vw_C} {ws : va_W} {tys : List (ClassId × FieldType)} {a : Nat} (hexec : p.tables.exec = Jvm.exec) (hb : c.code = cc) (hK : va_K D cl tys s) (hP : va_P D cl ws H) (q0 t0 : Nat) {cA : ClassId} {n : Nat} {f : Nat → Int32} (ha : ws[q0]? = some (a, .inl (cA, n, .inl f))) (ht : tys[t0]? = some (cA, .byte)) {i : Int32} (hout : ¬ vp_in i n) (hdg : decode cc pc = .ok (.baload, 1))
    (k : ∀ tx : String, tx = (toString "Index " ++ toString i ++ toString " out of bounds for length " ++ toString n : String) → vx_Note p l e R s m args below meth c H locs cells slots Q (F0 m pc ls rest) "java/lang/ArrayIndexOutOfBoundsException" tx) : W p l e R s m args below meth c H locs cells slots Q (F0 m pc ls (.int i :: .ref a :: rest)) := by
  intro T hT X
  obtain ⟨t, st, q⟩ := k _ rfl T hT X
  refine ⟨t, ?_, q⟩
  have h1 := X.baloadOut hexec (by rw [hT]; exact hP q0 _ ha) ((hK.2 t0 _ ht).1 n (fun j => .int (f j))) (j := i) (by show (i < 0 ∨ (arrV _ _ _).slots.size ≤ _); rw [arrV_size]; exact Classical.byContradiction hout) (g := F0 m pc ls (.int i :: .ref a :: rest)) rfl (rest := rest) rfl (by rw [hb]; exact hdg) t
  simp only [arrV_size] at h1
  exact h1 st
theorem vx_bastZ {D : va_G} {cl : List vw_C} {ws : va_W} {tys : List (ClassId × FieldType)} {a : Nat} (hexec : p.tables.exec = Jvm.exec) (hb : c.code = cc) (hK : va_K D cl tys s) (hP : va_P D cl ws H) (q0 t0 : Nat) {cA : ClassId} {n : Nat} {f : Nat → Int32} (ha : ws[q0]? = some (a, .inl (cA, n, .inl f))) (ht : tys[t0]? = some (cA, .byte)) {i : Int32} {x : Int32} (hout : ¬ vp_in i n) (hdg : decode cc pc = .ok (.bastore, 1))
    (k : ∀ tx : String, tx = (toString "Index " ++ toString i ++ toString " out of bounds for length " ++ toString n : String) → vx_Note p l e R s m args below meth c H locs cells slots Q (F0 m pc ls rest) "java/lang/ArrayIndexOutOfBoundsException" tx) : W p l e R s m args below meth c H locs cells slots Q (F0 m pc ls (.int x :: .int i :: .ref a :: rest)) := by
  intro T hT X
  obtain ⟨t, st, q⟩ := k _ rfl T hT X
  refine ⟨t, ?_, q⟩
  have h1 := X.bastoreOut hexec (by rw [hT]; exact hP q0 _ ha) ((hK.2 t0 _ ht).1 n (fun j => .int (f j))) (j := i) (by show (i < 0 ∨ (arrV _ _ _).slots.size ≤ _); rw [arrV_size]; exact Classical.byContradiction hout) (g := F0 m pc ls (.int x :: .int i :: .ref a :: rest)) rfl (rest := rest) rfl (by rw [hb]; exact hdg) t
  simp only [arrV_size] at h1
  exact h1 st
theorem vx_zaldZ {D : va_G} {cl : List vw_C} {ws : va_W} {tys : List (ClassId × FieldType)} {a : Nat} (hexec : p.tables.exec = Jvm.exec) (hb : c.code = cc) (hK : va_K D cl tys s) (hP : va_P D cl ws H) (q0 t0 : Nat) {cA : ClassId} {n : Nat} {f : Nat → Int32} (ha : ws[q0]? = some (a, .inl (cA, n, .inl f))) (ht : tys[t0]? = some (cA, .boolean)) {i : Int32} (hout : ¬ vp_in i n) (hdg : decode cc pc = .ok (.baload, 1))
    (k : ∀ tx : String, tx = (toString "Index " ++ toString i ++ toString " out of bounds for length " ++ toString n : String) → vx_Note p l e R s m args below meth c H locs cells slots Q (F0 m pc ls rest) "java/lang/ArrayIndexOutOfBoundsException" tx) : W p l e R s m args below meth c H locs cells slots Q (F0 m pc ls (.int i :: .ref a :: rest)) := by
  intro T hT X
  obtain ⟨t, st, q⟩ := k _ rfl T hT X
  refine ⟨t, ?_, q⟩
  have h1 := X.baloadOut hexec (by rw [hT]; exact hP q0 _ ha) ((hK.2 t0 _ ht).1 n (fun j => .int (f j))) (j := i) (by show (i < 0 ∨ (arrV _ _ _).slots.size ≤ _); rw [arrV_size]; exact Classical.byContradiction hout) (g := F0 m pc ls (.int i :: .ref a :: rest)) rfl (rest := rest) rfl (by rw [hb]; exact hdg) t
  simp only [arrV_size] at h1
  exact h1 st
theorem vx_zastZ {D : va_G} {cl : List vw_C} {ws : va_W} {tys : List (ClassId × FieldType)} {a : Nat} (hexec : p.tables.exec = Jvm.exec) (hb : c.code = cc) (hK : va_K D cl tys s) (hP : va_P D cl ws H) (q0 t0 : Nat) {cA : ClassId} {n : Nat} {f : Nat → Int32} (ha : ws[q0]? = some (a, .inl (cA, n, .inl f))) (ht : tys[t0]? = some (cA, .boolean)) {i : Int32} {x : Int32} (hout : ¬ vp_in i n) (hdg : decode cc pc = .ok (.bastore, 1))
    (k : ∀ tx : String, tx = (toString "Index " ++ toString i ++ toString " out of bounds for length " ++ toString n : String) → vx_Note p l e R s m args below meth c H locs cells slots Q (F0 m pc ls rest) "java/lang/ArrayIndexOutOfBoundsException" tx) : W p l e R s m args below meth c H locs cells slots Q (F0 m pc ls (.int x :: .int i :: .ref a :: rest)) := by
  intro T hT X
  obtain ⟨t, st, q⟩ := k _ rfl T hT X
  refine ⟨t, ?_, q⟩
  have h1 := X.bastoreOut hexec (by rw [hT]; exact hP q0 _ ha) ((hK.2 t0 _ ht).1 n (fun j => .int (f j))) (j := i) (by show (i < 0 ∨ (arrV _ _ _).slots.size ≤ _); rw [arrV_size]; exact Classical.byContradiction hout) (g := F0 m pc ls (.int x :: .int i :: .ref a :: rest)) rfl (rest := rest) rfl (by rw [hb]; exact hdg) t
  simp only [arrV_size] at h1
  exact h1 st
theorem vx_caldZ {D : va_G} {cl : List vw_C} {ws : va_W} {tys : List (ClassId × FieldType)} {a : Nat} (hexec : p.tables.exec = Jvm.exec) (hb : c.code = cc) (hK : va_K D cl tys s) (hP : va_P D cl ws H) (q0 t0 : Nat) {cA : ClassId} {n : Nat} {f : Nat → Int32} (ha : ws[q0]? = some (a, .inl (cA, n, .inl f))) (ht : tys[t0]? = some (cA, .char)) {i : Int32} (hout : ¬ vp_in i n) (hdg : decode cc pc = .ok (.caload, 1))
    (k : ∀ tx : String, tx = (toString "Index " ++ toString i ++ toString " out of bounds for length " ++ toString n : String) → vx_Note p l e R s m args below meth c H locs cells slots Q (F0 m pc ls rest) "java/lang/ArrayIndexOutOfBoundsException" tx) : W p l e R s m args below meth c H locs cells slots Q (F0 m pc ls (.int i :: .ref a :: rest)) := by
  intro T hT X
  obtain ⟨t, st, q⟩ := k _ rfl T hT X
  refine ⟨t, ?_, q⟩
  have h1 := X.caloadOut hexec (by rw [hT]; exact hP q0 _ ha) ((hK.2 t0 _ ht).1 n (fun j => .int (f j))) (j := i) (by show (i < 0 ∨ (arrV _ _ _).slots.size ≤ _); rw [arrV_size]; exact Classical.byContradiction hout) (g := F0 m pc ls (.int i :: .ref a :: rest)) rfl (rest := rest) rfl (by rw [hb]; exact hdg) t
  simp only [arrV_size] at h1
  exact h1 st
theorem vx_castZ {D : va_G} {cl : List vw_C} {ws : va_W} {tys : List (ClassId × FieldType)} {a : Nat} (hexec : p.tables.exec = Jvm.exec) (hb : c.code = cc) (hK : va_K D cl tys s) (hP : va_P D cl ws H) (q0 t0 : Nat) {cA : ClassId} {n : Nat} {f : Nat → Int32} (ha : ws[q0]? = some (a, .inl (cA, n, .inl f))) (ht : tys[t0]? = some (cA, .char)) {i : Int32} {x : Int32} (hout : ¬ vp_in i n) (hdg : decode cc pc = .ok (.castore, 1))
    (k : ∀ tx : String, tx = (toString "Index " ++ toString i ++ toString " out of bounds for length " ++ toString n : String) → vx_Note p l e R s m args below meth c H locs cells slots Q (F0 m pc ls rest) "java/lang/ArrayIndexOutOfBoundsException" tx) : W p l e R s m args below meth c H locs cells slots Q (F0 m pc ls (.int x :: .int i :: .ref a :: rest)) := by
  intro T hT X
  obtain ⟨t, st, q⟩ := k _ rfl T hT X
  refine ⟨t, ?_, q⟩
  have h1 := X.castoreOut hexec (by rw [hT]; exact hP q0 _ ha) ((hK.2 t0 _ ht).1 n (fun j => .int (f j))) (j := i) (by show (i < 0 ∨ (arrV _ _ _).slots.size ≤ _); rw [arrV_size]; exact Classical.byContradiction hout) (g := F0 m pc ls (.int x :: .int i :: .ref a :: rest)) rfl (rest := rest) rfl (by rw [hb]; exact hdg) t
  simp only [arrV_size] at h1
  exact h1 st
theorem vx_saldZ {D : va_G} {cl : List vw_C} {ws : va_W} {tys : List (ClassId × FieldType)} {a : Nat} (hexec : p.tables.exec = Jvm.exec) (hb : c.code = cc) (hK : va_K D cl tys s) (hP : va_P D cl ws H) (q0 t0 : Nat) {cA : ClassId} {n : Nat} {f : Nat → Int32} (ha : ws[q0]? = some (a, .inl (cA, n, .inl f))) (ht : tys[t0]? = some (cA, .short)) {i : Int32} (hout : ¬ vp_in i n) (hdg : decode cc pc = .ok (.saload, 1))
    (k : ∀ tx : String, tx = (toString "Index " ++ toString i ++ toString " out of bounds for length " ++ toString n : String) → vx_Note p l e R s m args below meth c H locs cells slots Q (F0 m pc ls rest) "java/lang/ArrayIndexOutOfBoundsException" tx) : W p l e R s m args below meth c H locs cells slots Q (F0 m pc ls (.int i :: .ref a :: rest)) := by
  intro T hT X
  obtain ⟨t, st, q⟩ := k _ rfl T hT X
  refine ⟨t, ?_, q⟩
  have h1 := X.saloadOut hexec (by rw [hT]; exact hP q0 _ ha) ((hK.2 t0 _ ht).1 n (fun j => .int (f j))) (j := i) (by show (i < 0 ∨ (arrV _ _ _).slots.size ≤ _); rw [arrV_size]; exact Classical.byContradiction hout) (g := F0 m pc ls (.int i :: .ref a :: rest)) rfl (rest := rest) rfl (by rw [hb]; exact hdg) t
  simp only [arrV_size] at h1
  exact h1 st
theorem vx_sastZ {D : va_G} {cl : List vw_C} {ws : va_W} {tys : List (ClassId × FieldType)} {a : Nat} (hexec : p.tables.exec = Jvm.exec) (hb : c.code = cc) (hK : va_K D cl tys s) (hP : va_P D cl ws H) (q0 t0 : Nat) {cA : ClassId} {n : Nat} {f : Nat → Int32} (ha : ws[q0]? = some (a, .inl (cA, n, .inl f))) (ht : tys[t0]? = some (cA, .short)) {i : Int32} {x : Int32} (hout : ¬ vp_in i n) (hdg : decode cc pc = .ok (.sastore, 1))
    (k : ∀ tx : String, tx = (toString "Index " ++ toString i ++ toString " out of bounds for length " ++ toString n : String) → vx_Note p l e R s m args below meth c H locs cells slots Q (F0 m pc ls rest) "java/lang/ArrayIndexOutOfBoundsException" tx) : W p l e R s m args below meth c H locs cells slots Q (F0 m pc ls (.int x :: .int i :: .ref a :: rest)) := by
  intro T hT X
  obtain ⟨t, st, q⟩ := k _ rfl T hT X
  refine ⟨t, ?_, q⟩
  have h1 := X.sastoreOut hexec (by rw [hT]; exact hP q0 _ ha) ((hK.2 t0 _ ht).1 n (fun j => .int (f j))) (j := i) (by show (i < 0 ∨ (arrV _ _ _).slots.size ≤ _); rw [arrV_size]; exact Classical.byContradiction hout) (g := F0 m pc ls (.int x :: .int i :: .ref a :: rest)) rfl (rest := rest) rfl (by rw [hb]; exact hdg) t
  simp only [arrV_size] at h1
  exact h1 st
theorem vx_laldZ {D : va_G} {cl : List vw_C} {ws : va_W} {tys : List (ClassId × FieldType)} {a : Nat} (hexec : p.tables.exec = Jvm.exec) (hb : c.code = cc) (hK : va_K D cl tys s) (hP : va_P D cl ws H) (q0 t0 : Nat) {cA : ClassId} {n : Nat} {f : Nat → Int64} (ha : ws[q0]? = some (a, .inl (cA, n, .inr (.inl f)))) (ht : tys[t0]? = some (cA, .long)) {i : Int32} (hout : ¬ vp_in i n) (hdg : decode cc pc = .ok (.laload, 1))
    (k : ∀ tx : String, tx = (toString "Index " ++ toString i ++ toString " out of bounds for length " ++ toString n : String) → vx_Note p l e R s m args below meth c H locs cells slots Q (F0 m pc ls rest) "java/lang/ArrayIndexOutOfBoundsException" tx) : W p l e R s m args below meth c H locs cells slots Q (F0 m pc ls (.int i :: .ref a :: rest)) := by
  intro T hT X
  obtain ⟨t, st, q⟩ := k _ rfl T hT X
  refine ⟨t, ?_, q⟩
  have h1 := X.laloadOut hexec (by rw [hT]; exact hP q0 _ ha) ((hK.2 t0 _ ht).1 n (fun j => .long (f j))) (j := i) (by show (i < 0 ∨ (arrV _ _ _).slots.size ≤ _); rw [arrV_size]; exact Classical.byContradiction hout) (g := F0 m pc ls (.int i :: .ref a :: rest)) rfl (rest := rest) rfl (by rw [hb]; exact hdg) t
  simp only [arrV_size] at h1
  exact h1 st
theorem vx_lastZ {D : va_G} {cl : List vw_C} {ws : va_W} {tys : List (ClassId × FieldType)} {a : Nat} (hexec : p.tables.exec = Jvm.exec) (hb : c.code = cc) (hK : va_K D cl tys s) (hP : va_P D cl ws H) (q0 t0 : Nat) {cA : ClassId} {n : Nat} {f : Nat → Int64} (ha : ws[q0]? = some (a, .inl (cA, n, .inr (.inl f)))) (ht : tys[t0]? = some (cA, .long)) {i : Int32} {x : Int64} (hout : ¬ vp_in i n) (hdg : decode cc pc = .ok (.lastore, 1))
    (k : ∀ tx : String, tx = (toString "Index " ++ toString i ++ toString " out of bounds for length " ++ toString n : String) → vx_Note p l e R s m args below meth c H locs cells slots Q (F0 m pc ls rest) "java/lang/ArrayIndexOutOfBoundsException" tx) : W p l e R s m args below meth c H locs cells slots Q (F0 m pc ls (.long x :: .int i :: .ref a :: rest)) := by
  intro T hT X
  obtain ⟨t, st, q⟩ := k _ rfl T hT X
  refine ⟨t, ?_, q⟩
  have h1 := X.lastoreOut hexec (by rw [hT]; exact hP q0 _ ha) ((hK.2 t0 _ ht).1 n (fun j => .long (f j))) (j := i) (by show (i < 0 ∨ (arrV _ _ _).slots.size ≤ _); rw [arrV_size]; exact Classical.byContradiction hout) (g := F0 m pc ls (.long x :: .int i :: .ref a :: rest)) rfl (rest := rest) rfl (by rw [hb]; exact hdg) t
  simp only [arrV_size] at h1
  exact h1 st
theorem vx_faldZ {D : va_G} {cl : List vw_C} {ws : va_W} {tys : List (ClassId × FieldType)} {a : Nat} (hexec : p.tables.exec = Jvm.exec) (hb : c.code = cc) (hK : va_K D cl tys s) (hP : va_P D cl ws H) (q0 t0 : Nat) {cA : ClassId} {n : Nat} {f : Nat → UInt32} (ha : ws[q0]? = some (a, .inl (cA, n, .inr (.inr (.inl f))))) (ht : tys[t0]? = some (cA, .float)) {i : Int32} (hout : ¬ vp_in i n) (hdg : decode cc pc = .ok (.faload, 1))
    (k : ∀ tx : String, tx = (toString "Index " ++ toString i ++ toString " out of bounds for length " ++ toString n : String) → vx_Note p l e R s m args below meth c H locs cells slots Q (F0 m pc ls rest) "java/lang/ArrayIndexOutOfBoundsException" tx) : W p l e R s m args below meth c H locs cells slots Q (F0 m pc ls (.int i :: .ref a :: rest)) := by
  intro T hT X
  obtain ⟨t, st, q⟩ := k _ rfl T hT X
  refine ⟨t, ?_, q⟩
  have h1 := X.faloadOut hexec (by rw [hT]; exact hP q0 _ ha) ((hK.2 t0 _ ht).1 n (fun j => .float (f j))) (j := i) (by show (i < 0 ∨ (arrV _ _ _).slots.size ≤ _); rw [arrV_size]; exact Classical.byContradiction hout) (g := F0 m pc ls (.int i :: .ref a :: rest)) rfl (rest := rest) rfl (by rw [hb]; exact hdg) t
  simp only [arrV_size] at h1
  exact h1 st
theorem vx_fastZ {D : va_G} {cl : List vw_C} {ws : va_W} {tys : List (ClassId × FieldType)} {a : Nat} (hexec : p.tables.exec = Jvm.exec) (hb : c.code = cc) (hK : va_K D cl tys s) (hP : va_P D cl ws H) (q0 t0 : Nat) {cA : ClassId} {n : Nat} {f : Nat → UInt32} (ha : ws[q0]? = some (a, .inl (cA, n, .inr (.inr (.inl f))))) (ht : tys[t0]? = some (cA, .float)) {i : Int32} {x : UInt32} (hout : ¬ vp_in i n) (hdg : decode cc pc = .ok (.fastore, 1))
    (k : ∀ tx : String, tx = (toString "Index " ++ toString i ++ toString " out of bounds for length " ++ toString n : String) → vx_Note p l e R s m args below meth c H locs cells slots Q (F0 m pc ls rest) "java/lang/ArrayIndexOutOfBoundsException" tx) : W p l e R s m args below meth c H locs cells slots Q (F0 m pc ls (.float x :: .int i :: .ref a :: rest)) := by
  intro T hT X
  obtain ⟨t, st, q⟩ := k _ rfl T hT X
  refine ⟨t, ?_, q⟩
  have h1 := X.fastoreOut hexec (by rw [hT]; exact hP q0 _ ha) ((hK.2 t0 _ ht).1 n (fun j => .float (f j))) (j := i) (by show (i < 0 ∨ (arrV _ _ _).slots.size ≤ _); rw [arrV_size]; exact Classical.byContradiction hout) (g := F0 m pc ls (.float x :: .int i :: .ref a :: rest)) rfl (rest := rest) rfl (by rw [hb]; exact hdg) t
  simp only [arrV_size] at h1
  exact h1 st
theorem vx_daldZ {D : va_G} {cl : List vw_C} {ws : va_W} {tys : List (ClassId × FieldType)} {a : Nat} (hexec : p.tables.exec = Jvm.exec) (hb : c.code = cc) (hK : va_K D cl tys s) (hP : va_P D cl ws H) (q0 t0 : Nat) {cA : ClassId} {n : Nat} {f : Nat → UInt64} (ha : ws[q0]? = some (a, .inl (cA, n, .inr (.inr (.inr (.inl f)))))) (ht : tys[t0]? = some (cA, .double)) {i : Int32} (hout : ¬ vp_in i n) (hdg : decode cc pc = .ok (.daload, 1))
    (k : ∀ tx : String, tx = (toString "Index " ++ toString i ++ toString " out of bounds for length " ++ toString n : String) → vx_Note p l e R s m args below meth c H locs cells slots Q (F0 m pc ls rest) "java/lang/ArrayIndexOutOfBoundsException" tx) : W p l e R s m args below meth c H locs cells slots Q (F0 m pc ls (.int i :: .ref a :: rest)) := by
  intro T hT X
  obtain ⟨t, st, q⟩ := k _ rfl T hT X
  refine ⟨t, ?_, q⟩
  have h1 := X.daloadOut hexec (by rw [hT]; exact hP q0 _ ha) ((hK.2 t0 _ ht).1 n (fun j => .double (f j))) (j := i) (by show (i < 0 ∨ (arrV _ _ _).slots.size ≤ _); rw [arrV_size]; exact Classical.byContradiction hout) (g := F0 m pc ls (.int i :: .ref a :: rest)) rfl (rest := rest) rfl (by rw [hb]; exact hdg) t
  simp only [arrV_size] at h1
  exact h1 st
theorem vx_dastZ {D : va_G} {cl : List vw_C} {ws : va_W} {tys : List (ClassId × FieldType)} {a : Nat} (hexec : p.tables.exec = Jvm.exec) (hb : c.code = cc) (hK : va_K D cl tys s) (hP : va_P D cl ws H) (q0 t0 : Nat) {cA : ClassId} {n : Nat} {f : Nat → UInt64} (ha : ws[q0]? = some (a, .inl (cA, n, .inr (.inr (.inr (.inl f)))))) (ht : tys[t0]? = some (cA, .double)) {i : Int32} {x : UInt64} (hout : ¬ vp_in i n) (hdg : decode cc pc = .ok (.dastore, 1))
    (k : ∀ tx : String, tx = (toString "Index " ++ toString i ++ toString " out of bounds for length " ++ toString n : String) → vx_Note p l e R s m args below meth c H locs cells slots Q (F0 m pc ls rest) "java/lang/ArrayIndexOutOfBoundsException" tx) : W p l e R s m args below meth c H locs cells slots Q (F0 m pc ls (.double x :: .int i :: .ref a :: rest)) := by
  intro T hT X
  obtain ⟨t, st, q⟩ := k _ rfl T hT X
  refine ⟨t, ?_, q⟩
  have h1 := X.dastoreOut hexec (by rw [hT]; exact hP q0 _ ha) ((hK.2 t0 _ ht).1 n (fun j => .double (f j))) (j := i) (by show (i < 0 ∨ (arrV _ _ _).slots.size ≤ _); rw [arrV_size]; exact Classical.byContradiction hout) (g := F0 m pc ls (.double x :: .int i :: .ref a :: rest)) rfl (rest := rest) rfl (by rw [hb]; exact hdg) t
  simp only [arrV_size] at h1
  exact h1 st
theorem vx_arraylengthN (hexec : p.tables.exec = Jvm.exec) (hb : c.code = cc) (hdg : decode cc pc = .ok (.arraylength, 1)) (k : vx_NoteN p l e R s m args below meth c H locs cells slots Q (F0 m pc ls rest)) : W p l e R s m args below meth c H locs cells slots Q (F0 m pc ls (.null :: rest)) := by
  intro T hT X
  obtain ⟨t, st, q⟩ := k T hT X
  exact ⟨t, X.arraylengthNull hexec (g := F0 m pc ls (.null :: rest)) rfl (rest := rest) rfl (by rw [hb]; exact hdg) t st, q⟩
theorem vx_ialoadN (hexec : p.tables.exec = Jvm.exec) (hb : c.code = cc) {i : Int32} (hdg : decode cc pc = .ok (.iaload, 1)) (k : vx_NoteN p l e R s m args below meth c H locs cells slots Q (F0 m pc ls rest)) : W p l e R s m args below meth c H locs cells slots Q (F0 m pc ls (.int i :: .null :: rest)) := by
  intro T hT X
  obtain ⟨t, st, q⟩ := k T hT X
  exact ⟨t, X.ialoadNull hexec (g := F0 m pc ls (.int i :: .null :: rest)) rfl (rest := rest) rfl (by rw [hb]; exact hdg) t st, q⟩
theorem vx_laloadN (hexec : p.tables.exec = Jvm.exec) (hb : c.code = cc) {i : Int32} (hdg : decode cc pc = .ok (.laload, 1)) (k : vx_NoteN p l e R s m args below meth c H locs cells slots Q (F0 m pc ls rest)) : W p l e R s m args below meth c H locs cells slots Q (F0 m pc ls (.int i :: .null :: rest)) := by
  intro T hT X
  obtain ⟨t, st, q⟩ := k T hT X
  exact ⟨t, X.laloadNull hexec (g := F0 m pc ls (.int i :: .null :: rest)) rfl (rest := rest) rfl (by rw [hb]; exact hdg) t st, q⟩
theorem vx_faloadN (hexec : p.tables.exec = Jvm.exec) (hb : c.code = cc) {i : Int32} (hdg : decode cc pc = .ok (.faload, 1)) (k : vx_NoteN p l e R s m args below meth c H locs cells slots Q (F0 m pc ls rest)) : W p l e R s m args below meth c H locs cells slots Q (F0 m pc ls (.int i :: .null :: rest)) := by
  intro T hT X
  obtain ⟨t, st, q⟩ := k T hT X
  exact ⟨t, X.faloadNull hexec (g := F0 m pc ls (.int i :: .null :: rest)) rfl (rest := rest) rfl (by rw [hb]; exact hdg) t st, q⟩
theorem vx_daloadN (hexec : p.tables.exec = Jvm.exec) (hb : c.code = cc) {i : Int32} (hdg : decode cc pc = .ok (.daload, 1)) (k : vx_NoteN p l e R s m args below meth c H locs cells slots Q (F0 m pc ls rest)) : W p l e R s m args below meth c H locs cells slots Q (F0 m pc ls (.int i :: .null :: rest)) := by
  intro T hT X
  obtain ⟨t, st, q⟩ := k T hT X
  exact ⟨t, X.daloadNull hexec (g := F0 m pc ls (.int i :: .null :: rest)) rfl (rest := rest) rfl (by rw [hb]; exact hdg) t st, q⟩
theorem vx_aaloadN (hexec : p.tables.exec = Jvm.exec) (hb : c.code = cc) {i : Int32} (hdg : decode cc pc = .ok (.aaload, 1)) (k : vx_NoteN p l e R s m args below meth c H locs cells slots Q (F0 m pc ls rest)) : W p l e R s m args below meth c H locs cells slots Q (F0 m pc ls (.int i :: .null :: rest)) := by
  intro T hT X
  obtain ⟨t, st, q⟩ := k T hT X
  exact ⟨t, X.aaloadNull hexec (g := F0 m pc ls (.int i :: .null :: rest)) rfl (rest := rest) rfl (by rw [hb]; exact hdg) t st, q⟩
theorem vx_baloadN (hexec : p.tables.exec = Jvm.exec) (hb : c.code = cc) {i : Int32} (hdg : decode cc pc = .ok (.baload, 1)) (k : vx_NoteN p l e R s m args below meth c H locs cells slots Q (F0 m pc ls rest)) : W p l e R s m args below meth c H locs cells slots Q (F0 m pc ls (.int i :: .null :: rest)) := by
  intro T hT X
  obtain ⟨t, st, q⟩ := k T hT X
  exact ⟨t, X.baloadNull hexec (g := F0 m pc ls (.int i :: .null :: rest)) rfl (rest := rest) rfl (by rw [hb]; exact hdg) t st, q⟩
theorem vx_caloadN (hexec : p.tables.exec = Jvm.exec) (hb : c.code = cc) {i : Int32} (hdg : decode cc pc = .ok (.caload, 1)) (k : vx_NoteN p l e R s m args below meth c H locs cells slots Q (F0 m pc ls rest)) : W p l e R s m args below meth c H locs cells slots Q (F0 m pc ls (.int i :: .null :: rest)) := by
  intro T hT X
  obtain ⟨t, st, q⟩ := k T hT X
  exact ⟨t, X.caloadNull hexec (g := F0 m pc ls (.int i :: .null :: rest)) rfl (rest := rest) rfl (by rw [hb]; exact hdg) t st, q⟩
theorem vx_saloadN (hexec : p.tables.exec = Jvm.exec) (hb : c.code = cc) {i : Int32} (hdg : decode cc pc = .ok (.saload, 1)) (k : vx_NoteN p l e R s m args below meth c H locs cells slots Q (F0 m pc ls rest)) : W p l e R s m args below meth c H locs cells slots Q (F0 m pc ls (.int i :: .null :: rest)) := by
  intro T hT X
  obtain ⟨t, st, q⟩ := k T hT X
  exact ⟨t, X.saloadNull hexec (g := F0 m pc ls (.int i :: .null :: rest)) rfl (rest := rest) rfl (by rw [hb]; exact hdg) t st, q⟩
theorem vx_iastoreN (hexec : p.tables.exec = Jvm.exec) (hb : c.code = cc) {x : Int32} {i : Int32} (hdg : decode cc pc = .ok (.iastore, 1)) (k : vx_NoteN p l e R s m args below meth c H locs cells slots Q (F0 m pc ls rest)) : W p l e R s m args below meth c H locs cells slots Q (F0 m pc ls (.int x :: .int i :: .null :: rest)) := by
  intro T hT X
  obtain ⟨t, st, q⟩ := k T hT X
  exact ⟨t, X.iastoreNull hexec (g := F0 m pc ls (.int x :: .int i :: .null :: rest)) rfl (rest := rest) rfl (by rw [hb]; exact hdg) t st, q⟩
theorem vx_lastoreN (hexec : p.tables.exec = Jvm.exec) (hb : c.code = cc) {x : Int64} {i : Int32} (hdg : decode cc pc = .ok (.lastore, 1)) (k : vx_NoteN p l e R s m args below meth c H locs cells slots Q (F0 m pc ls rest)) : W p l e R s m args below meth c H locs cells slots Q (F0 m pc ls (.long x :: .int i :: .null :: rest)) := by
  intro T hT X
  obtain ⟨t, st, q⟩ := k T hT X
  exact ⟨t, X.lastoreNull hexec (g := F0 m pc ls (.long x :: .int i :: .null :: rest)) rfl (rest := rest) rfl (by rw [hb]; exact hdg) t st, q⟩
theorem vx_fastoreN (hexec : p.tables.exec = Jvm.exec) (hb : c.code = cc) {x : UInt32} {i : Int32} (hdg : decode cc pc = .ok (.fastore, 1)) (k : vx_NoteN p l e R s m args below meth c H locs cells slots Q (F0 m pc ls rest)) : W p l e R s m args below meth c H locs cells slots Q (F0 m pc ls (.float x :: .int i :: .null :: rest)) := by
  intro T hT X
  obtain ⟨t, st, q⟩ := k T hT X
  exact ⟨t, X.fastoreNull hexec (g := F0 m pc ls (.float x :: .int i :: .null :: rest)) rfl (rest := rest) rfl (by rw [hb]; exact hdg) t st, q⟩
theorem vx_dastoreN (hexec : p.tables.exec = Jvm.exec) (hb : c.code = cc) {x : UInt64} {i : Int32} (hdg : decode cc pc = .ok (.dastore, 1)) (k : vx_NoteN p l e R s m args below meth c H locs cells slots Q (F0 m pc ls rest)) : W p l e R s m args below meth c H locs cells slots Q (F0 m pc ls (.double x :: .int i :: .null :: rest)) := by
  intro T hT X
  obtain ⟨t, st, q⟩ := k T hT X
  exact ⟨t, X.dastoreNull hexec (g := F0 m pc ls (.double x :: .int i :: .null :: rest)) rfl (rest := rest) rfl (by rw [hb]; exact hdg) t st, q⟩
theorem vx_bastoreN (hexec : p.tables.exec = Jvm.exec) (hb : c.code = cc) {x : Int32} {i : Int32} (hdg : decode cc pc = .ok (.bastore, 1)) (k : vx_NoteN p l e R s m args below meth c H locs cells slots Q (F0 m pc ls rest)) : W p l e R s m args below meth c H locs cells slots Q (F0 m pc ls (.int x :: .int i :: .null :: rest)) := by
  intro T hT X
  obtain ⟨t, st, q⟩ := k T hT X
  exact ⟨t, X.bastoreNull hexec (g := F0 m pc ls (.int x :: .int i :: .null :: rest)) rfl (rest := rest) rfl (by rw [hb]; exact hdg) t st, q⟩
theorem vx_castoreN (hexec : p.tables.exec = Jvm.exec) (hb : c.code = cc) {x : Int32} {i : Int32} (hdg : decode cc pc = .ok (.castore, 1)) (k : vx_NoteN p l e R s m args below meth c H locs cells slots Q (F0 m pc ls rest)) : W p l e R s m args below meth c H locs cells slots Q (F0 m pc ls (.int x :: .int i :: .null :: rest)) := by
  intro T hT X
  obtain ⟨t, st, q⟩ := k T hT X
  exact ⟨t, X.castoreNull hexec (g := F0 m pc ls (.int x :: .int i :: .null :: rest)) rfl (rest := rest) rfl (by rw [hb]; exact hdg) t st, q⟩
theorem vx_sastoreN (hexec : p.tables.exec = Jvm.exec) (hb : c.code = cc) {x : Int32} {i : Int32} (hdg : decode cc pc = .ok (.sastore, 1)) (k : vx_NoteN p l e R s m args below meth c H locs cells slots Q (F0 m pc ls rest)) : W p l e R s m args below meth c H locs cells slots Q (F0 m pc ls (.int x :: .int i :: .null :: rest)) := by
  intro T hT X
  obtain ⟨t, st, q⟩ := k T hT X
  exact ⟨t, X.sastoreNull hexec (g := F0 m pc ls (.int x :: .int i :: .null :: rest)) rfl (rest := rest) rfl (by rw [hb]; exact hdg) t st, q⟩
theorem vx_invokeN {own C : String} {index maxL : Nat} {y : MethodName} {bytes : ByteArray} {ret : Option FieldType} (hexec : p.tables.exec = Jvm.exec) (hb : c.code = cc) (hown : s.vm.findClass own = some m.cls) (hlink : (Cond.methodLink own index y).before args s = true) (hinst : (Cond.instanceMethod y).before args s = true) (hcode : (Cond.code y bytes maxL ret).before args s = true) (hsel : (Cond.selects C y y).before args s = true)
    (hx : y.cls ≠ "java/lang/invoke/MethodHandle" ∧ y.cls ≠ "java/lang/invoke/VarHandle") {As : List Value} (hlen : (parseMethodDescriptor y.desc).map (fun d => d.parameters.length) = some As.length) (hdg : decode cc pc = .ok (.invokevirtual index, 3))
    (k : vx_NoteN p l e R s m args below meth c H locs cells slots Q (F0 m pc ls rest)) {st0 : List Value} (hst : st0 = As.reverse ++ .null :: rest) : W p l e R s m args below meth c H locs cells slots Q (F0 m pc ls st0) := by
  intro T hT X
  obtain ⟨r0, r, hn, hrm, hstR, hsigR⟩ := va_Decl.of hinst hcode
  obtain ⟨c2, r2, m2, q1, q2, q3, q4, kP, hkP, hkPi⟩ := Cond.selects_spec hsel
  cases hn.symm.trans q3
  have hl9 : As.length = r.sig.parameters.length := by
    rw [hsigR] at hlen
    exact (Option.some.inj hlen).symm
  obtain ⟨vm', X1, st1⟩ := X.invokevirtualNull hexec hown hlink hn hrm hstR hkP hkPi hx (g := F0 m pc ls st0) rfl (argsL := As) (rest := rest) hl9 hst (by rw [hb]; exact hdg)
  obtain ⟨t, st, q⟩ := k (T.setVm vm') hT X1
  exact ⟨t, st1 t st, q⟩
theorem vx_newarrayZ {atype : ArrayType} (hexec : p.tables.exec = Jvm.exec) (hb : c.code = cc) {n : Int32} (h0 : n < 0) (hdg : decode cc pc = .ok (.newarray atype, 2)) (k : ∀ tx : String, tx = toString n → vx_Note p l e R s m args below meth c H locs cells slots Q (F0 m pc ls rest) "java/lang/NegativeArraySizeException" tx) : W p l e R s m args below meth c H locs cells slots Q (F0 m pc ls (.int n :: rest)) := by
  intro T hT X
  obtain ⟨t, st, q⟩ := k _ rfl T hT X
  exact ⟨t, X.newarrayNegative hexec (g := F0 m pc ls (.int n :: rest)) rfl h0 (rest := rest) rfl (by rw [hb]; exact hdg) t st, q⟩
end
end VXM
/-! ===== END ===== -/
end
section

/-! ===== BEGIN printed: names, fields, word lists, decode rows ===== -/
def RX0 : String := "Feedloom$Devices"
def TX0 : u_T := fun k => match k with
  | 0 => ("Feedloom$Devices", "count", "I", false)
  | 1 => ("Feedloom$Devices", "versionCounts", "[I", true)
  | _ => ("Feedloom$Devices", "majors", "[I", true)
def tyX0 : Nat → FieldType := fun k => match k with
  | 0 => .int
  | 1 => .array .int
  | _ => .array .int
abbrev wsX00 : List Cond := u_ws RX0 TX0 3
theorem nmX0 : ∀ a, a < 3 → ∀ b, b < 3 → a ≠ b → (TX0 a).2.1 ≠ (TX0 b).2.1 := by decide +kernel
theorem tyX0_ok : ∀ k, k < 3 → parseFieldDescriptor (TX0 k).2.2.1 = some (tyX0 k) := by decide +kernel
abbrev cX0_init : ByteArray := prog_2_method_1_code
def yX0_init : MethodName := ⟨RX0, "<init>", "()V"⟩
abbrev cX0_size : ByteArray := prog_2_method_2_code
def yX0_size : MethodName := ⟨RX0, "size", "()I"⟩
abbrev cX0_append : ByteArray := prog_2_method_3_code
def yX0_append : MethodName := ⟨RX0, "append", "()I"⟩
abbrev cX0_knows : ByteArray := prog_2_method_4_code
def yX0_knows : MethodName := ⟨RX0, "knows", "(II)Z"⟩
abbrev cX0_versionCount : ByteArray := prog_2_method_5_code
def yX0_versionCount : MethodName := ⟨RX0, "versionCount", "(II)I"⟩
abbrev cX0_major : ByteArray := prog_2_method_6_code
def yX0_major : MethodName := ⟨RX0, "major", "(II)I"⟩
abbrev cX0_learn : ByteArray := prog_2_method_7_code
def yX0_learn : MethodName := ⟨RX0, "learn", "(IIII)V"⟩
def RX1 : String := "Feedloom$Items"
def TX1 : u_T := fun k => match k with
  | 0 => ("Feedloom$Items", "count", "I", false)
  | 1 => ("Feedloom$Items", "seenAt", "[I", true)
  | 2 => ("Feedloom$Items", "times", "[I", true)
  | 3 => ("Feedloom$Items", "tellers", "[I", true)
  | 4 => ("Feedloom$Items", "versionCounts", "[I", true)
  | 5 => ("Feedloom$Items", "majors", "[I", true)
  | 6 => ("Feedloom$Items", "titles", "[J", true)
  | 7 => ("Feedloom$Items", "order", "[I", true)
  | 8 => ("Feedloom$Items", "anew", "[I", true)
  | 9 => ("Feedloom$Items", "pairOwners", "[I", true)
  | _ => ("Feedloom$Items", "linkOwners", "[I", true)
def tyX1 : Nat → FieldType := fun k => match k with
  | 0 => .int
  | 1 => .array .int
  | 2 => .array .int
  | 3 => .array .int
  | 4 => .array .int
  | 5 => .array .int
  | 6 => .array .long
  | 7 => .array .int
  | 8 => .array .int
  | 9 => .array .int
  | _ => .array .int
abbrev wsX10 : List Cond := u_ws RX1 TX1 11
theorem nmX1 : ∀ a, a < 11 → ∀ b, b < 11 → a ≠ b → (TX1 a).2.1 ≠ (TX1 b).2.1 := by decide +kernel
theorem tyX1_ok : ∀ k, k < 11 → parseFieldDescriptor (TX1 k).2.2.1 = some (tyX1 k) := by decide +kernel
abbrev cX1_init : ByteArray := prog_3_method_1_code
def yX1_init : MethodName := ⟨RX1, "<init>", "()V"⟩
abbrev cX1_size : ByteArray := prog_3_method_2_code
def yX1_size : MethodName := ⟨RX1, "size", "()I"⟩
abbrev cX1_time : ByteArray := prog_3_method_3_code
def yX1_time : MethodName := ⟨RX1, "time", "(I)I"⟩
abbrev cX1_tellers : ByteArray := prog_3_method_4_code
def yX1_tellers : MethodName := ⟨RX1, "tellers", "(I)I"⟩
abbrev cX1_versionCount : ByteArray := prog_3_method_5_code
def yX1_versionCount : MethodName := ⟨RX1, "versionCount", "(I)I"⟩
abbrev cX1_major : ByteArray := prog_3_method_6_code
def yX1_major : MethodName := ⟨RX1, "major", "(I)I"⟩
abbrev cX1_keepsTitle : ByteArray := prog_3_method_7_code
def yX1_keepsTitle : MethodName := ⟨RX1, "keepsTitle", "(II)Z"⟩
abbrev cX1_titleAt : ByteArray := prog_3_method_8_code
def yX1_titleAt : MethodName := ⟨RX1, "titleAt", "(II)J"⟩
abbrev cX1_latestTitle : ByteArray := prog_3_method_9_code
def yX1_latestTitle : MethodName := ⟨RX1, "latestTitle", "(I)J"⟩
abbrev cX1_placeOfTitle : ByteArray := prog_3_method_10_code
def yX1_placeOfTitle : MethodName := ⟨RX1, "placeOfTitle", "(II)I"⟩
abbrev cX1_ownerOfPair : ByteArray := prog_3_method_11_code
def yX1_ownerOfPair : MethodName := ⟨RX1, "ownerOfPair", "(II)I"⟩
abbrev cX1_ownerOfLink : ByteArray := prog_3_method_12_code
def yX1_ownerOfLink : MethodName := ⟨RX1, "ownerOfLink", "(I)I"⟩
abbrev cX1_mostAlike : ByteArray := prog_3_method_13_code
def yX1_mostAlike : MethodName := ⟨RX1, "mostAlike", "(JII)I"⟩
abbrev cX1_append : ByteArray := prog_3_method_14_code
def yX1_append : MethodName := ⟨RX1, "append", "(JII)I"⟩
abbrev cX1_keepInOrder : ByteArray := prog_3_method_15_code
def yX1_keepInOrder : MethodName := ⟨RX1, "keepInOrder", "(I)V"⟩
abbrev cX1_renew : ByteArray := prog_3_method_16_code
def yX1_renew : MethodName := ⟨RX1, "renew", "(IJI)V"⟩
abbrev cX1_addTeller : ByteArray := prog_3_method_17_code
def yX1_addTeller : MethodName := ⟨RX1, "addTeller", "(II)V"⟩
abbrev cX1_claimPair : ByteArray := prog_3_method_18_code
def yX1_claimPair : MethodName := ⟨RX1, "claimPair", "(III)V"⟩
abbrev cX1_claimLink : ByteArray := prog_3_method_19_code
def yX1_claimLink : MethodName := ⟨RX1, "claimLink", "(II)V"⟩
abbrev cX1_keptOrder : ByteArray := prog_3_method_20_code
def yX1_keptOrder : MethodName := ⟨RX1, "keptOrder", "()[I"⟩
abbrev cX1_orderAnew : ByteArray := prog_3_method_21_code
def yX1_orderAnew : MethodName := ⟨RX1, "orderAnew", "()[I"⟩
abbrev cX1_isAhead : ByteArray := prog_3_method_22_code
def yX1_isAhead : MethodName := ⟨RX1, "isAhead", "(II)Z"⟩
def RX2 : String := "Feedloom$Marks"
def TX2 : u_T := fun k => match k with
  | 0 => ("Feedloom$Marks", "kinds", "[I", true)
  | 1 => ("Feedloom$Marks", "minutes", "[I", true)
  | _ => ("Feedloom$Marks", "versions", "[I", true)
def tyX2 : Nat → FieldType := fun k => match k with
  | 0 => .array .int
  | 1 => .array .int
  | _ => .array .int
abbrev wsX20 : List Cond := u_ws RX2 TX2 3
theorem nmX2 : ∀ a, a < 3 → ∀ b, b < 3 → a ≠ b → (TX2 a).2.1 ≠ (TX2 b).2.1 := by decide +kernel
theorem tyX2_ok : ∀ k, k < 3 → parseFieldDescriptor (TX2 k).2.2.1 = some (tyX2 k) := by decide +kernel
abbrev cX2_init : ByteArray := prog_4_method_1_code
def yX2_init : MethodName := ⟨RX2, "<init>", "()V"⟩
abbrev cX2_put : ByteArray := prog_4_method_2_code
def yX2_put : MethodName := ⟨RX2, "put", "(IIZII)V"⟩
abbrev cX2_copy : ByteArray := prog_4_method_3_code
def yX2_copy : MethodName := ⟨RX2, "copy", "(III)V"⟩
abbrev cX2_saysRead : ByteArray := prog_4_method_4_code
def yX2_saysRead : MethodName := ⟨RX2, "saysRead", "(III)Z"⟩
abbrev cX2_beats : ByteArray := prog_4_method_5_code
def yX2_beats : MethodName := ⟨RX2, "beats", "(III)Z"⟩
def RX3 : String := "Feedloom$Rivers"
def TX3 : u_T := fun k => match k with
  | 0 => ("Feedloom$Rivers", "count", "I", false)
  | 1 => ("Feedloom$Rivers", "sources", "[I", true)
  | _ => ("Feedloom$Rivers", "tags", "[I", true)
def tyX3 : Nat → FieldType := fun k => match k with
  | 0 => .int
  | 1 => .array .int
  | _ => .array .int
abbrev wsX30 : List Cond := u_ws RX3 TX3 3
theorem nmX3 : ∀ a, a < 3 → ∀ b, b < 3 → a ≠ b → (TX3 a).2.1 ≠ (TX3 b).2.1 := by decide +kernel
theorem tyX3_ok : ∀ k, k < 3 → parseFieldDescriptor (TX3 k).2.2.1 = some (tyX3 k) := by decide +kernel
abbrev cX3_init : ByteArray := prog_5_method_1_code
def yX3_init : MethodName := ⟨RX3, "<init>", "()V"⟩
abbrev cX3_size : ByteArray := prog_5_method_2_code
def yX3_size : MethodName := ⟨RX3, "size", "()I"⟩
abbrev cX3_append : ByteArray := prog_5_method_3_code
def yX3_append : MethodName := ⟨RX3, "append", "(II)I"⟩
abbrev cX3_takes : ByteArray := prog_5_method_4_code
def yX3_takes : MethodName := ⟨RX3, "takes", "(III)Z"⟩
def RX4 : String := "Feedloom$Rules"
def TX4 : u_T := fun k => match k with
  | 0 => ("Feedloom$Rules", "count", "I", false)
  | 1 => ("Feedloom$Rules", "allWords", "[J", true)
  | 2 => ("Feedloom$Rules", "anyWords", "[J", true)
  | 3 => ("Feedloom$Rules", "sources", "[I", true)
  | 4 => ("Feedloom$Rules", "tags", "[I", true)
  | _ => ("Feedloom$Rules", "actions", "[I", true)
def tyX4 : Nat → FieldType := fun k => match k with
  | 0 => .int
  | 1 => .array .long
  | 2 => .array .long
  | 3 => .array .int
  | 4 => .array .int
  | _ => .array .int
abbrev wsX40 : List Cond := u_ws RX4 TX4 6
theorem nmX4 : ∀ a, a < 6 → ∀ b, b < 6 → a ≠ b → (TX4 a).2.1 ≠ (TX4 b).2.1 := by decide +kernel
theorem tyX4_ok : ∀ k, k < 6 → parseFieldDescriptor (TX4 k).2.2.1 = some (tyX4 k) := by decide +kernel
abbrev cX4_init : ByteArray := prog_6_method_1_code
def yX4_init : MethodName := ⟨RX4, "<init>", "()V"⟩
abbrev cX4_size : ByteArray := prog_6_method_2_code
def yX4_size : MethodName := ⟨RX4, "size", "()I"⟩
abbrev cX4_append : ByteArray := prog_6_method_3_code
def yX4_append : MethodName := ⟨RX4, "append", "(JJIII)I"⟩
abbrev cX4_remove : ByteArray := prog_6_method_4_code
def yX4_remove : MethodName := ⟨RX4, "remove", "(I)V"⟩
abbrev cX4_outcome : ByteArray := prog_6_method_5_code
def yX4_outcome : MethodName := ⟨RX4, "outcome", "(JII)I"⟩
abbrev cX4_holds : ByteArray := prog_6_method_6_code
def yX4_holds : MethodName := ⟨RX4, "holds", "(IJII)Z"⟩
abbrev cX4_act : ByteArray := prog_6_method_7_code
def yX4_act : MethodName := ⟨RX4, "act", "(II)I"⟩
def RX5 : String := "Feedloom"
def TX5 : u_T := fun k => match k with
  | 0 => ("Feedloom", "minute", "I", false)
  | 1 => ("Feedloom", "threshold", "I", false)
  | 2 => ("Feedloom", "window", "I", false)
  | 3 => ("Feedloom", "sourceCount", "I", false)
  | 4 => ("Feedloom", "items", "LFeedloom$Items;", true)
  | 5 => ("Feedloom", "rules", "LFeedloom$Rules;", true)
  | 6 => ("Feedloom", "rivers", "LFeedloom$Rivers;", true)
  | 7 => ("Feedloom", "devices", "LFeedloom$Devices;", true)
  | 8 => ("Feedloom", "marks", "LFeedloom$Marks;", true)
  | 9 => ("Feedloom", "shown", "[I", true)
  | _ => ("Feedloom", "shownAnew", "[I", true)
def tyX5 : Nat → FieldType := fun k => match k with
  | 0 => .int
  | 1 => .int
  | 2 => .int
  | 3 => .int
  | 4 => .object "Feedloom$Items"
  | 5 => .object "Feedloom$Rules"
  | 6 => .object "Feedloom$Rivers"
  | 7 => .object "Feedloom$Devices"
  | 8 => .object "Feedloom$Marks"
  | 9 => .array .int
  | _ => .array .int
abbrev wsX50 : List Cond := u_ws RX5 TX5 11
theorem nmX5 : ∀ a, a < 11 → ∀ b, b < 11 → a ≠ b → (TX5 a).2.1 ≠ (TX5 b).2.1 := by decide +kernel
theorem tyX5_ok : ∀ k, k < 11 → parseFieldDescriptor (TX5 k).2.2.1 = some (tyX5 k) := by decide +kernel
abbrev cX5_init : ByteArray := prog_1_method_1_code
def yX5_init : MethodName := ⟨RX5, "<init>", "()V"⟩
abbrev cX5_pass : ByteArray := prog_1_method_2_code
def yX5_pass : MethodName := ⟨RX5, "pass", "(I)I"⟩
abbrev cX5_now : ByteArray := prog_1_method_3_code
def yX5_now : MethodName := ⟨RX5, "now", "()I"⟩
abbrev cX5_setThreshold : ByteArray := prog_1_method_4_code
def yX5_setThreshold : MethodName := ⟨RX5, "setThreshold", "(I)I"⟩
abbrev cX5_setWindow : ByteArray := prog_1_method_5_code
def yX5_setWindow : MethodName := ⟨RX5, "setWindow", "(I)I"⟩
abbrev cX5_likeness : ByteArray := prog_1_method_6_code
def yX5_likeness : MethodName := ⟨RX5, "likeness", "(JJ)I"⟩
abbrev cX5_addSource : ByteArray := prog_1_method_7_code
def yX5_addSource : MethodName := ⟨RX5, "addSource", "()I"⟩
abbrev cX5_fetch : ByteArray := prog_1_method_8_code
def yX5_fetch : MethodName := ⟨RX5, "fetch", "(IIIJI)I"⟩
abbrev cX5_items : ByteArray := prog_1_method_9_code
def yX5_items : MethodName := ⟨RX5, "items", "()I"⟩
abbrev cX5_withIdentifier : ByteArray := prog_1_method_10_code
def yX5_withIdentifier : MethodName := ⟨RX5, "withIdentifier", "(II)I"⟩
abbrev cX5_withLink : ByteArray := prog_1_method_11_code
def yX5_withLink : MethodName := ⟨RX5, "withLink", "(I)I"⟩
abbrev cX5_title : ByteArray := prog_1_method_12_code
def yX5_title : MethodName := ⟨RX5, "title", "(II)J"⟩
abbrev cX5_versions : ByteArray := prog_1_method_13_code
def yX5_versions : MethodName := ⟨RX5, "versions", "(I)I"⟩
abbrev cX5_latestMajor : ByteArray := prog_1_method_14_code
def yX5_latestMajor : MethodName := ⟨RX5, "latestMajor", "(I)I"⟩
abbrev cX5_sourcesOf : ByteArray := prog_1_method_15_code
def yX5_sourcesOf : MethodName := ⟨RX5, "sourcesOf", "(I)I"⟩
abbrev cX5_timeOf : ByteArray := prog_1_method_16_code
def yX5_timeOf : MethodName := ⟨RX5, "timeOf", "(I)I"⟩
abbrev cX5_addRule : ByteArray := prog_1_method_17_code
def yX5_addRule : MethodName := ⟨RX5, "addRule", "(JJIII)I"⟩
abbrev cX5_dropRule : ByteArray := prog_1_method_18_code
def yX5_dropRule : MethodName := ⟨RX5, "dropRule", "(I)I"⟩
abbrev cX5_tagsOf : ByteArray := prog_1_method_19_code
def yX5_tagsOf : MethodName := ⟨RX5, "tagsOf", "(I)I"⟩
abbrev cX5_isHidden : ByteArray := prog_1_method_20_code
def yX5_isHidden : MethodName := ⟨RX5, "isHidden", "(I)Z"⟩
abbrev cX5_matches : ByteArray := prog_1_method_21_code
def yX5_matches : MethodName := ⟨RX5, "matches", "(I)I"⟩
abbrev cX5_addRiver : ByteArray := prog_1_method_22_code
def yX5_addRiver : MethodName := ⟨RX5, "addRiver", "(II)I"⟩
abbrev cX5_riverSize : ByteArray := prog_1_method_23_code
def yX5_riverSize : MethodName := ⟨RX5, "riverSize", "(I)I"⟩
abbrev cX5_riverAt : ByteArray := prog_1_method_24_code
def yX5_riverAt : MethodName := ⟨RX5, "riverAt", "(II)I"⟩
abbrev cX5_riverAtAnew : ByteArray := prog_1_method_25_code
def yX5_riverAtAnew : MethodName := ⟨RX5, "riverAtAnew", "(II)I"⟩
abbrev cX5_rankOf : ByteArray := prog_1_method_26_code
def yX5_rankOf : MethodName := ⟨RX5, "rankOf", "(II)I"⟩
abbrev cX5_unread : ByteArray := prog_1_method_27_code
def yX5_unread : MethodName := ⟨RX5, "unread", "(I)I"⟩
abbrev cX5_nextUnread : ByteArray := prog_1_method_28_code
def yX5_nextUnread : MethodName := ⟨RX5, "nextUnread", "(I)I"⟩
abbrev cX5_readShare : ByteArray := prog_1_method_29_code
def yX5_readShare : MethodName := ⟨RX5, "readShare", "(I)F"⟩
abbrev cX5_addDevice : ByteArray := prog_1_method_30_code
def yX5_addDevice : MethodName := ⟨RX5, "addDevice", "()I"⟩
abbrev cX5_mark : ByteArray := prog_1_method_31_code
def yX5_mark : MethodName := ⟨RX5, "mark", "(IIZ)Z"⟩
abbrev cX5_markRiver : ByteArray := prog_1_method_32_code
def yX5_markRiver : MethodName := ⟨RX5, "markRiver", "(II)I"⟩
abbrev cX5_sync : ByteArray := prog_1_method_33_code
def yX5_sync : MethodName := ⟨RX5, "sync", "(I)I"⟩
abbrev cX5_isRead : ByteArray := prog_1_method_34_code
def yX5_isRead : MethodName := ⟨RX5, "isRead", "(I)Z"⟩
abbrev cX5_isReadOn : ByteArray := prog_1_method_35_code
def yX5_isReadOn : MethodName := ⟨RX5, "isReadOn", "(II)Z"⟩
abbrev cX5_knownVersions : ByteArray := prog_1_method_36_code
def yX5_knownVersions : MethodName := ⟨RX5, "knownVersions", "(II)I"⟩
abbrev cX5_meanVersions : ByteArray := prog_1_method_37_code
def yX5_meanVersions : MethodName := ⟨RX5, "meanVersions", "()D"⟩
abbrev cX5_isSound : ByteArray := prog_1_method_38_code
def yX5_isSound : MethodName := ⟨RX5, "isSound", "()Z"⟩
abbrev cX5_requireItem : ByteArray := prog_1_method_39_code
def yX5_requireItem : MethodName := ⟨RX5, "requireItem", "(I)V"⟩
abbrev cX5_requireRule : ByteArray := prog_1_method_40_code
def yX5_requireRule : MethodName := ⟨RX5, "requireRule", "(I)V"⟩
abbrev cX5_requireRiver : ByteArray := prog_1_method_41_code
def yX5_requireRiver : MethodName := ⟨RX5, "requireRiver", "(I)V"⟩
abbrev cX5_requireDevice : ByteArray := prog_1_method_42_code
def yX5_requireDevice : MethodName := ⟨RX5, "requireDevice", "(I)V"⟩
abbrev cX5_requireKnown : ByteArray := prog_1_method_43_code
def yX5_requireKnown : MethodName := ⟨RX5, "requireKnown", "(II)V"⟩
abbrev cX5_isKeyOrNone : ByteArray := prog_1_method_44_code
def yX5_isKeyOrNone : MethodName := ⟨RX5, "isKeyOrNone", "(I)Z"⟩
abbrev cX5_isMinuteOrNone : ByteArray := prog_1_method_45_code
def yX5_isMinuteOrNone : MethodName := ⟨RX5, "isMinuteOrNone", "(I)Z"⟩
abbrev cX5_isTagOrNone : ByteArray := prog_1_method_46_code
def yX5_isTagOrNone : MethodName := ⟨RX5, "isTagOrNone", "(I)Z"⟩
abbrev cX5_percentInCommon : ByteArray := prog_1_method_47_code
def yX5_percentInCommon : MethodName := ⟨RX5, "percentInCommon", "(JJ)I"⟩
abbrev cX5_findFetched : ByteArray := prog_1_method_48_code
def yX5_findFetched : MethodName := ⟨RX5, "findFetched", "(IIIJ)I"⟩
abbrev cX5_timeFrom : ByteArray := prog_1_method_49_code
def yX5_timeFrom : MethodName := ⟨RX5, "timeFrom", "(I)I"⟩
abbrev cX5_hasTagOrNeedsNone : ByteArray := prog_1_method_50_code
def yX5_hasTagOrNeedsNone : MethodName := ⟨RX5, "hasTagOrNeedsNone", "(II)Z"⟩
abbrev cX5_outcomeOf : ByteArray := prog_1_method_51_code
def yX5_outcomeOf : MethodName := ⟨RX5, "outcomeOf", "(I)I"⟩
abbrev cX5_gather : ByteArray := prog_1_method_52_code
def yX5_gather : MethodName := ⟨RX5, "gather", "(I[I[I)I"⟩
abbrev cX5_shownAt : ByteArray := prog_1_method_53_code
def yX5_shownAt : MethodName := ⟨RX5, "shownAt", "(II[I)I"⟩
abbrev cX5_countUnread : ByteArray := prog_1_method_54_code
def yX5_countUnread : MethodName := ⟨RX5, "countUnread", "(I)I"⟩
abbrev cX5_isSoundRiver : ByteArray := prog_1_method_55_code
def yX5_isSoundRiver : MethodName := ⟨RX5, "isSoundRiver", "(I[I)Z"⟩
abbrev cX5_isReadByReader : ByteArray := prog_1_method_56_code
def yX5_isReadByReader : MethodName := ⟨RX5, "isReadByReader", "(I)Z"⟩
abbrev cX5_isReadByDevice : ByteArray := prog_1_method_57_code
def yX5_isReadByDevice : MethodName := ⟨RX5, "isReadByDevice", "(II)Z"⟩
abbrev cX5_markKnown : ByteArray := prog_1_method_58_code
def yX5_markKnown : MethodName := ⟨RX5, "markKnown", "(IIZ)Z"⟩
abbrev cX5_bringUpToDate : ByteArray := prog_1_method_59_code
def yX5_bringUpToDate : MethodName := ⟨RX5, "bringUpToDate", "(II)V"⟩
def RX6 : String := "FeedloomModel"
def TX6 : u_T := fun k => match k with
  | 0 => ("FeedloomModel", "titles", "[J", true)
  | 1 => ("FeedloomModel", "alls", "[J", true)
  | 2 => ("FeedloomModel", "anys", "[J", true)
  | 3 => ("FeedloomModel", "seens", "[I", true)
  | 4 => ("FeedloomModel", "times", "[I", true)
  | 5 => ("FeedloomModel", "tellers", "[I", true)
  | 6 => ("FeedloomModel", "versions", "[I", true)
  | 7 => ("FeedloomModel", "majors", "[I", true)
  | 8 => ("FeedloomModel", "pairSources", "[I", true)
  | 9 => ("FeedloomModel", "pairNames", "[I", true)
  | 10 => ("FeedloomModel", "pairItems", "[I", true)
  | 11 => ("FeedloomModel", "links", "[I", true)
  | 12 => ("FeedloomModel", "linkItems", "[I", true)
  | 13 => ("FeedloomModel", "ruleSources", "[I", true)
  | 14 => ("FeedloomModel", "ruleTags", "[I", true)
  | 15 => ("FeedloomModel", "actions", "[I", true)
  | 16 => ("FeedloomModel", "riverSources", "[I", true)
  | 17 => ("FeedloomModel", "riverTags", "[I", true)
  | 18 => ("FeedloomModel", "marks", "[I", true)
  | 19 => ("FeedloomModel", "markMinutes", "[I", true)
  | 20 => ("FeedloomModel", "markVersions", "[I", true)
  | 21 => ("FeedloomModel", "known", "[I", true)
  | 22 => ("FeedloomModel", "knownMajors", "[I", true)
  | 23 => ("FeedloomModel", "thrown", "I", false)
  | 24 => ("FeedloomModel", "now", "I", false)
  | 25 => ("FeedloomModel", "threshold", "I", false)
  | 26 => ("FeedloomModel", "window", "I", false)
  | 27 => ("FeedloomModel", "sources", "I", false)
  | 28 => ("FeedloomModel", "items", "I", false)
  | 29 => ("FeedloomModel", "pairs", "I", false)
  | 30 => ("FeedloomModel", "linked", "I", false)
  | 31 => ("FeedloomModel", "rules", "I", false)
  | 32 => ("FeedloomModel", "rivers", "I", false)
  | 33 => ("FeedloomModel", "devices", "I", false)
  | 34 => ("FeedloomModel", "tags", "I", false)
  | 35 => ("FeedloomModel", "matched", "I", false)
  | _ => ("FeedloomModel", "isOff", "Z", false)
def tyX6 : Nat → FieldType := fun k => match k with
  | 0 => .array .long
  | 1 => .array .long
  | 2 => .array .long
  | 3 => .array .int
  | 4 => .array .int
  | 5 => .array .int
  | 6 => .array .int
  | 7 => .array .int
  | 8 => .array .int
  | 9 => .array .int
  | 10 => .array .int
  | 11 => .array .int
  | 12 => .array .int
  | 13 => .array .int
  | 14 => .array .int
  | 15 => .array .int
  | 16 => .array .int
  | 17 => .array .int
  | 18 => .array .int
  | 19 => .array .int
  | 20 => .array .int
  | 21 => .array .int
  | 22 => .array .int
  | 23 => .int
  | 24 => .int
  | 25 => .int
  | 26 => .int
  | 27 => .int
  | 28 => .int
  | 29 => .int
  | 30 => .int
  | 31 => .int
  | 32 => .int
  | 33 => .int
  | 34 => .int
  | 35 => .int
  | _ => .boolean
abbrev wsX60 : List Cond := u_ws RX6 TX6 37
theorem nmX6 : ∀ a, a < 37 → ∀ b, b < 37 → a ≠ b → (TX6 a).2.1 ≠ (TX6 b).2.1 := by decide +kernel
theorem tyX6_ok : ∀ k, k < 37 → parseFieldDescriptor (TX6 k).2.2.1 = some (tyX6 k) := by decide +kernel
abbrev cX6_init : ByteArray := prog_8_method_1_code
def yX6_init : MethodName := ⟨RX6, "<init>", "()V"⟩
abbrev cX6_thrown : ByteArray := prog_8_method_2_code
def yX6_thrown : MethodName := ⟨RX6, "thrown", "()I"⟩
abbrev cX6_in : ByteArray := prog_8_method_3_code
def yX6_in : MethodName := ⟨RX6, "in", "(III)Z"⟩
abbrev cX6_plain : ByteArray := prog_8_method_4_code
def yX6_plain : MethodName := ⟨RX6, "plain", "(I)I"⟩
abbrev cX6_checked : ByteArray := prog_8_method_5_code
def yX6_checked : MethodName := ⟨RX6, "checked", "(Z)I"⟩
abbrev cX6_bits : ByteArray := prog_8_method_6_code
def yX6_bits : MethodName := ⟨RX6, "bits", "(J)I"⟩
abbrev cX6_likenessOf : ByteArray := prog_8_method_7_code
def yX6_likenessOf : MethodName := ⟨RX6, "likenessOf", "(JJ)I"⟩
abbrev cX6_pass : ByteArray := prog_8_method_8_code
def yX6_pass : MethodName := ⟨RX6, "pass", "(I)I"⟩
abbrev cX6_now : ByteArray := prog_8_method_9_code
def yX6_now : MethodName := ⟨RX6, "now", "()I"⟩
abbrev cX6_setThreshold : ByteArray := prog_8_method_10_code
def yX6_setThreshold : MethodName := ⟨RX6, "setThreshold", "(I)I"⟩
abbrev cX6_setWindow : ByteArray := prog_8_method_11_code
def yX6_setWindow : MethodName := ⟨RX6, "setWindow", "(I)I"⟩
abbrev cX6_likeness : ByteArray := prog_8_method_12_code
def yX6_likeness : MethodName := ⟨RX6, "likeness", "(JJ)I"⟩
abbrev cX6_addSource : ByteArray := prog_8_method_13_code
def yX6_addSource : MethodName := ⟨RX6, "addSource", "()I"⟩
abbrev cX6_pairAt : ByteArray := prog_8_method_14_code
def yX6_pairAt : MethodName := ⟨RX6, "pairAt", "(II)I"⟩
abbrev cX6_linkAt : ByteArray := prog_8_method_15_code
def yX6_linkAt : MethodName := ⟨RX6, "linkAt", "(I)I"⟩
abbrev cX6_latest : ByteArray := prog_8_method_16_code
def yX6_latest : MethodName := ⟨RX6, "latest", "(I)J"⟩
abbrev cX6_likest : ByteArray := prog_8_method_17_code
def yX6_likest : MethodName := ⟨RX6, "likest", "(J)I"⟩
abbrev cX6_found : ByteArray := prog_8_method_18_code
def yX6_found : MethodName := ⟨RX6, "found", "(IIIJ)I"⟩
abbrev cX6_adds : ByteArray := prog_8_method_19_code
def yX6_adds : MethodName := ⟨RX6, "adds", "(JI)V"⟩
abbrev cX6_changes : ByteArray := prog_8_method_20_code
def yX6_changes : MethodName := ⟨RX6, "changes", "(IJ)V"⟩
abbrev cX6_fetch : ByteArray := prog_8_method_21_code
def yX6_fetch : MethodName := ⟨RX6, "fetch", "(IIIJI)I"⟩
abbrev cX6_items : ByteArray := prog_8_method_22_code
def yX6_items : MethodName := ⟨RX6, "items", "()I"⟩
abbrev cX6_withIdentifier : ByteArray := prog_8_method_23_code
def yX6_withIdentifier : MethodName := ⟨RX6, "withIdentifier", "(II)I"⟩
abbrev cX6_withLink : ByteArray := prog_8_method_24_code
def yX6_withLink : MethodName := ⟨RX6, "withLink", "(I)I"⟩
abbrev cX6_isItem : ByteArray := prog_8_method_25_code
def yX6_isItem : MethodName := ⟨RX6, "isItem", "(I)Z"⟩
abbrev cX6_title : ByteArray := prog_8_method_26_code
def yX6_title : MethodName := ⟨RX6, "title", "(II)J"⟩
abbrev cX6_versions : ByteArray := prog_8_method_27_code
def yX6_versions : MethodName := ⟨RX6, "versions", "(I)I"⟩
abbrev cX6_latestMajor : ByteArray := prog_8_method_28_code
def yX6_latestMajor : MethodName := ⟨RX6, "latestMajor", "(I)I"⟩
abbrev cX6_sourcesOf : ByteArray := prog_8_method_29_code
def yX6_sourcesOf : MethodName := ⟨RX6, "sourcesOf", "(I)I"⟩
abbrev cX6_timeOf : ByteArray := prog_8_method_30_code
def yX6_timeOf : MethodName := ⟨RX6, "timeOf", "(I)I"⟩
abbrev cX6_addRule : ByteArray := prog_8_method_31_code
def yX6_addRule : MethodName := ⟨RX6, "addRule", "(JJIII)I"⟩
abbrev cX6_dropRule : ByteArray := prog_8_method_32_code
def yX6_dropRule : MethodName := ⟨RX6, "dropRule", "(I)I"⟩
abbrev cX6_holds : ByteArray := prog_8_method_33_code
def yX6_holds : MethodName := ⟨RX6, "holds", "(II)Z"⟩
abbrev cX6_goes : ByteArray := prog_8_method_34_code
def yX6_goes : MethodName := ⟨RX6, "goes", "(I)V"⟩
abbrev cX6_tagsOf : ByteArray := prog_8_method_35_code
def yX6_tagsOf : MethodName := ⟨RX6, "tagsOf", "(I)I"⟩
abbrev cX6_isHidden : ByteArray := prog_8_method_36_code
def yX6_isHidden : MethodName := ⟨RX6, "isHidden", "(I)Z"⟩
abbrev cX6_matches : ByteArray := prog_8_method_37_code
def yX6_matches : MethodName := ⟨RX6, "matches", "(I)I"⟩
abbrev cX6_addRiver : ByteArray := prog_8_method_38_code
def yX6_addRiver : MethodName := ⟨RX6, "addRiver", "(II)I"⟩
abbrev cX6_isRiver : ByteArray := prog_8_method_39_code
def yX6_isRiver : MethodName := ⟨RX6, "isRiver", "(I)Z"⟩
abbrev cX6_shows : ByteArray := prog_8_method_40_code
def yX6_shows : MethodName := ⟨RX6, "shows", "(II)Z"⟩
abbrev cX6_sizeOf : ByteArray := prog_8_method_41_code
def yX6_sizeOf : MethodName := ⟨RX6, "sizeOf", "(I)I"⟩
abbrev cX6_riverSize : ByteArray := prog_8_method_42_code
def yX6_riverSize : MethodName := ⟨RX6, "riverSize", "(I)I"⟩
abbrev cX6_ahead : ByteArray := prog_8_method_43_code
def yX6_ahead : MethodName := ⟨RX6, "ahead", "(II)I"⟩
abbrev cX6_itemAt : ByteArray := prog_8_method_44_code
def yX6_itemAt : MethodName := ⟨RX6, "itemAt", "(II)I"⟩
abbrev cX6_riverAt : ByteArray := prog_8_method_45_code
def yX6_riverAt : MethodName := ⟨RX6, "riverAt", "(II)I"⟩
abbrev cX6_riverAtAnew : ByteArray := prog_8_method_46_code
def yX6_riverAtAnew : MethodName := ⟨RX6, "riverAtAnew", "(II)I"⟩
abbrev cX6_rankOf : ByteArray := prog_8_method_47_code
def yX6_rankOf : MethodName := ⟨RX6, "rankOf", "(II)I"⟩
abbrev cX6_isReadBy : ByteArray := prog_8_method_48_code
def yX6_isReadBy : MethodName := ⟨RX6, "isReadBy", "(III)Z"⟩
abbrev cX6_isReadNow : ByteArray := prog_8_method_49_code
def yX6_isReadNow : MethodName := ⟨RX6, "isReadNow", "(I)Z"⟩
abbrev cX6_unreadIn : ByteArray := prog_8_method_50_code
def yX6_unreadIn : MethodName := ⟨RX6, "unreadIn", "(I)I"⟩
abbrev cX6_unread : ByteArray := prog_8_method_51_code
def yX6_unread : MethodName := ⟨RX6, "unread", "(I)I"⟩
abbrev cX6_nextUnread : ByteArray := prog_8_method_52_code
def yX6_nextUnread : MethodName := ⟨RX6, "nextUnread", "(I)I"⟩
abbrev cX6_readShare : ByteArray := prog_8_method_53_code
def yX6_readShare : MethodName := ⟨RX6, "readShare", "(I)F"⟩
abbrev cX6_copies : ByteArray := prog_8_method_54_code
def yX6_copies : MethodName := ⟨RX6, "copies", "(III)V"⟩
abbrev cX6_learns : ByteArray := prog_8_method_55_code
def yX6_learns : MethodName := ⟨RX6, "learns", "(I)V"⟩
abbrev cX6_addDevice : ByteArray := prog_8_method_56_code
def yX6_addDevice : MethodName := ⟨RX6, "addDevice", "()I"⟩
abbrev cX6_isDevice : ByteArray := prog_8_method_57_code
def yX6_isDevice : MethodName := ⟨RX6, "isDevice", "(I)Z"⟩
abbrev cX6_knows : ByteArray := prog_8_method_58_code
def yX6_knows : MethodName := ⟨RX6, "knows", "(II)Z"⟩
abbrev cX6_isReadAt : ByteArray := prog_8_method_59_code
def yX6_isReadAt : MethodName := ⟨RX6, "isReadAt", "(II)Z"⟩
abbrev cX6_marks : ByteArray := prog_8_method_60_code
def yX6_marks : MethodName := ⟨RX6, "marks", "(IIZ)V"⟩
abbrev cX6_mark : ByteArray := prog_8_method_61_code
def yX6_mark : MethodName := ⟨RX6, "mark", "(IIZ)Z"⟩
abbrev cX6_markRiver : ByteArray := prog_8_method_62_code
def yX6_markRiver : MethodName := ⟨RX6, "markRiver", "(II)I"⟩
abbrev cX6_wins : ByteArray := prog_8_method_63_code
def yX6_wins : MethodName := ⟨RX6, "wins", "(II)Z"⟩
abbrev cX6_sync : ByteArray := prog_8_method_64_code
def yX6_sync : MethodName := ⟨RX6, "sync", "(I)I"⟩
abbrev cX6_isRead : ByteArray := prog_8_method_65_code
def yX6_isRead : MethodName := ⟨RX6, "isRead", "(I)Z"⟩
abbrev cX6_isReadOn : ByteArray := prog_8_method_66_code
def yX6_isReadOn : MethodName := ⟨RX6, "isReadOn", "(II)Z"⟩
abbrev cX6_knownVersions : ByteArray := prog_8_method_67_code
def yX6_knownVersions : MethodName := ⟨RX6, "knownVersions", "(II)I"⟩
abbrev cX6_meanVersions : ByteArray := prog_8_method_68_code
def yX6_meanVersions : MethodName := ⟨RX6, "meanVersions", "()D"⟩
abbrev cX6_isSound : ByteArray := prog_8_method_69_code
def yX6_isSound : MethodName := ⟨RX6, "isSound", "()Z"⟩
def RJx145de : String := "java/io/Serializable"
def TJx145de : u_T := fun k => match k with
  | _ => ("", "", "", false)
def tyJx145de : Nat → FieldType := fun k => match k with
  | _ => .int
abbrev wsJx145de0 : List Cond := u_ws RJx145de TJx145de 0
theorem nmJx145de : ∀ a, a < 0 → ∀ b, b < 0 → a ≠ b → (TJx145de a).2.1 ≠ (TJx145de b).2.1 := by decide +kernel
theorem tyJx145de_ok : ∀ k, k < 0 → parseFieldDescriptor (TJx145de k).2.2.1 = some (tyJx145de k) := by decide +kernel
def RJx00060 : String := "java/lang/ArrayIndexOutOfBoundsException"
def TJx00060 : u_T := fun k => match k with
  | 0 => ("java/lang/Throwable", "backtrace", "Ljava/lang/Object;", false)
  | 1 => ("java/lang/Throwable", "detailMessage", "Ljava/lang/String;", false)
  | 2 => ("java/lang/Throwable", "cause", "Ljava/lang/Throwable;", false)
  | 3 => ("java/lang/Throwable", "stackTrace", "[Ljava/lang/StackTraceElement;", false)
  | 4 => ("java/lang/Throwable", "depth", "I", false)
  | _ => ("java/lang/Throwable", "suppressedExceptions", "Ljava/util/List;", false)
def tyJx00060 : Nat → FieldType := fun k => match k with
  | 0 => .object "java/lang/Object"
  | 1 => .object "java/lang/String"
  | 2 => .object "java/lang/Throwable"
  | 3 => .array (.object "java/lang/StackTraceElement")
  | 4 => .int
  | _ => .object "java/util/List"
abbrev wsJx000600 : List Cond := u_ws RJx00060 TJx00060 6
theorem nmJx00060 : ∀ a, a < 6 → ∀ b, b < 6 → a ≠ b → (TJx00060 a).2.1 ≠ (TJx00060 b).2.1 := by decide +kernel
theorem tyJx00060_ok : ∀ k, k < 6 → parseFieldDescriptor (TJx00060 k).2.2.1 = some (tyJx00060 k) := by decide +kernel
abbrev cJx00060_init_a7421 : ByteArray := prog_11_method_2_code
def yJx00060_init_a7421 : MethodName := ⟨RJx00060, "<init>", "(Ljava/lang/String;)V"⟩
def RJ13 : String := "java/lang/Long"
def TJ13 : u_T := fun k => match k with
  | _ => ("", "", "", false)
def tyJ13 : Nat → FieldType := fun k => match k with
  | _ => .int
abbrev wsJ130 : List Cond := u_ws RJ13 TJ13 0
theorem nmJ13 : ∀ a, a < 0 → ∀ b, b < 0 → a ≠ b → (TJ13 a).2.1 ≠ (TJ13 b).2.1 := by decide +kernel
theorem tyJ13_ok : ∀ k, k < 0 → parseFieldDescriptor (TJ13 k).2.2.1 = some (tyJ13 k) := by decide +kernel
abbrev cJ13_bitCount_95d88 : ByteArray := prog_16_method_50_code
def yJ13_bitCount_95d88 : MethodName := ⟨RJ13, "bitCount", "(J)I"⟩
def RJ9 : String := "java/lang/Math"
def TJ9 : u_T := fun k => match k with
  | _ => ("", "", "", false)
def tyJ9 : Nat → FieldType := fun k => match k with
  | _ => .int
abbrev wsJ90 : List Cond := u_ws RJ9 TJ9 0
theorem nmJ9 : ∀ a, a < 0 → ∀ b, b < 0 → a ≠ b → (TJ9 a).2.1 ≠ (TJ9 b).2.1 := by decide +kernel
theorem tyJ9_ok : ∀ k, k < 0 → parseFieldDescriptor (TJ9 k).2.2.1 = some (tyJ9 k) := by decide +kernel
abbrev cJ9_floorMod_7cf53 : ByteArray := prog_17_method_50_code
def yJ9_floorMod_7cf53 : MethodName := ⟨RJ9, "floorMod", "(II)I"⟩
def RJ0 : String := "java/lang/String"
def TJ0 : u_T := fun k => match k with
  | 0 => ("java/lang/String", "value", "[B", true)
  | _ => ("java/lang/String", "coder", "B", true)
def tyJ0 : Nat → FieldType := fun k => match k with
  | 0 => .array .byte
  | _ => .byte
abbrev wsJ00 : List Cond := u_ws RJ0 TJ0 2
theorem nmJ0 : ∀ a, a < 2 → ∀ b, b < 2 → a ≠ b → (TJ0 a).2.1 ≠ (TJ0 b).2.1 := by decide +kernel
theorem tyJ0_ok : ∀ k, k < 2 → parseFieldDescriptor (TJ0 k).2.2.1 = some (tyJ0 k) := by decide +kernel
def RL : String := "FeedloomLaw"
abbrev cL_pass : ByteArray := method_3_code
def yL_pass : MethodName := ⟨RL, "pass", "(LFeedloom;I[J)I"⟩
abbrev cL_setThreshold : ByteArray := method_4_code
def yL_setThreshold : MethodName := ⟨RL, "setThreshold", "(LFeedloom;I[J)I"⟩
abbrev cL_setWindow : ByteArray := method_5_code
def yL_setWindow : MethodName := ⟨RL, "setWindow", "(LFeedloom;I[J)I"⟩
abbrev cL_likeness : ByteArray := method_6_code
def yL_likeness : MethodName := ⟨RL, "likeness", "(LFeedloom;JJ[J)I"⟩
abbrev cL_addSource : ByteArray := method_7_code
def yL_addSource : MethodName := ⟨RL, "addSource", "(LFeedloom;[J)I"⟩
abbrev cL_fetch : ByteArray := method_8_code
def yL_fetch : MethodName := ⟨RL, "fetch", "(LFeedloom;IIIJI[J)I"⟩
abbrev cL_withIdentifier : ByteArray := method_9_code
def yL_withIdentifier : MethodName := ⟨RL, "withIdentifier", "(LFeedloom;II[J)I"⟩
abbrev cL_withLink : ByteArray := method_10_code
def yL_withLink : MethodName := ⟨RL, "withLink", "(LFeedloom;I[J)I"⟩
abbrev cL_title : ByteArray := method_11_code
def yL_title : MethodName := ⟨RL, "title", "(LFeedloom;II[J)I"⟩
abbrev cL_versions : ByteArray := method_12_code
def yL_versions : MethodName := ⟨RL, "versions", "(LFeedloom;I[J)I"⟩
abbrev cL_latestMajor : ByteArray := method_13_code
def yL_latestMajor : MethodName := ⟨RL, "latestMajor", "(LFeedloom;I[J)I"⟩
abbrev cL_sourcesOf : ByteArray := method_14_code
def yL_sourcesOf : MethodName := ⟨RL, "sourcesOf", "(LFeedloom;I[J)I"⟩
abbrev cL_timeOf : ByteArray := method_15_code
def yL_timeOf : MethodName := ⟨RL, "timeOf", "(LFeedloom;I[J)I"⟩
abbrev cL_addRule : ByteArray := method_16_code
def yL_addRule : MethodName := ⟨RL, "addRule", "(LFeedloom;JJIII[J)I"⟩
abbrev cL_dropRule : ByteArray := method_17_code
def yL_dropRule : MethodName := ⟨RL, "dropRule", "(LFeedloom;I[J)I"⟩
abbrev cL_tagsOf : ByteArray := method_18_code
def yL_tagsOf : MethodName := ⟨RL, "tagsOf", "(LFeedloom;I[J)I"⟩
abbrev cL_isHidden : ByteArray := method_19_code
def yL_isHidden : MethodName := ⟨RL, "isHidden", "(LFeedloom;I[J)I"⟩
abbrev cL_matches : ByteArray := method_20_code
def yL_matches : MethodName := ⟨RL, "matches", "(LFeedloom;I[J)I"⟩
abbrev cL_addRiver : ByteArray := method_21_code
def yL_addRiver : MethodName := ⟨RL, "addRiver", "(LFeedloom;II[J)I"⟩
abbrev cL_riverSize : ByteArray := method_22_code
def yL_riverSize : MethodName := ⟨RL, "riverSize", "(LFeedloom;I[J)I"⟩
abbrev cL_riverAt : ByteArray := method_23_code
def yL_riverAt : MethodName := ⟨RL, "riverAt", "(LFeedloom;II[J)I"⟩
abbrev cL_riverAtAnew : ByteArray := method_24_code
def yL_riverAtAnew : MethodName := ⟨RL, "riverAtAnew", "(LFeedloom;II[J)I"⟩
abbrev cL_rankOf : ByteArray := method_25_code
def yL_rankOf : MethodName := ⟨RL, "rankOf", "(LFeedloom;II[J)I"⟩
abbrev cL_unread : ByteArray := method_26_code
def yL_unread : MethodName := ⟨RL, "unread", "(LFeedloom;I[J)I"⟩
abbrev cL_nextUnread : ByteArray := method_27_code
def yL_nextUnread : MethodName := ⟨RL, "nextUnread", "(LFeedloom;I[J)I"⟩
abbrev cL_readShare : ByteArray := method_28_code
def yL_readShare : MethodName := ⟨RL, "readShare", "(LFeedloom;I[D)I"⟩
abbrev cL_addDevice : ByteArray := method_29_code
def yL_addDevice : MethodName := ⟨RL, "addDevice", "(LFeedloom;[J)I"⟩
abbrev cL_mark : ByteArray := method_30_code
def yL_mark : MethodName := ⟨RL, "mark", "(LFeedloom;IIZ[J)I"⟩
abbrev cL_markRiver : ByteArray := method_31_code
def yL_markRiver : MethodName := ⟨RL, "markRiver", "(LFeedloom;II[J)I"⟩
abbrev cL_sync : ByteArray := method_32_code
def yL_sync : MethodName := ⟨RL, "sync", "(LFeedloom;I[J)I"⟩
abbrev cL_isRead : ByteArray := method_33_code
def yL_isRead : MethodName := ⟨RL, "isRead", "(LFeedloom;I[J)I"⟩
abbrev cL_isReadOn : ByteArray := method_34_code
def yL_isReadOn : MethodName := ⟨RL, "isReadOn", "(LFeedloom;II[J)I"⟩
abbrev cL_knownVersions : ByteArray := method_35_code
def yL_knownVersions : MethodName := ⟨RL, "knownVersions", "(LFeedloom;II[J)I"⟩
abbrev cL_meanVersions : ByteArray := method_36_code
def yL_meanVersions : MethodName := ⟨RL, "meanVersions", "(LFeedloom;[D)I"⟩
abbrev cL_law : ByteArray := code
def yL_law : MethodName := ⟨RL, "law", "([I)Z"⟩
abbrev vwCl : List vw_C := [(RJ0, TJ0, 2), (RJx00060, TJx00060, 6), (RX0, TX0, 3), (RX1, TX1, 11), (RX2, TX2, 3), (RX3, TX3, 3), (RX4, TX4, 6), (RX5, TX5, 11), (RX6, TX6, 37)]
end
section
theorem dX0_init_0 : decode cX0_init 0 = .ok (.aload_n 0, 1) := by decide +kernel
theorem dX0_init_1 : decode cX0_init 1 = .ok (.invokespecial 3, 3) := by decide +kernel
theorem dX0_init_4 : decode cX0_init 4 = .ok (.aload_n 0, 1) := by decide +kernel
theorem dX0_init_5 : decode cX0_init 5 = .ok (.iconst 0, 1) := by decide +kernel
theorem dX0_init_6 : decode cX0_init 6 = .ok (.putfield 9, 3) := by decide +kernel
theorem dX0_init_9 : decode cX0_init 9 = .ok (.aload_n 0, 1) := by decide +kernel
theorem dX0_init_10 : decode cX0_init 10 = .ok (.bipush 120, 2) := by decide +kernel
theorem dX0_init_12 : decode cX0_init 12 = .ok (.newarray .int, 2) := by decide +kernel
theorem dX0_init_14 : decode cX0_init 14 = .ok (.putfield 15, 3) := by decide +kernel
theorem dX0_init_17 : decode cX0_init 17 = .ok (.aload_n 0, 1) := by decide +kernel
theorem dX0_init_18 : decode cX0_init 18 = .ok (.bipush 120, 2) := by decide +kernel
theorem dX0_init_20 : decode cX0_init 20 = .ok (.newarray .int, 2) := by decide +kernel
theorem dX0_init_22 : decode cX0_init 22 = .ok (.putfield 19, 3) := by decide +kernel
theorem dX0_init_25 : decode cX0_init 25 = .ok (.return_, 1) := by decide +kernel
theorem dX0_size_0 : decode cX0_size 0 = .ok (.aload_n 0, 1) := by decide +kernel
theorem dX0_size_1 : decode cX0_size 1 = .ok (.getfield 9, 3) := by decide +kernel
theorem dX0_size_4 : decode cX0_size 4 = .ok (.ireturn, 1) := by decide +kernel
theorem dX0_append_0 : decode cX0_append 0 = .ok (.aload_n 0, 1) := by decide +kernel
theorem dX0_append_1 : decode cX0_append 1 = .ok (.getfield 9, 3) := by decide +kernel
theorem dX0_append_4 : decode cX0_append 4 = .ok (.iconst 4, 1) := by decide +kernel
theorem dX0_append_5 : decode cX0_append 5 = .ok (.if_icmp .lt 5, 3) := by decide +kernel
theorem dX0_append_8 : decode cX0_append 8 = .ok (.iconst (-1), 1) := by decide +kernel
theorem dX0_append_9 : decode cX0_append 9 = .ok (.ireturn, 1) := by decide +kernel
theorem dX0_append_10 : decode cX0_append 10 = .ok (.aload_n 0, 1) := by decide +kernel
theorem dX0_append_11 : decode cX0_append 11 = .ok (.dup, 1) := by decide +kernel
theorem dX0_append_12 : decode cX0_append 12 = .ok (.getfield 9, 3) := by decide +kernel
theorem dX0_append_15 : decode cX0_append 15 = .ok (.iconst 1, 1) := by decide +kernel
theorem dX0_append_16 : decode cX0_append 16 = .ok (.iadd, 1) := by decide +kernel
theorem dX0_append_17 : decode cX0_append 17 = .ok (.putfield 9, 3) := by decide +kernel
theorem dX0_append_20 : decode cX0_append 20 = .ok (.aload_n 0, 1) := by decide +kernel
theorem dX0_append_21 : decode cX0_append 21 = .ok (.getfield 9, 3) := by decide +kernel
theorem dX0_append_24 : decode cX0_append 24 = .ok (.iconst 1, 1) := by decide +kernel
theorem dX0_append_25 : decode cX0_append 25 = .ok (.isub, 1) := by decide +kernel
theorem dX0_append_26 : decode cX0_append 26 = .ok (.ireturn, 1) := by decide +kernel
theorem dX0_knows_0 : decode cX0_knows 0 = .ok (.aload_n 0, 1) := by decide +kernel
theorem dX0_knows_1 : decode cX0_knows 1 = .ok (.iload_n 1, 1) := by decide +kernel
theorem dX0_knows_2 : decode cX0_knows 2 = .ok (.iload_n 2, 1) := by decide +kernel
theorem dX0_knows_3 : decode cX0_knows 3 = .ok (.invokevirtual 22, 3) := by decide +kernel
theorem dX0_knows_6 : decode cX0_knows 6 = .ok (.ifCond .le 7, 3) := by decide +kernel
theorem dX0_knows_9 : decode cX0_knows 9 = .ok (.iconst 1, 1) := by decide +kernel
theorem dX0_knows_10 : decode cX0_knows 10 = .ok (.goto 4, 3) := by decide +kernel
theorem dX0_knows_13 : decode cX0_knows 13 = .ok (.iconst 0, 1) := by decide +kernel
theorem dX0_knows_14 : decode cX0_knows 14 = .ok (.ireturn, 1) := by decide +kernel
theorem dX0_versionCount_0 : decode cX0_versionCount 0 = .ok (.aload_n 0, 1) := by decide +kernel
theorem dX0_versionCount_1 : decode cX0_versionCount 1 = .ok (.getfield 15, 3) := by decide +kernel
theorem dX0_versionCount_4 : decode cX0_versionCount 4 = .ok (.iload_n 1, 1) := by decide +kernel
theorem dX0_versionCount_5 : decode cX0_versionCount 5 = .ok (.bipush 30, 2) := by decide +kernel
theorem dX0_versionCount_7 : decode cX0_versionCount 7 = .ok (.imul, 1) := by decide +kernel
theorem dX0_versionCount_8 : decode cX0_versionCount 8 = .ok (.iload_n 2, 1) := by decide +kernel
theorem dX0_versionCount_9 : decode cX0_versionCount 9 = .ok (.iadd, 1) := by decide +kernel
theorem dX0_versionCount_10 : decode cX0_versionCount 10 = .ok (.iaload, 1) := by decide +kernel
theorem dX0_versionCount_11 : decode cX0_versionCount 11 = .ok (.ireturn, 1) := by decide +kernel
theorem dX0_major_0 : decode cX0_major 0 = .ok (.aload_n 0, 1) := by decide +kernel
theorem dX0_major_1 : decode cX0_major 1 = .ok (.getfield 19, 3) := by decide +kernel
theorem dX0_major_4 : decode cX0_major 4 = .ok (.iload_n 1, 1) := by decide +kernel
theorem dX0_major_5 : decode cX0_major 5 = .ok (.bipush 30, 2) := by decide +kernel
theorem dX0_major_7 : decode cX0_major 7 = .ok (.imul, 1) := by decide +kernel
theorem dX0_major_8 : decode cX0_major 8 = .ok (.iload_n 2, 1) := by decide +kernel
theorem dX0_major_9 : decode cX0_major 9 = .ok (.iadd, 1) := by decide +kernel
theorem dX0_major_10 : decode cX0_major 10 = .ok (.iaload, 1) := by decide +kernel
theorem dX0_major_11 : decode cX0_major 11 = .ok (.ireturn, 1) := by decide +kernel
theorem dX0_learn_0 : decode cX0_learn 0 = .ok (.aload_n 0, 1) := by decide +kernel
theorem dX0_learn_1 : decode cX0_learn 1 = .ok (.getfield 15, 3) := by decide +kernel
theorem dX0_learn_4 : decode cX0_learn 4 = .ok (.iload_n 1, 1) := by decide +kernel
theorem dX0_learn_5 : decode cX0_learn 5 = .ok (.bipush 30, 2) := by decide +kernel
theorem dX0_learn_7 : decode cX0_learn 7 = .ok (.imul, 1) := by decide +kernel
theorem dX0_learn_8 : decode cX0_learn 8 = .ok (.iload_n 2, 1) := by decide +kernel
theorem dX0_learn_9 : decode cX0_learn 9 = .ok (.iadd, 1) := by decide +kernel
theorem dX0_learn_10 : decode cX0_learn 10 = .ok (.iload_n 3, 1) := by decide +kernel
theorem dX0_learn_11 : decode cX0_learn 11 = .ok (.iastore, 1) := by decide +kernel
theorem dX0_learn_12 : decode cX0_learn 12 = .ok (.aload_n 0, 1) := by decide +kernel
theorem dX0_learn_13 : decode cX0_learn 13 = .ok (.getfield 19, 3) := by decide +kernel
theorem dX0_learn_16 : decode cX0_learn 16 = .ok (.iload_n 1, 1) := by decide +kernel
theorem dX0_learn_17 : decode cX0_learn 17 = .ok (.bipush 30, 2) := by decide +kernel
theorem dX0_learn_19 : decode cX0_learn 19 = .ok (.imul, 1) := by decide +kernel
theorem dX0_learn_20 : decode cX0_learn 20 = .ok (.iload_n 2, 1) := by decide +kernel
theorem dX0_learn_21 : decode cX0_learn 21 = .ok (.iadd, 1) := by decide +kernel
theorem dX0_learn_22 : decode cX0_learn 22 = .ok (.iload 4, 2) := by decide +kernel
theorem dX0_learn_24 : decode cX0_learn 24 = .ok (.iastore, 1) := by decide +kernel
theorem dX0_learn_25 : decode cX0_learn 25 = .ok (.return_, 1) := by decide +kernel
theorem dX1_init_0 : decode cX1_init 0 = .ok (.aload_n 0, 1) := by decide +kernel
theorem dX1_init_1 : decode cX1_init 1 = .ok (.invokespecial 3, 3) := by decide +kernel
theorem dX1_init_4 : decode cX1_init 4 = .ok (.aload_n 0, 1) := by decide +kernel
theorem dX1_init_5 : decode cX1_init 5 = .ok (.iconst 0, 1) := by decide +kernel
theorem dX1_init_6 : decode cX1_init 6 = .ok (.putfield 9, 3) := by decide +kernel
theorem dX1_init_9 : decode cX1_init 9 = .ok (.aload_n 0, 1) := by decide +kernel
theorem dX1_init_10 : decode cX1_init 10 = .ok (.bipush 30, 2) := by decide +kernel
theorem dX1_init_12 : decode cX1_init 12 = .ok (.newarray .int, 2) := by decide +kernel
theorem dX1_init_14 : decode cX1_init 14 = .ok (.putfield 15, 3) := by decide +kernel
theorem dX1_init_17 : decode cX1_init 17 = .ok (.aload_n 0, 1) := by decide +kernel
theorem dX1_init_18 : decode cX1_init 18 = .ok (.bipush 30, 2) := by decide +kernel
theorem dX1_init_20 : decode cX1_init 20 = .ok (.newarray .int, 2) := by decide +kernel
theorem dX1_init_22 : decode cX1_init 22 = .ok (.putfield 19, 3) := by decide +kernel
theorem dX1_init_25 : decode cX1_init 25 = .ok (.aload_n 0, 1) := by decide +kernel
theorem dX1_init_26 : decode cX1_init 26 = .ok (.bipush 30, 2) := by decide +kernel
theorem dX1_init_28 : decode cX1_init 28 = .ok (.newarray .int, 2) := by decide +kernel
theorem dX1_init_30 : decode cX1_init 30 = .ok (.putfield 22, 3) := by decide +kernel
theorem dX1_init_33 : decode cX1_init 33 = .ok (.aload_n 0, 1) := by decide +kernel
theorem dX1_init_34 : decode cX1_init 34 = .ok (.bipush 30, 2) := by decide +kernel
theorem dX1_init_36 : decode cX1_init 36 = .ok (.newarray .int, 2) := by decide +kernel
theorem dX1_init_38 : decode cX1_init 38 = .ok (.putfield 25, 3) := by decide +kernel
theorem dX1_init_41 : decode cX1_init 41 = .ok (.aload_n 0, 1) := by decide +kernel
theorem dX1_init_42 : decode cX1_init 42 = .ok (.bipush 30, 2) := by decide +kernel
theorem dX1_init_44 : decode cX1_init 44 = .ok (.newarray .int, 2) := by decide +kernel
theorem dX1_init_46 : decode cX1_init 46 = .ok (.putfield 28, 3) := by decide +kernel
theorem dX1_init_49 : decode cX1_init 49 = .ok (.aload_n 0, 1) := by decide +kernel
theorem dX1_init_50 : decode cX1_init 50 = .ok (.bipush 120, 2) := by decide +kernel
theorem dX1_init_52 : decode cX1_init 52 = .ok (.newarray .long, 2) := by decide +kernel
theorem dX1_init_54 : decode cX1_init 54 = .ok (.putfield 31, 3) := by decide +kernel
theorem dX1_init_57 : decode cX1_init 57 = .ok (.aload_n 0, 1) := by decide +kernel
theorem dX1_init_58 : decode cX1_init 58 = .ok (.bipush 30, 2) := by decide +kernel
theorem dX1_init_60 : decode cX1_init 60 = .ok (.newarray .int, 2) := by decide +kernel
theorem dX1_init_62 : decode cX1_init 62 = .ok (.putfield 35, 3) := by decide +kernel
theorem dX1_init_65 : decode cX1_init 65 = .ok (.aload_n 0, 1) := by decide +kernel
theorem dX1_init_66 : decode cX1_init 66 = .ok (.bipush 30, 2) := by decide +kernel
theorem dX1_init_68 : decode cX1_init 68 = .ok (.newarray .int, 2) := by decide +kernel
theorem dX1_init_70 : decode cX1_init 70 = .ok (.putfield 38, 3) := by decide +kernel
theorem dX1_init_73 : decode cX1_init 73 = .ok (.aload_n 0, 1) := by decide +kernel
theorem dX1_init_74 : decode cX1_init 74 = .ok (.sipush 6000, 3) := by decide +kernel
theorem dX1_init_77 : decode cX1_init 77 = .ok (.newarray .int, 2) := by decide +kernel
theorem dX1_init_79 : decode cX1_init 79 = .ok (.putfield 41, 3) := by decide +kernel
theorem dX1_init_82 : decode cX1_init 82 = .ok (.aload_n 0, 1) := by decide +kernel
theorem dX1_init_83 : decode cX1_init 83 = .ok (.sipush 1000, 3) := by decide +kernel
theorem dX1_init_86 : decode cX1_init 86 = .ok (.newarray .int, 2) := by decide +kernel
theorem dX1_init_88 : decode cX1_init 88 = .ok (.putfield 44, 3) := by decide +kernel
theorem dX1_init_91 : decode cX1_init 91 = .ok (.return_, 1) := by decide +kernel
theorem dX1_size_0 : decode cX1_size 0 = .ok (.aload_n 0, 1) := by decide +kernel
theorem dX1_size_1 : decode cX1_size 1 = .ok (.getfield 9, 3) := by decide +kernel
theorem dX1_size_4 : decode cX1_size 4 = .ok (.ireturn, 1) := by decide +kernel
theorem dX1_time_0 : decode cX1_time 0 = .ok (.aload_n 0, 1) := by decide +kernel
theorem dX1_time_1 : decode cX1_time 1 = .ok (.getfield 19, 3) := by decide +kernel
theorem dX1_time_4 : decode cX1_time 4 = .ok (.iload_n 1, 1) := by decide +kernel
theorem dX1_time_5 : decode cX1_time 5 = .ok (.iaload, 1) := by decide +kernel
theorem dX1_time_6 : decode cX1_time 6 = .ok (.ireturn, 1) := by decide +kernel
theorem dX1_tellers_0 : decode cX1_tellers 0 = .ok (.aload_n 0, 1) := by decide +kernel
theorem dX1_tellers_1 : decode cX1_tellers 1 = .ok (.getfield 22, 3) := by decide +kernel
theorem dX1_tellers_4 : decode cX1_tellers 4 = .ok (.iload_n 1, 1) := by decide +kernel
theorem dX1_tellers_5 : decode cX1_tellers 5 = .ok (.iaload, 1) := by decide +kernel
theorem dX1_tellers_6 : decode cX1_tellers 6 = .ok (.ireturn, 1) := by decide +kernel
theorem dX1_versionCount_0 : decode cX1_versionCount 0 = .ok (.aload_n 0, 1) := by decide +kernel
theorem dX1_versionCount_1 : decode cX1_versionCount 1 = .ok (.getfield 25, 3) := by decide +kernel
theorem dX1_versionCount_4 : decode cX1_versionCount 4 = .ok (.iload_n 1, 1) := by decide +kernel
theorem dX1_versionCount_5 : decode cX1_versionCount 5 = .ok (.iaload, 1) := by decide +kernel
theorem dX1_versionCount_6 : decode cX1_versionCount 6 = .ok (.ireturn, 1) := by decide +kernel
theorem dX1_major_0 : decode cX1_major 0 = .ok (.aload_n 0, 1) := by decide +kernel
theorem dX1_major_1 : decode cX1_major 1 = .ok (.getfield 28, 3) := by decide +kernel
theorem dX1_major_4 : decode cX1_major 4 = .ok (.iload_n 1, 1) := by decide +kernel
theorem dX1_major_5 : decode cX1_major 5 = .ok (.iaload, 1) := by decide +kernel
theorem dX1_major_6 : decode cX1_major 6 = .ok (.ireturn, 1) := by decide +kernel
theorem dX1_keepsTitle_0 : decode cX1_keepsTitle 0 = .ok (.aload_n 0, 1) := by decide +kernel
theorem dX1_keepsTitle_1 : decode cX1_keepsTitle 1 = .ok (.getfield 25, 3) := by decide +kernel
theorem dX1_keepsTitle_4 : decode cX1_keepsTitle 4 = .ok (.iload_n 1, 1) := by decide +kernel
theorem dX1_keepsTitle_5 : decode cX1_keepsTitle 5 = .ok (.iaload, 1) := by decide +kernel
theorem dX1_keepsTitle_6 : decode cX1_keepsTitle 6 = .ok (.istore_n 3, 1) := by decide +kernel
theorem dX1_keepsTitle_7 : decode cX1_keepsTitle 7 = .ok (.iload_n 2, 1) := by decide +kernel
theorem dX1_keepsTitle_8 : decode cX1_keepsTitle 8 = .ok (.ifCond .lt 19, 3) := by decide +kernel
theorem dX1_keepsTitle_11 : decode cX1_keepsTitle 11 = .ok (.iload_n 2, 1) := by decide +kernel
theorem dX1_keepsTitle_12 : decode cX1_keepsTitle 12 = .ok (.iload_n 3, 1) := by decide +kernel
theorem dX1_keepsTitle_13 : decode cX1_keepsTitle 13 = .ok (.if_icmp .ge 14, 3) := by decide +kernel
theorem dX1_keepsTitle_16 : decode cX1_keepsTitle 16 = .ok (.iload_n 2, 1) := by decide +kernel
theorem dX1_keepsTitle_17 : decode cX1_keepsTitle 17 = .ok (.iload_n 3, 1) := by decide +kernel
theorem dX1_keepsTitle_18 : decode cX1_keepsTitle 18 = .ok (.iconst 4, 1) := by decide +kernel
theorem dX1_keepsTitle_19 : decode cX1_keepsTitle 19 = .ok (.isub, 1) := by decide +kernel
theorem dX1_keepsTitle_20 : decode cX1_keepsTitle 20 = .ok (.if_icmp .lt 7, 3) := by decide +kernel
theorem dX1_keepsTitle_23 : decode cX1_keepsTitle 23 = .ok (.iconst 1, 1) := by decide +kernel
theorem dX1_keepsTitle_24 : decode cX1_keepsTitle 24 = .ok (.goto 4, 3) := by decide +kernel
theorem dX1_keepsTitle_27 : decode cX1_keepsTitle 27 = .ok (.iconst 0, 1) := by decide +kernel
theorem dX1_keepsTitle_28 : decode cX1_keepsTitle 28 = .ok (.ireturn, 1) := by decide +kernel
theorem dX1_titleAt_0 : decode cX1_titleAt 0 = .ok (.aload_n 0, 1) := by decide +kernel
theorem dX1_titleAt_1 : decode cX1_titleAt 1 = .ok (.getfield 31, 3) := by decide +kernel
theorem dX1_titleAt_4 : decode cX1_titleAt 4 = .ok (.iload_n 1, 1) := by decide +kernel
theorem dX1_titleAt_5 : decode cX1_titleAt 5 = .ok (.iload_n 2, 1) := by decide +kernel
theorem dX1_titleAt_6 : decode cX1_titleAt 6 = .ok (.invokestatic 47, 3) := by decide +kernel
theorem dX1_titleAt_9 : decode cX1_titleAt 9 = .ok (.laload, 1) := by decide +kernel
theorem dX1_titleAt_10 : decode cX1_titleAt 10 = .ok (.lreturn, 1) := by decide +kernel
theorem dX1_latestTitle_0 : decode cX1_latestTitle 0 = .ok (.aload_n 0, 1) := by decide +kernel
theorem dX1_latestTitle_1 : decode cX1_latestTitle 1 = .ok (.iload_n 1, 1) := by decide +kernel
theorem dX1_latestTitle_2 : decode cX1_latestTitle 2 = .ok (.aload_n 0, 1) := by decide +kernel
theorem dX1_latestTitle_3 : decode cX1_latestTitle 3 = .ok (.getfield 25, 3) := by decide +kernel
theorem dX1_latestTitle_6 : decode cX1_latestTitle 6 = .ok (.iload_n 1, 1) := by decide +kernel
theorem dX1_latestTitle_7 : decode cX1_latestTitle 7 = .ok (.iaload, 1) := by decide +kernel
theorem dX1_latestTitle_8 : decode cX1_latestTitle 8 = .ok (.iconst 1, 1) := by decide +kernel
theorem dX1_latestTitle_9 : decode cX1_latestTitle 9 = .ok (.isub, 1) := by decide +kernel
theorem dX1_latestTitle_10 : decode cX1_latestTitle 10 = .ok (.invokevirtual 51, 3) := by decide +kernel
theorem dX1_latestTitle_13 : decode cX1_latestTitle 13 = .ok (.lreturn, 1) := by decide +kernel
theorem dX1_placeOfTitle_0 : decode cX1_placeOfTitle 0 = .ok (.iload_n 0, 1) := by decide +kernel
theorem dX1_placeOfTitle_1 : decode cX1_placeOfTitle 1 = .ok (.iconst 4, 1) := by decide +kernel
theorem dX1_placeOfTitle_2 : decode cX1_placeOfTitle 2 = .ok (.imul, 1) := by decide +kernel
theorem dX1_placeOfTitle_3 : decode cX1_placeOfTitle 3 = .ok (.iload_n 1, 1) := by decide +kernel
theorem dX1_placeOfTitle_4 : decode cX1_placeOfTitle 4 = .ok (.iconst 4, 1) := by decide +kernel
theorem dX1_placeOfTitle_5 : decode cX1_placeOfTitle 5 = .ok (.invokestatic 55, 3) := by decide +kernel
theorem dX1_placeOfTitle_8 : decode cX1_placeOfTitle 8 = .ok (.iadd, 1) := by decide +kernel
theorem dX1_placeOfTitle_9 : decode cX1_placeOfTitle 9 = .ok (.ireturn, 1) := by decide +kernel
theorem dX1_ownerOfPair_0 : decode cX1_ownerOfPair 0 = .ok (.iload_n 1, 1) := by decide +kernel
theorem dX1_ownerOfPair_1 : decode cX1_ownerOfPair 1 = .ok (.ifCond .lt 20, 3) := by decide +kernel
theorem dX1_ownerOfPair_4 : decode cX1_ownerOfPair 4 = .ok (.iload_n 1, 1) := by decide +kernel
theorem dX1_ownerOfPair_5 : decode cX1_ownerOfPair 5 = .ok (.bipush 6, 2) := by decide +kernel
theorem dX1_ownerOfPair_7 : decode cX1_ownerOfPair 7 = .ok (.if_icmp .ge 14, 3) := by decide +kernel
theorem dX1_ownerOfPair_10 : decode cX1_ownerOfPair 10 = .ok (.iload_n 2, 1) := by decide +kernel
theorem dX1_ownerOfPair_11 : decode cX1_ownerOfPair 11 = .ok (.ifCond .lt 10, 3) := by decide +kernel
theorem dX1_ownerOfPair_14 : decode cX1_ownerOfPair 14 = .ok (.iload_n 2, 1) := by decide +kernel
theorem dX1_ownerOfPair_15 : decode cX1_ownerOfPair 15 = .ok (.sipush 1000, 3) := by decide +kernel
theorem dX1_ownerOfPair_18 : decode cX1_ownerOfPair 18 = .ok (.if_icmp .lt 5, 3) := by decide +kernel
theorem dX1_ownerOfPair_21 : decode cX1_ownerOfPair 21 = .ok (.iconst (-1), 1) := by decide +kernel
theorem dX1_ownerOfPair_22 : decode cX1_ownerOfPair 22 = .ok (.ireturn, 1) := by decide +kernel
theorem dX1_ownerOfPair_23 : decode cX1_ownerOfPair 23 = .ok (.aload_n 0, 1) := by decide +kernel
theorem dX1_ownerOfPair_24 : decode cX1_ownerOfPair 24 = .ok (.getfield 41, 3) := by decide +kernel
theorem dX1_ownerOfPair_27 : decode cX1_ownerOfPair 27 = .ok (.iload_n 1, 1) := by decide +kernel
theorem dX1_ownerOfPair_28 : decode cX1_ownerOfPair 28 = .ok (.sipush 1000, 3) := by decide +kernel
theorem dX1_ownerOfPair_31 : decode cX1_ownerOfPair 31 = .ok (.imul, 1) := by decide +kernel
theorem dX1_ownerOfPair_32 : decode cX1_ownerOfPair 32 = .ok (.iload_n 2, 1) := by decide +kernel
theorem dX1_ownerOfPair_33 : decode cX1_ownerOfPair 33 = .ok (.iadd, 1) := by decide +kernel
theorem dX1_ownerOfPair_34 : decode cX1_ownerOfPair 34 = .ok (.iaload, 1) := by decide +kernel
theorem dX1_ownerOfPair_35 : decode cX1_ownerOfPair 35 = .ok (.iconst 1, 1) := by decide +kernel
theorem dX1_ownerOfPair_36 : decode cX1_ownerOfPair 36 = .ok (.isub, 1) := by decide +kernel
theorem dX1_ownerOfPair_37 : decode cX1_ownerOfPair 37 = .ok (.ireturn, 1) := by decide +kernel
theorem dX1_ownerOfLink_0 : decode cX1_ownerOfLink 0 = .ok (.iload_n 1, 1) := by decide +kernel
theorem dX1_ownerOfLink_1 : decode cX1_ownerOfLink 1 = .ok (.ifCond .lt 10, 3) := by decide +kernel
theorem dX1_ownerOfLink_4 : decode cX1_ownerOfLink 4 = .ok (.iload_n 1, 1) := by decide +kernel
theorem dX1_ownerOfLink_5 : decode cX1_ownerOfLink 5 = .ok (.sipush 1000, 3) := by decide +kernel
theorem dX1_ownerOfLink_8 : decode cX1_ownerOfLink 8 = .ok (.if_icmp .lt 5, 3) := by decide +kernel
theorem dX1_ownerOfLink_11 : decode cX1_ownerOfLink 11 = .ok (.iconst (-1), 1) := by decide +kernel
theorem dX1_ownerOfLink_12 : decode cX1_ownerOfLink 12 = .ok (.ireturn, 1) := by decide +kernel
theorem dX1_ownerOfLink_13 : decode cX1_ownerOfLink 13 = .ok (.aload_n 0, 1) := by decide +kernel
theorem dX1_ownerOfLink_14 : decode cX1_ownerOfLink 14 = .ok (.getfield 44, 3) := by decide +kernel
theorem dX1_ownerOfLink_17 : decode cX1_ownerOfLink 17 = .ok (.iload_n 1, 1) := by decide +kernel
theorem dX1_ownerOfLink_18 : decode cX1_ownerOfLink 18 = .ok (.iaload, 1) := by decide +kernel
theorem dX1_ownerOfLink_19 : decode cX1_ownerOfLink 19 = .ok (.iconst 1, 1) := by decide +kernel
theorem dX1_ownerOfLink_20 : decode cX1_ownerOfLink 20 = .ok (.isub, 1) := by decide +kernel
theorem dX1_ownerOfLink_21 : decode cX1_ownerOfLink 21 = .ok (.ireturn, 1) := by decide +kernel
theorem dX1_mostAlike_0 : decode cX1_mostAlike 0 = .ok (.iconst (-1), 1) := by decide +kernel
theorem dX1_mostAlike_1 : decode cX1_mostAlike 1 = .ok (.istore 5, 2) := by decide +kernel
theorem dX1_mostAlike_3 : decode cX1_mostAlike 3 = .ok (.iload 4, 2) := by decide +kernel
theorem dX1_mostAlike_5 : decode cX1_mostAlike 5 = .ok (.iconst 1, 1) := by decide +kernel
theorem dX1_mostAlike_6 : decode cX1_mostAlike 6 = .ok (.isub, 1) := by decide +kernel
theorem dX1_mostAlike_7 : decode cX1_mostAlike 7 = .ok (.istore 6, 2) := by decide +kernel
theorem dX1_mostAlike_9 : decode cX1_mostAlike 9 = .ok (.iconst 0, 1) := by decide +kernel
theorem dX1_mostAlike_10 : decode cX1_mostAlike 10 = .ok (.istore 7, 2) := by decide +kernel
theorem dX1_mostAlike_12 : decode cX1_mostAlike 12 = .ok (.iload 7, 2) := by decide +kernel
theorem dX1_mostAlike_14 : decode cX1_mostAlike 14 = .ok (.aload_n 0, 1) := by decide +kernel
theorem dX1_mostAlike_15 : decode cX1_mostAlike 15 = .ok (.getfield 9, 3) := by decide +kernel
theorem dX1_mostAlike_18 : decode cX1_mostAlike 18 = .ok (.if_icmp .ge 47, 3) := by decide +kernel
theorem dX1_mostAlike_21 : decode cX1_mostAlike 21 = .ok (.lload_n 1, 1) := by decide +kernel
theorem dX1_mostAlike_22 : decode cX1_mostAlike 22 = .ok (.aload_n 0, 1) := by decide +kernel
theorem dX1_mostAlike_23 : decode cX1_mostAlike 23 = .ok (.iload 7, 2) := by decide +kernel
theorem dX1_mostAlike_25 : decode cX1_mostAlike 25 = .ok (.invokevirtual 60, 3) := by decide +kernel
theorem dX1_mostAlike_28 : decode cX1_mostAlike 28 = .ok (.invokestatic 64, 3) := by decide +kernel
theorem dX1_mostAlike_31 : decode cX1_mostAlike 31 = .ok (.istore 8, 2) := by decide +kernel
theorem dX1_mostAlike_33 : decode cX1_mostAlike 33 = .ok (.aload_n 0, 1) := by decide +kernel
theorem dX1_mostAlike_34 : decode cX1_mostAlike 34 = .ok (.getfield 15, 3) := by decide +kernel
theorem dX1_mostAlike_37 : decode cX1_mostAlike 37 = .ok (.iload 7, 2) := by decide +kernel
theorem dX1_mostAlike_39 : decode cX1_mostAlike 39 = .ok (.iaload, 1) := by decide +kernel
theorem dX1_mostAlike_40 : decode cX1_mostAlike 40 = .ok (.iload_n 3, 1) := by decide +kernel
theorem dX1_mostAlike_41 : decode cX1_mostAlike 41 = .ok (.if_icmp .lt 18, 3) := by decide +kernel
theorem dX1_mostAlike_44 : decode cX1_mostAlike 44 = .ok (.iload 8, 2) := by decide +kernel
theorem dX1_mostAlike_46 : decode cX1_mostAlike 46 = .ok (.iload 6, 2) := by decide +kernel
theorem dX1_mostAlike_48 : decode cX1_mostAlike 48 = .ok (.if_icmp .le 11, 3) := by decide +kernel
theorem dX1_mostAlike_51 : decode cX1_mostAlike 51 = .ok (.iload 7, 2) := by decide +kernel
theorem dX1_mostAlike_53 : decode cX1_mostAlike 53 = .ok (.istore 5, 2) := by decide +kernel
theorem dX1_mostAlike_55 : decode cX1_mostAlike 55 = .ok (.iload 8, 2) := by decide +kernel
theorem dX1_mostAlike_57 : decode cX1_mostAlike 57 = .ok (.istore 6, 2) := by decide +kernel
theorem dX1_mostAlike_59 : decode cX1_mostAlike 59 = .ok (.iinc 7 1, 3) := by decide +kernel
theorem dX1_mostAlike_62 : decode cX1_mostAlike 62 = .ok (.goto (-50), 3) := by decide +kernel
theorem dX1_mostAlike_65 : decode cX1_mostAlike 65 = .ok (.iload 5, 2) := by decide +kernel
theorem dX1_mostAlike_67 : decode cX1_mostAlike 67 = .ok (.ireturn, 1) := by decide +kernel
theorem dX1_append_0 : decode cX1_append 0 = .ok (.aload_n 0, 1) := by decide +kernel
theorem dX1_append_1 : decode cX1_append 1 = .ok (.getfield 9, 3) := by decide +kernel
theorem dX1_append_4 : decode cX1_append 4 = .ok (.bipush 30, 2) := by decide +kernel
theorem dX1_append_6 : decode cX1_append 6 = .ok (.if_icmp .lt 5, 3) := by decide +kernel
theorem dX1_append_9 : decode cX1_append 9 = .ok (.iconst (-1), 1) := by decide +kernel
theorem dX1_append_10 : decode cX1_append 10 = .ok (.ireturn, 1) := by decide +kernel
theorem dX1_append_11 : decode cX1_append 11 = .ok (.aload_n 0, 1) := by decide +kernel
theorem dX1_append_12 : decode cX1_append 12 = .ok (.getfield 9, 3) := by decide +kernel
theorem dX1_append_15 : decode cX1_append 15 = .ok (.istore 5, 2) := by decide +kernel
theorem dX1_append_17 : decode cX1_append 17 = .ok (.aload_n 0, 1) := by decide +kernel
theorem dX1_append_18 : decode cX1_append 18 = .ok (.getfield 15, 3) := by decide +kernel
theorem dX1_append_21 : decode cX1_append 21 = .ok (.iload 5, 2) := by decide +kernel
theorem dX1_append_23 : decode cX1_append 23 = .ok (.iload_n 3, 1) := by decide +kernel
theorem dX1_append_24 : decode cX1_append 24 = .ok (.iastore, 1) := by decide +kernel
theorem dX1_append_25 : decode cX1_append 25 = .ok (.aload_n 0, 1) := by decide +kernel
theorem dX1_append_26 : decode cX1_append 26 = .ok (.getfield 19, 3) := by decide +kernel
theorem dX1_append_29 : decode cX1_append 29 = .ok (.iload 5, 2) := by decide +kernel
theorem dX1_append_31 : decode cX1_append 31 = .ok (.iload 4, 2) := by decide +kernel
theorem dX1_append_33 : decode cX1_append 33 = .ok (.iastore, 1) := by decide +kernel
theorem dX1_append_34 : decode cX1_append 34 = .ok (.aload_n 0, 1) := by decide +kernel
theorem dX1_append_35 : decode cX1_append 35 = .ok (.getfield 31, 3) := by decide +kernel
theorem dX1_append_38 : decode cX1_append 38 = .ok (.iload 5, 2) := by decide +kernel
theorem dX1_append_40 : decode cX1_append 40 = .ok (.iconst 0, 1) := by decide +kernel
theorem dX1_append_41 : decode cX1_append 41 = .ok (.invokestatic 47, 3) := by decide +kernel
theorem dX1_append_44 : decode cX1_append 44 = .ok (.lload_n 1, 1) := by decide +kernel
theorem dX1_append_45 : decode cX1_append 45 = .ok (.lastore, 1) := by decide +kernel
theorem dX1_append_46 : decode cX1_append 46 = .ok (.aload_n 0, 1) := by decide +kernel
theorem dX1_append_47 : decode cX1_append 47 = .ok (.getfield 25, 3) := by decide +kernel
theorem dX1_append_50 : decode cX1_append 50 = .ok (.iload 5, 2) := by decide +kernel
theorem dX1_append_52 : decode cX1_append 52 = .ok (.iconst 1, 1) := by decide +kernel
theorem dX1_append_53 : decode cX1_append 53 = .ok (.iastore, 1) := by decide +kernel
theorem dX1_append_54 : decode cX1_append 54 = .ok (.aload_n 0, 1) := by decide +kernel
theorem dX1_append_55 : decode cX1_append 55 = .ok (.iload 5, 2) := by decide +kernel
theorem dX1_append_57 : decode cX1_append 57 = .ok (.invokevirtual 68, 3) := by decide +kernel
theorem dX1_append_60 : decode cX1_append 60 = .ok (.aload_n 0, 1) := by decide +kernel
theorem dX1_append_61 : decode cX1_append 61 = .ok (.dup, 1) := by decide +kernel
theorem dX1_append_62 : decode cX1_append 62 = .ok (.getfield 9, 3) := by decide +kernel
theorem dX1_append_65 : decode cX1_append 65 = .ok (.iconst 1, 1) := by decide +kernel
theorem dX1_append_66 : decode cX1_append 66 = .ok (.iadd, 1) := by decide +kernel
theorem dX1_append_67 : decode cX1_append 67 = .ok (.putfield 9, 3) := by decide +kernel
theorem dX1_append_70 : decode cX1_append 70 = .ok (.iload 5, 2) := by decide +kernel
theorem dX1_append_72 : decode cX1_append 72 = .ok (.ireturn, 1) := by decide +kernel
theorem dX1_keepInOrder_0 : decode cX1_keepInOrder 0 = .ok (.aload_n 0, 1) := by decide +kernel
theorem dX1_keepInOrder_1 : decode cX1_keepInOrder 1 = .ok (.getfield 9, 3) := by decide +kernel
theorem dX1_keepInOrder_4 : decode cX1_keepInOrder 4 = .ok (.istore_n 2, 1) := by decide +kernel
theorem dX1_keepInOrder_5 : decode cX1_keepInOrder 5 = .ok (.iload_n 2, 1) := by decide +kernel
theorem dX1_keepInOrder_6 : decode cX1_keepInOrder 6 = .ok (.ifCond .le 39, 3) := by decide +kernel
theorem dX1_keepInOrder_9 : decode cX1_keepInOrder 9 = .ok (.aload_n 0, 1) := by decide +kernel
theorem dX1_keepInOrder_10 : decode cX1_keepInOrder 10 = .ok (.iload_n 1, 1) := by decide +kernel
theorem dX1_keepInOrder_11 : decode cX1_keepInOrder 11 = .ok (.aload_n 0, 1) := by decide +kernel
theorem dX1_keepInOrder_12 : decode cX1_keepInOrder 12 = .ok (.getfield 35, 3) := by decide +kernel
theorem dX1_keepInOrder_15 : decode cX1_keepInOrder 15 = .ok (.iload_n 2, 1) := by decide +kernel
theorem dX1_keepInOrder_16 : decode cX1_keepInOrder 16 = .ok (.iconst 1, 1) := by decide +kernel
theorem dX1_keepInOrder_17 : decode cX1_keepInOrder 17 = .ok (.isub, 1) := by decide +kernel
theorem dX1_keepInOrder_18 : decode cX1_keepInOrder 18 = .ok (.iaload, 1) := by decide +kernel
theorem dX1_keepInOrder_19 : decode cX1_keepInOrder 19 = .ok (.invokevirtual 72, 3) := by decide +kernel
theorem dX1_keepInOrder_22 : decode cX1_keepInOrder 22 = .ok (.ifCond .eq 23, 3) := by decide +kernel
theorem dX1_keepInOrder_25 : decode cX1_keepInOrder 25 = .ok (.aload_n 0, 1) := by decide +kernel
theorem dX1_keepInOrder_26 : decode cX1_keepInOrder 26 = .ok (.getfield 35, 3) := by decide +kernel
theorem dX1_keepInOrder_29 : decode cX1_keepInOrder 29 = .ok (.iload_n 2, 1) := by decide +kernel
theorem dX1_keepInOrder_30 : decode cX1_keepInOrder 30 = .ok (.aload_n 0, 1) := by decide +kernel
theorem dX1_keepInOrder_31 : decode cX1_keepInOrder 31 = .ok (.getfield 35, 3) := by decide +kernel
theorem dX1_keepInOrder_34 : decode cX1_keepInOrder 34 = .ok (.iload_n 2, 1) := by decide +kernel
theorem dX1_keepInOrder_35 : decode cX1_keepInOrder 35 = .ok (.iconst 1, 1) := by decide +kernel
theorem dX1_keepInOrder_36 : decode cX1_keepInOrder 36 = .ok (.isub, 1) := by decide +kernel
theorem dX1_keepInOrder_37 : decode cX1_keepInOrder 37 = .ok (.iaload, 1) := by decide +kernel
theorem dX1_keepInOrder_38 : decode cX1_keepInOrder 38 = .ok (.iastore, 1) := by decide +kernel
theorem dX1_keepInOrder_39 : decode cX1_keepInOrder 39 = .ok (.iinc 2 (-1), 3) := by decide +kernel
theorem dX1_keepInOrder_42 : decode cX1_keepInOrder 42 = .ok (.goto (-37), 3) := by decide +kernel
theorem dX1_keepInOrder_45 : decode cX1_keepInOrder 45 = .ok (.aload_n 0, 1) := by decide +kernel
theorem dX1_keepInOrder_46 : decode cX1_keepInOrder 46 = .ok (.getfield 35, 3) := by decide +kernel
theorem dX1_keepInOrder_49 : decode cX1_keepInOrder 49 = .ok (.iload_n 2, 1) := by decide +kernel
theorem dX1_keepInOrder_50 : decode cX1_keepInOrder 50 = .ok (.iload_n 1, 1) := by decide +kernel
theorem dX1_keepInOrder_51 : decode cX1_keepInOrder 51 = .ok (.iastore, 1) := by decide +kernel
theorem dX1_keepInOrder_52 : decode cX1_keepInOrder 52 = .ok (.return_, 1) := by decide +kernel
theorem dX1_renew_0 : decode cX1_renew 0 = .ok (.aload_n 0, 1) := by decide +kernel
theorem dX1_renew_1 : decode cX1_renew 1 = .ok (.iload_n 1, 1) := by decide +kernel
theorem dX1_renew_2 : decode cX1_renew 2 = .ok (.invokevirtual 60, 3) := by decide +kernel
theorem dX1_renew_5 : decode cX1_renew 5 = .ok (.lstore 5, 2) := by decide +kernel
theorem dX1_renew_7 : decode cX1_renew 7 = .ok (.lload_n 2, 1) := by decide +kernel
theorem dX1_renew_8 : decode cX1_renew 8 = .ok (.lload 5, 2) := by decide +kernel
theorem dX1_renew_10 : decode cX1_renew 10 = .ok (.lcmp, 1) := by decide +kernel
theorem dX1_renew_11 : decode cX1_renew 11 = .ok (.ifCond .ne 4, 3) := by decide +kernel
theorem dX1_renew_14 : decode cX1_renew 14 = .ok (.return_, 1) := by decide +kernel
theorem dX1_renew_15 : decode cX1_renew 15 = .ok (.aload_n 0, 1) := by decide +kernel
theorem dX1_renew_16 : decode cX1_renew 16 = .ok (.getfield 25, 3) := by decide +kernel
theorem dX1_renew_19 : decode cX1_renew 19 = .ok (.iload_n 1, 1) := by decide +kernel
theorem dX1_renew_20 : decode cX1_renew 20 = .ok (.iaload, 1) := by decide +kernel
theorem dX1_renew_21 : decode cX1_renew 21 = .ok (.istore 7, 2) := by decide +kernel
theorem dX1_renew_23 : decode cX1_renew 23 = .ok (.aload_n 0, 1) := by decide +kernel
theorem dX1_renew_24 : decode cX1_renew 24 = .ok (.getfield 31, 3) := by decide +kernel
theorem dX1_renew_27 : decode cX1_renew 27 = .ok (.iload_n 1, 1) := by decide +kernel
theorem dX1_renew_28 : decode cX1_renew 28 = .ok (.iload 7, 2) := by decide +kernel
theorem dX1_renew_30 : decode cX1_renew 30 = .ok (.invokestatic 47, 3) := by decide +kernel
theorem dX1_renew_33 : decode cX1_renew 33 = .ok (.lload_n 2, 1) := by decide +kernel
theorem dX1_renew_34 : decode cX1_renew 34 = .ok (.lastore, 1) := by decide +kernel
theorem dX1_renew_35 : decode cX1_renew 35 = .ok (.aload_n 0, 1) := by decide +kernel
theorem dX1_renew_36 : decode cX1_renew 36 = .ok (.getfield 25, 3) := by decide +kernel
theorem dX1_renew_39 : decode cX1_renew 39 = .ok (.iload_n 1, 1) := by decide +kernel
theorem dX1_renew_40 : decode cX1_renew 40 = .ok (.iload 7, 2) := by decide +kernel
theorem dX1_renew_42 : decode cX1_renew 42 = .ok (.iconst 1, 1) := by decide +kernel
theorem dX1_renew_43 : decode cX1_renew 43 = .ok (.iadd, 1) := by decide +kernel
theorem dX1_renew_44 : decode cX1_renew 44 = .ok (.iastore, 1) := by decide +kernel
theorem dX1_renew_45 : decode cX1_renew 45 = .ok (.lload_n 2, 1) := by decide +kernel
theorem dX1_renew_46 : decode cX1_renew 46 = .ok (.lload 5, 2) := by decide +kernel
theorem dX1_renew_48 : decode cX1_renew 48 = .ok (.invokestatic 64, 3) := by decide +kernel
theorem dX1_renew_51 : decode cX1_renew 51 = .ok (.iload 4, 2) := by decide +kernel
theorem dX1_renew_53 : decode cX1_renew 53 = .ok (.if_icmp .ge 11, 3) := by decide +kernel
theorem dX1_renew_56 : decode cX1_renew 56 = .ok (.aload_n 0, 1) := by decide +kernel
theorem dX1_renew_57 : decode cX1_renew 57 = .ok (.getfield 28, 3) := by decide +kernel
theorem dX1_renew_60 : decode cX1_renew 60 = .ok (.iload_n 1, 1) := by decide +kernel
theorem dX1_renew_61 : decode cX1_renew 61 = .ok (.iload 7, 2) := by decide +kernel
theorem dX1_renew_63 : decode cX1_renew 63 = .ok (.iastore, 1) := by decide +kernel
theorem dX1_renew_64 : decode cX1_renew 64 = .ok (.return_, 1) := by decide +kernel
theorem dX1_addTeller_0 : decode cX1_addTeller 0 = .ok (.aload_n 0, 1) := by decide +kernel
theorem dX1_addTeller_1 : decode cX1_addTeller 1 = .ok (.getfield 22, 3) := by decide +kernel
theorem dX1_addTeller_4 : decode cX1_addTeller 4 = .ok (.iload_n 1, 1) := by decide +kernel
theorem dX1_addTeller_5 : decode cX1_addTeller 5 = .ok (.dup2, 1) := by decide +kernel
theorem dX1_addTeller_6 : decode cX1_addTeller 6 = .ok (.iaload, 1) := by decide +kernel
theorem dX1_addTeller_7 : decode cX1_addTeller 7 = .ok (.iconst 1, 1) := by decide +kernel
theorem dX1_addTeller_8 : decode cX1_addTeller 8 = .ok (.iload_n 2, 1) := by decide +kernel
theorem dX1_addTeller_9 : decode cX1_addTeller 9 = .ok (.ishl, 1) := by decide +kernel
theorem dX1_addTeller_10 : decode cX1_addTeller 10 = .ok (.ior, 1) := by decide +kernel
theorem dX1_addTeller_11 : decode cX1_addTeller 11 = .ok (.iastore, 1) := by decide +kernel
theorem dX1_addTeller_12 : decode cX1_addTeller 12 = .ok (.return_, 1) := by decide +kernel
theorem dX1_claimPair_0 : decode cX1_claimPair 0 = .ok (.iload_n 3, 1) := by decide +kernel
theorem dX1_claimPair_1 : decode cX1_claimPair 1 = .ok (.iconst (-1), 1) := by decide +kernel
theorem dX1_claimPair_2 : decode cX1_claimPair 2 = .ok (.if_icmp .eq 28, 3) := by decide +kernel
theorem dX1_claimPair_5 : decode cX1_claimPair 5 = .ok (.aload_n 0, 1) := by decide +kernel
theorem dX1_claimPair_6 : decode cX1_claimPair 6 = .ok (.iload_n 2, 1) := by decide +kernel
theorem dX1_claimPair_7 : decode cX1_claimPair 7 = .ok (.iload_n 3, 1) := by decide +kernel
theorem dX1_claimPair_8 : decode cX1_claimPair 8 = .ok (.invokevirtual 76, 3) := by decide +kernel
theorem dX1_claimPair_11 : decode cX1_claimPair 11 = .ok (.iconst (-1), 1) := by decide +kernel
theorem dX1_claimPair_12 : decode cX1_claimPair 12 = .ok (.if_icmp .ne 18, 3) := by decide +kernel
theorem dX1_claimPair_15 : decode cX1_claimPair 15 = .ok (.aload_n 0, 1) := by decide +kernel
theorem dX1_claimPair_16 : decode cX1_claimPair 16 = .ok (.getfield 41, 3) := by decide +kernel
theorem dX1_claimPair_19 : decode cX1_claimPair 19 = .ok (.iload_n 2, 1) := by decide +kernel
theorem dX1_claimPair_20 : decode cX1_claimPair 20 = .ok (.sipush 1000, 3) := by decide +kernel
theorem dX1_claimPair_23 : decode cX1_claimPair 23 = .ok (.imul, 1) := by decide +kernel
theorem dX1_claimPair_24 : decode cX1_claimPair 24 = .ok (.iload_n 3, 1) := by decide +kernel
theorem dX1_claimPair_25 : decode cX1_claimPair 25 = .ok (.iadd, 1) := by decide +kernel
theorem dX1_claimPair_26 : decode cX1_claimPair 26 = .ok (.iload_n 1, 1) := by decide +kernel
theorem dX1_claimPair_27 : decode cX1_claimPair 27 = .ok (.iconst 1, 1) := by decide +kernel
theorem dX1_claimPair_28 : decode cX1_claimPair 28 = .ok (.iadd, 1) := by decide +kernel
theorem dX1_claimPair_29 : decode cX1_claimPair 29 = .ok (.iastore, 1) := by decide +kernel
theorem dX1_claimPair_30 : decode cX1_claimPair 30 = .ok (.return_, 1) := by decide +kernel
theorem dX1_claimLink_0 : decode cX1_claimLink 0 = .ok (.iload_n 2, 1) := by decide +kernel
theorem dX1_claimLink_1 : decode cX1_claimLink 1 = .ok (.iconst (-1), 1) := by decide +kernel
theorem dX1_claimLink_2 : decode cX1_claimLink 2 = .ok (.if_icmp .eq 21, 3) := by decide +kernel
theorem dX1_claimLink_5 : decode cX1_claimLink 5 = .ok (.aload_n 0, 1) := by decide +kernel
theorem dX1_claimLink_6 : decode cX1_claimLink 6 = .ok (.iload_n 2, 1) := by decide +kernel
theorem dX1_claimLink_7 : decode cX1_claimLink 7 = .ok (.invokevirtual 79, 3) := by decide +kernel
theorem dX1_claimLink_10 : decode cX1_claimLink 10 = .ok (.iconst (-1), 1) := by decide +kernel
theorem dX1_claimLink_11 : decode cX1_claimLink 11 = .ok (.if_icmp .ne 12, 3) := by decide +kernel
theorem dX1_claimLink_14 : decode cX1_claimLink 14 = .ok (.aload_n 0, 1) := by decide +kernel
theorem dX1_claimLink_15 : decode cX1_claimLink 15 = .ok (.getfield 44, 3) := by decide +kernel
theorem dX1_claimLink_18 : decode cX1_claimLink 18 = .ok (.iload_n 2, 1) := by decide +kernel
theorem dX1_claimLink_19 : decode cX1_claimLink 19 = .ok (.iload_n 1, 1) := by decide +kernel
theorem dX1_claimLink_20 : decode cX1_claimLink 20 = .ok (.iconst 1, 1) := by decide +kernel
theorem dX1_claimLink_21 : decode cX1_claimLink 21 = .ok (.iadd, 1) := by decide +kernel
theorem dX1_claimLink_22 : decode cX1_claimLink 22 = .ok (.iastore, 1) := by decide +kernel
theorem dX1_claimLink_23 : decode cX1_claimLink 23 = .ok (.return_, 1) := by decide +kernel
theorem dX1_keptOrder_0 : decode cX1_keptOrder 0 = .ok (.aload_n 0, 1) := by decide +kernel
theorem dX1_keptOrder_1 : decode cX1_keptOrder 1 = .ok (.getfield 35, 3) := by decide +kernel
theorem dX1_keptOrder_4 : decode cX1_keptOrder 4 = .ok (.areturn, 1) := by decide +kernel
theorem dX1_orderAnew_0 : decode cX1_orderAnew 0 = .ok (.iconst 0, 1) := by decide +kernel
theorem dX1_orderAnew_1 : decode cX1_orderAnew 1 = .ok (.istore_n 1, 1) := by decide +kernel
theorem dX1_orderAnew_2 : decode cX1_orderAnew 2 = .ok (.iload_n 1, 1) := by decide +kernel
theorem dX1_orderAnew_3 : decode cX1_orderAnew 3 = .ok (.aload_n 0, 1) := by decide +kernel
theorem dX1_orderAnew_4 : decode cX1_orderAnew 4 = .ok (.getfield 9, 3) := by decide +kernel
theorem dX1_orderAnew_7 : decode cX1_orderAnew 7 = .ok (.if_icmp .ge 16, 3) := by decide +kernel
theorem dX1_orderAnew_10 : decode cX1_orderAnew 10 = .ok (.aload_n 0, 1) := by decide +kernel
theorem dX1_orderAnew_11 : decode cX1_orderAnew 11 = .ok (.getfield 38, 3) := by decide +kernel
theorem dX1_orderAnew_14 : decode cX1_orderAnew 14 = .ok (.iload_n 1, 1) := by decide +kernel
theorem dX1_orderAnew_15 : decode cX1_orderAnew 15 = .ok (.iload_n 1, 1) := by decide +kernel
theorem dX1_orderAnew_16 : decode cX1_orderAnew 16 = .ok (.iastore, 1) := by decide +kernel
theorem dX1_orderAnew_17 : decode cX1_orderAnew 17 = .ok (.iinc 1 1, 3) := by decide +kernel
theorem dX1_orderAnew_20 : decode cX1_orderAnew 20 = .ok (.goto (-18), 3) := by decide +kernel
theorem dX1_orderAnew_23 : decode cX1_orderAnew 23 = .ok (.iconst 0, 1) := by decide +kernel
theorem dX1_orderAnew_24 : decode cX1_orderAnew 24 = .ok (.istore_n 1, 1) := by decide +kernel
theorem dX1_orderAnew_25 : decode cX1_orderAnew 25 = .ok (.iload_n 1, 1) := by decide +kernel
theorem dX1_orderAnew_26 : decode cX1_orderAnew 26 = .ok (.aload_n 0, 1) := by decide +kernel
theorem dX1_orderAnew_27 : decode cX1_orderAnew 27 = .ok (.getfield 9, 3) := by decide +kernel
theorem dX1_orderAnew_30 : decode cX1_orderAnew 30 = .ok (.if_icmp .ge 76, 3) := by decide +kernel
theorem dX1_orderAnew_33 : decode cX1_orderAnew 33 = .ok (.iload_n 1, 1) := by decide +kernel
theorem dX1_orderAnew_34 : decode cX1_orderAnew 34 = .ok (.istore_n 2, 1) := by decide +kernel
theorem dX1_orderAnew_35 : decode cX1_orderAnew 35 = .ok (.iload_n 1, 1) := by decide +kernel
theorem dX1_orderAnew_36 : decode cX1_orderAnew 36 = .ok (.iconst 1, 1) := by decide +kernel
theorem dX1_orderAnew_37 : decode cX1_orderAnew 37 = .ok (.iadd, 1) := by decide +kernel
theorem dX1_orderAnew_38 : decode cX1_orderAnew 38 = .ok (.istore_n 3, 1) := by decide +kernel
theorem dX1_orderAnew_39 : decode cX1_orderAnew 39 = .ok (.iload_n 3, 1) := by decide +kernel
theorem dX1_orderAnew_40 : decode cX1_orderAnew 40 = .ok (.aload_n 0, 1) := by decide +kernel
theorem dX1_orderAnew_41 : decode cX1_orderAnew 41 = .ok (.getfield 9, 3) := by decide +kernel
theorem dX1_orderAnew_44 : decode cX1_orderAnew 44 = .ok (.if_icmp .ge 30, 3) := by decide +kernel
theorem dX1_orderAnew_47 : decode cX1_orderAnew 47 = .ok (.aload_n 0, 1) := by decide +kernel
theorem dX1_orderAnew_48 : decode cX1_orderAnew 48 = .ok (.aload_n 0, 1) := by decide +kernel
theorem dX1_orderAnew_49 : decode cX1_orderAnew 49 = .ok (.getfield 38, 3) := by decide +kernel
theorem dX1_orderAnew_52 : decode cX1_orderAnew 52 = .ok (.iload_n 3, 1) := by decide +kernel
theorem dX1_orderAnew_53 : decode cX1_orderAnew 53 = .ok (.iaload, 1) := by decide +kernel
theorem dX1_orderAnew_54 : decode cX1_orderAnew 54 = .ok (.aload_n 0, 1) := by decide +kernel
theorem dX1_orderAnew_55 : decode cX1_orderAnew 55 = .ok (.getfield 38, 3) := by decide +kernel
theorem dX1_orderAnew_58 : decode cX1_orderAnew 58 = .ok (.iload_n 2, 1) := by decide +kernel
theorem dX1_orderAnew_59 : decode cX1_orderAnew 59 = .ok (.iaload, 1) := by decide +kernel
theorem dX1_orderAnew_60 : decode cX1_orderAnew 60 = .ok (.invokevirtual 72, 3) := by decide +kernel
theorem dX1_orderAnew_63 : decode cX1_orderAnew 63 = .ok (.ifCond .eq 5, 3) := by decide +kernel
theorem dX1_orderAnew_66 : decode cX1_orderAnew 66 = .ok (.iload_n 3, 1) := by decide +kernel
theorem dX1_orderAnew_67 : decode cX1_orderAnew 67 = .ok (.istore_n 2, 1) := by decide +kernel
theorem dX1_orderAnew_68 : decode cX1_orderAnew 68 = .ok (.iinc 3 1, 3) := by decide +kernel
theorem dX1_orderAnew_71 : decode cX1_orderAnew 71 = .ok (.goto (-32), 3) := by decide +kernel
theorem dX1_orderAnew_74 : decode cX1_orderAnew 74 = .ok (.aload_n 0, 1) := by decide +kernel
theorem dX1_orderAnew_75 : decode cX1_orderAnew 75 = .ok (.getfield 38, 3) := by decide +kernel
theorem dX1_orderAnew_78 : decode cX1_orderAnew 78 = .ok (.iload_n 2, 1) := by decide +kernel
theorem dX1_orderAnew_79 : decode cX1_orderAnew 79 = .ok (.iaload, 1) := by decide +kernel
theorem dX1_orderAnew_80 : decode cX1_orderAnew 80 = .ok (.istore_n 3, 1) := by decide +kernel
theorem dX1_orderAnew_81 : decode cX1_orderAnew 81 = .ok (.aload_n 0, 1) := by decide +kernel
theorem dX1_orderAnew_82 : decode cX1_orderAnew 82 = .ok (.getfield 38, 3) := by decide +kernel
theorem dX1_orderAnew_85 : decode cX1_orderAnew 85 = .ok (.iload_n 2, 1) := by decide +kernel
theorem dX1_orderAnew_86 : decode cX1_orderAnew 86 = .ok (.aload_n 0, 1) := by decide +kernel
theorem dX1_orderAnew_87 : decode cX1_orderAnew 87 = .ok (.getfield 38, 3) := by decide +kernel
theorem dX1_orderAnew_90 : decode cX1_orderAnew 90 = .ok (.iload_n 1, 1) := by decide +kernel
theorem dX1_orderAnew_91 : decode cX1_orderAnew 91 = .ok (.iaload, 1) := by decide +kernel
theorem dX1_orderAnew_92 : decode cX1_orderAnew 92 = .ok (.iastore, 1) := by decide +kernel
theorem dX1_orderAnew_93 : decode cX1_orderAnew 93 = .ok (.aload_n 0, 1) := by decide +kernel
theorem dX1_orderAnew_94 : decode cX1_orderAnew 94 = .ok (.getfield 38, 3) := by decide +kernel
theorem dX1_orderAnew_97 : decode cX1_orderAnew 97 = .ok (.iload_n 1, 1) := by decide +kernel
theorem dX1_orderAnew_98 : decode cX1_orderAnew 98 = .ok (.iload_n 3, 1) := by decide +kernel
theorem dX1_orderAnew_99 : decode cX1_orderAnew 99 = .ok (.iastore, 1) := by decide +kernel
theorem dX1_orderAnew_100 : decode cX1_orderAnew 100 = .ok (.iinc 1 1, 3) := by decide +kernel
theorem dX1_orderAnew_103 : decode cX1_orderAnew 103 = .ok (.goto (-78), 3) := by decide +kernel
theorem dX1_orderAnew_106 : decode cX1_orderAnew 106 = .ok (.aload_n 0, 1) := by decide +kernel
theorem dX1_orderAnew_107 : decode cX1_orderAnew 107 = .ok (.getfield 38, 3) := by decide +kernel
theorem dX1_orderAnew_110 : decode cX1_orderAnew 110 = .ok (.areturn, 1) := by decide +kernel
theorem dX1_isAhead_0 : decode cX1_isAhead 0 = .ok (.aload_n 0, 1) := by decide +kernel
theorem dX1_isAhead_1 : decode cX1_isAhead 1 = .ok (.getfield 19, 3) := by decide +kernel
theorem dX1_isAhead_4 : decode cX1_isAhead 4 = .ok (.iload_n 1, 1) := by decide +kernel
theorem dX1_isAhead_5 : decode cX1_isAhead 5 = .ok (.iaload, 1) := by decide +kernel
theorem dX1_isAhead_6 : decode cX1_isAhead 6 = .ok (.aload_n 0, 1) := by decide +kernel
theorem dX1_isAhead_7 : decode cX1_isAhead 7 = .ok (.getfield 19, 3) := by decide +kernel
theorem dX1_isAhead_10 : decode cX1_isAhead 10 = .ok (.iload_n 2, 1) := by decide +kernel
theorem dX1_isAhead_11 : decode cX1_isAhead 11 = .ok (.iaload, 1) := by decide +kernel
theorem dX1_isAhead_12 : decode cX1_isAhead 12 = .ok (.if_icmp .eq 24, 3) := by decide +kernel
theorem dX1_isAhead_15 : decode cX1_isAhead 15 = .ok (.aload_n 0, 1) := by decide +kernel
theorem dX1_isAhead_16 : decode cX1_isAhead 16 = .ok (.getfield 19, 3) := by decide +kernel
theorem dX1_isAhead_19 : decode cX1_isAhead 19 = .ok (.iload_n 1, 1) := by decide +kernel
theorem dX1_isAhead_20 : decode cX1_isAhead 20 = .ok (.iaload, 1) := by decide +kernel
theorem dX1_isAhead_21 : decode cX1_isAhead 21 = .ok (.aload_n 0, 1) := by decide +kernel
theorem dX1_isAhead_22 : decode cX1_isAhead 22 = .ok (.getfield 19, 3) := by decide +kernel
theorem dX1_isAhead_25 : decode cX1_isAhead 25 = .ok (.iload_n 2, 1) := by decide +kernel
theorem dX1_isAhead_26 : decode cX1_isAhead 26 = .ok (.iaload, 1) := by decide +kernel
theorem dX1_isAhead_27 : decode cX1_isAhead 27 = .ok (.if_icmp .le 7, 3) := by decide +kernel
theorem dX1_isAhead_30 : decode cX1_isAhead 30 = .ok (.iconst 1, 1) := by decide +kernel
theorem dX1_isAhead_31 : decode cX1_isAhead 31 = .ok (.goto 4, 3) := by decide +kernel
theorem dX1_isAhead_34 : decode cX1_isAhead 34 = .ok (.iconst 0, 1) := by decide +kernel
theorem dX1_isAhead_35 : decode cX1_isAhead 35 = .ok (.ireturn, 1) := by decide +kernel
theorem dX1_isAhead_36 : decode cX1_isAhead 36 = .ok (.iload_n 1, 1) := by decide +kernel
theorem dX1_isAhead_37 : decode cX1_isAhead 37 = .ok (.iload_n 2, 1) := by decide +kernel
theorem dX1_isAhead_38 : decode cX1_isAhead 38 = .ok (.if_icmp .le 7, 3) := by decide +kernel
theorem dX1_isAhead_41 : decode cX1_isAhead 41 = .ok (.iconst 1, 1) := by decide +kernel
theorem dX1_isAhead_42 : decode cX1_isAhead 42 = .ok (.goto 4, 3) := by decide +kernel
theorem dX1_isAhead_45 : decode cX1_isAhead 45 = .ok (.iconst 0, 1) := by decide +kernel
theorem dX1_isAhead_46 : decode cX1_isAhead 46 = .ok (.ireturn, 1) := by decide +kernel
theorem dX2_init_0 : decode cX2_init 0 = .ok (.aload_n 0, 1) := by decide +kernel
theorem dX2_init_1 : decode cX2_init 1 = .ok (.invokespecial 3, 3) := by decide +kernel
theorem dX2_init_4 : decode cX2_init 4 = .ok (.aload_n 0, 1) := by decide +kernel
theorem dX2_init_5 : decode cX2_init 5 = .ok (.sipush 150, 3) := by decide +kernel
theorem dX2_init_8 : decode cX2_init 8 = .ok (.newarray .int, 2) := by decide +kernel
theorem dX2_init_10 : decode cX2_init 10 = .ok (.putfield 9, 3) := by decide +kernel
theorem dX2_init_13 : decode cX2_init 13 = .ok (.aload_n 0, 1) := by decide +kernel
theorem dX2_init_14 : decode cX2_init 14 = .ok (.sipush 150, 3) := by decide +kernel
theorem dX2_init_17 : decode cX2_init 17 = .ok (.newarray .int, 2) := by decide +kernel
theorem dX2_init_19 : decode cX2_init 19 = .ok (.putfield 15, 3) := by decide +kernel
theorem dX2_init_22 : decode cX2_init 22 = .ok (.aload_n 0, 1) := by decide +kernel
theorem dX2_init_23 : decode cX2_init 23 = .ok (.sipush 150, 3) := by decide +kernel
theorem dX2_init_26 : decode cX2_init 26 = .ok (.newarray .int, 2) := by decide +kernel
theorem dX2_init_28 : decode cX2_init 28 = .ok (.putfield 18, 3) := by decide +kernel
theorem dX2_init_31 : decode cX2_init 31 = .ok (.return_, 1) := by decide +kernel
theorem dX2_put_0 : decode cX2_put 0 = .ok (.iload_n 1, 1) := by decide +kernel
theorem dX2_put_1 : decode cX2_put 1 = .ok (.bipush 30, 2) := by decide +kernel
theorem dX2_put_3 : decode cX2_put 3 = .ok (.imul, 1) := by decide +kernel
theorem dX2_put_4 : decode cX2_put 4 = .ok (.iload_n 2, 1) := by decide +kernel
theorem dX2_put_5 : decode cX2_put 5 = .ok (.iadd, 1) := by decide +kernel
theorem dX2_put_6 : decode cX2_put 6 = .ok (.istore 6, 2) := by decide +kernel
theorem dX2_put_8 : decode cX2_put 8 = .ok (.aload_n 0, 1) := by decide +kernel
theorem dX2_put_9 : decode cX2_put 9 = .ok (.getfield 9, 3) := by decide +kernel
theorem dX2_put_12 : decode cX2_put 12 = .ok (.iload 6, 2) := by decide +kernel
theorem dX2_put_14 : decode cX2_put 14 = .ok (.iload_n 3, 1) := by decide +kernel
theorem dX2_put_15 : decode cX2_put 15 = .ok (.ifCond .eq 7, 3) := by decide +kernel
theorem dX2_put_18 : decode cX2_put 18 = .ok (.iconst 2, 1) := by decide +kernel
theorem dX2_put_19 : decode cX2_put 19 = .ok (.goto 4, 3) := by decide +kernel
theorem dX2_put_22 : decode cX2_put 22 = .ok (.iconst 1, 1) := by decide +kernel
theorem dX2_put_23 : decode cX2_put 23 = .ok (.iastore, 1) := by decide +kernel
theorem dX2_put_24 : decode cX2_put 24 = .ok (.aload_n 0, 1) := by decide +kernel
theorem dX2_put_25 : decode cX2_put 25 = .ok (.getfield 15, 3) := by decide +kernel
theorem dX2_put_28 : decode cX2_put 28 = .ok (.iload 6, 2) := by decide +kernel
theorem dX2_put_30 : decode cX2_put 30 = .ok (.iload 4, 2) := by decide +kernel
theorem dX2_put_32 : decode cX2_put 32 = .ok (.iastore, 1) := by decide +kernel
theorem dX2_put_33 : decode cX2_put 33 = .ok (.aload_n 0, 1) := by decide +kernel
theorem dX2_put_34 : decode cX2_put 34 = .ok (.getfield 18, 3) := by decide +kernel
theorem dX2_put_37 : decode cX2_put 37 = .ok (.iload 6, 2) := by decide +kernel
theorem dX2_put_39 : decode cX2_put 39 = .ok (.iload 5, 2) := by decide +kernel
theorem dX2_put_41 : decode cX2_put 41 = .ok (.iastore, 1) := by decide +kernel
theorem dX2_put_42 : decode cX2_put 42 = .ok (.return_, 1) := by decide +kernel
theorem dX2_copy_0 : decode cX2_copy 0 = .ok (.iload_n 1, 1) := by decide +kernel
theorem dX2_copy_1 : decode cX2_copy 1 = .ok (.bipush 30, 2) := by decide +kernel
theorem dX2_copy_3 : decode cX2_copy 3 = .ok (.imul, 1) := by decide +kernel
theorem dX2_copy_4 : decode cX2_copy 4 = .ok (.iload_n 3, 1) := by decide +kernel
theorem dX2_copy_5 : decode cX2_copy 5 = .ok (.iadd, 1) := by decide +kernel
theorem dX2_copy_6 : decode cX2_copy 6 = .ok (.istore 4, 2) := by decide +kernel
theorem dX2_copy_8 : decode cX2_copy 8 = .ok (.iload_n 2, 1) := by decide +kernel
theorem dX2_copy_9 : decode cX2_copy 9 = .ok (.bipush 30, 2) := by decide +kernel
theorem dX2_copy_11 : decode cX2_copy 11 = .ok (.imul, 1) := by decide +kernel
theorem dX2_copy_12 : decode cX2_copy 12 = .ok (.iload_n 3, 1) := by decide +kernel
theorem dX2_copy_13 : decode cX2_copy 13 = .ok (.iadd, 1) := by decide +kernel
theorem dX2_copy_14 : decode cX2_copy 14 = .ok (.istore 5, 2) := by decide +kernel
theorem dX2_copy_16 : decode cX2_copy 16 = .ok (.aload_n 0, 1) := by decide +kernel
theorem dX2_copy_17 : decode cX2_copy 17 = .ok (.getfield 9, 3) := by decide +kernel
theorem dX2_copy_20 : decode cX2_copy 20 = .ok (.iload 5, 2) := by decide +kernel
theorem dX2_copy_22 : decode cX2_copy 22 = .ok (.aload_n 0, 1) := by decide +kernel
theorem dX2_copy_23 : decode cX2_copy 23 = .ok (.getfield 9, 3) := by decide +kernel
theorem dX2_copy_26 : decode cX2_copy 26 = .ok (.iload 4, 2) := by decide +kernel
theorem dX2_copy_28 : decode cX2_copy 28 = .ok (.iaload, 1) := by decide +kernel
theorem dX2_copy_29 : decode cX2_copy 29 = .ok (.iastore, 1) := by decide +kernel
theorem dX2_copy_30 : decode cX2_copy 30 = .ok (.aload_n 0, 1) := by decide +kernel
theorem dX2_copy_31 : decode cX2_copy 31 = .ok (.getfield 15, 3) := by decide +kernel
theorem dX2_copy_34 : decode cX2_copy 34 = .ok (.iload 5, 2) := by decide +kernel
theorem dX2_copy_36 : decode cX2_copy 36 = .ok (.aload_n 0, 1) := by decide +kernel
theorem dX2_copy_37 : decode cX2_copy 37 = .ok (.getfield 15, 3) := by decide +kernel
theorem dX2_copy_40 : decode cX2_copy 40 = .ok (.iload 4, 2) := by decide +kernel
theorem dX2_copy_42 : decode cX2_copy 42 = .ok (.iaload, 1) := by decide +kernel
theorem dX2_copy_43 : decode cX2_copy 43 = .ok (.iastore, 1) := by decide +kernel
theorem dX2_copy_44 : decode cX2_copy 44 = .ok (.aload_n 0, 1) := by decide +kernel
theorem dX2_copy_45 : decode cX2_copy 45 = .ok (.getfield 18, 3) := by decide +kernel
theorem dX2_copy_48 : decode cX2_copy 48 = .ok (.iload 5, 2) := by decide +kernel
theorem dX2_copy_50 : decode cX2_copy 50 = .ok (.aload_n 0, 1) := by decide +kernel
theorem dX2_copy_51 : decode cX2_copy 51 = .ok (.getfield 18, 3) := by decide +kernel
theorem dX2_copy_54 : decode cX2_copy 54 = .ok (.iload 4, 2) := by decide +kernel
theorem dX2_copy_56 : decode cX2_copy 56 = .ok (.iaload, 1) := by decide +kernel
theorem dX2_copy_57 : decode cX2_copy 57 = .ok (.iastore, 1) := by decide +kernel
theorem dX2_copy_58 : decode cX2_copy 58 = .ok (.return_, 1) := by decide +kernel
theorem dX2_saysRead_0 : decode cX2_saysRead 0 = .ok (.iload_n 1, 1) := by decide +kernel
theorem dX2_saysRead_1 : decode cX2_saysRead 1 = .ok (.bipush 30, 2) := by decide +kernel
theorem dX2_saysRead_3 : decode cX2_saysRead 3 = .ok (.imul, 1) := by decide +kernel
theorem dX2_saysRead_4 : decode cX2_saysRead 4 = .ok (.iload_n 2, 1) := by decide +kernel
theorem dX2_saysRead_5 : decode cX2_saysRead 5 = .ok (.iadd, 1) := by decide +kernel
theorem dX2_saysRead_6 : decode cX2_saysRead 6 = .ok (.istore 4, 2) := by decide +kernel
theorem dX2_saysRead_8 : decode cX2_saysRead 8 = .ok (.aload_n 0, 1) := by decide +kernel
theorem dX2_saysRead_9 : decode cX2_saysRead 9 = .ok (.getfield 9, 3) := by decide +kernel
theorem dX2_saysRead_12 : decode cX2_saysRead 12 = .ok (.iload 4, 2) := by decide +kernel
theorem dX2_saysRead_14 : decode cX2_saysRead 14 = .ok (.iaload, 1) := by decide +kernel
theorem dX2_saysRead_15 : decode cX2_saysRead 15 = .ok (.iconst 2, 1) := by decide +kernel
theorem dX2_saysRead_16 : decode cX2_saysRead 16 = .ok (.if_icmp .ne 18, 3) := by decide +kernel
theorem dX2_saysRead_19 : decode cX2_saysRead 19 = .ok (.aload_n 0, 1) := by decide +kernel
theorem dX2_saysRead_20 : decode cX2_saysRead 20 = .ok (.getfield 18, 3) := by decide +kernel
theorem dX2_saysRead_23 : decode cX2_saysRead 23 = .ok (.iload 4, 2) := by decide +kernel
theorem dX2_saysRead_25 : decode cX2_saysRead 25 = .ok (.iaload, 1) := by decide +kernel
theorem dX2_saysRead_26 : decode cX2_saysRead 26 = .ok (.iload_n 3, 1) := by decide +kernel
theorem dX2_saysRead_27 : decode cX2_saysRead 27 = .ok (.if_icmp .lt 7, 3) := by decide +kernel
theorem dX2_saysRead_30 : decode cX2_saysRead 30 = .ok (.iconst 1, 1) := by decide +kernel
theorem dX2_saysRead_31 : decode cX2_saysRead 31 = .ok (.goto 4, 3) := by decide +kernel
theorem dX2_saysRead_34 : decode cX2_saysRead 34 = .ok (.iconst 0, 1) := by decide +kernel
theorem dX2_saysRead_35 : decode cX2_saysRead 35 = .ok (.ireturn, 1) := by decide +kernel
theorem dX2_beats_0 : decode cX2_beats 0 = .ok (.iload_n 1, 1) := by decide +kernel
theorem dX2_beats_1 : decode cX2_beats 1 = .ok (.bipush 30, 2) := by decide +kernel
theorem dX2_beats_3 : decode cX2_beats 3 = .ok (.imul, 1) := by decide +kernel
theorem dX2_beats_4 : decode cX2_beats 4 = .ok (.iload_n 3, 1) := by decide +kernel
theorem dX2_beats_5 : decode cX2_beats 5 = .ok (.iadd, 1) := by decide +kernel
theorem dX2_beats_6 : decode cX2_beats 6 = .ok (.istore 4, 2) := by decide +kernel
theorem dX2_beats_8 : decode cX2_beats 8 = .ok (.iload_n 2, 1) := by decide +kernel
theorem dX2_beats_9 : decode cX2_beats 9 = .ok (.bipush 30, 2) := by decide +kernel
theorem dX2_beats_11 : decode cX2_beats 11 = .ok (.imul, 1) := by decide +kernel
theorem dX2_beats_12 : decode cX2_beats 12 = .ok (.iload_n 3, 1) := by decide +kernel
theorem dX2_beats_13 : decode cX2_beats 13 = .ok (.iadd, 1) := by decide +kernel
theorem dX2_beats_14 : decode cX2_beats 14 = .ok (.istore 5, 2) := by decide +kernel
theorem dX2_beats_16 : decode cX2_beats 16 = .ok (.aload_n 0, 1) := by decide +kernel
theorem dX2_beats_17 : decode cX2_beats 17 = .ok (.getfield 9, 3) := by decide +kernel
theorem dX2_beats_20 : decode cX2_beats 20 = .ok (.iload 4, 2) := by decide +kernel
theorem dX2_beats_22 : decode cX2_beats 22 = .ok (.iaload, 1) := by decide +kernel
theorem dX2_beats_23 : decode cX2_beats 23 = .ok (.ifCond .eq 13, 3) := by decide +kernel
theorem dX2_beats_26 : decode cX2_beats 26 = .ok (.aload_n 0, 1) := by decide +kernel
theorem dX2_beats_27 : decode cX2_beats 27 = .ok (.getfield 9, 3) := by decide +kernel
theorem dX2_beats_30 : decode cX2_beats 30 = .ok (.iload 5, 2) := by decide +kernel
theorem dX2_beats_32 : decode cX2_beats 32 = .ok (.iaload, 1) := by decide +kernel
theorem dX2_beats_33 : decode cX2_beats 33 = .ok (.ifCond .ne 19, 3) := by decide +kernel
theorem dX2_beats_36 : decode cX2_beats 36 = .ok (.aload_n 0, 1) := by decide +kernel
theorem dX2_beats_37 : decode cX2_beats 37 = .ok (.getfield 9, 3) := by decide +kernel
theorem dX2_beats_40 : decode cX2_beats 40 = .ok (.iload 4, 2) := by decide +kernel
theorem dX2_beats_42 : decode cX2_beats 42 = .ok (.iaload, 1) := by decide +kernel
theorem dX2_beats_43 : decode cX2_beats 43 = .ok (.ifCond .eq 7, 3) := by decide +kernel
theorem dX2_beats_46 : decode cX2_beats 46 = .ok (.iconst 1, 1) := by decide +kernel
theorem dX2_beats_47 : decode cX2_beats 47 = .ok (.goto 4, 3) := by decide +kernel
theorem dX2_beats_50 : decode cX2_beats 50 = .ok (.iconst 0, 1) := by decide +kernel
theorem dX2_beats_51 : decode cX2_beats 51 = .ok (.ireturn, 1) := by decide +kernel
theorem dX2_beats_52 : decode cX2_beats 52 = .ok (.aload_n 0, 1) := by decide +kernel
theorem dX2_beats_53 : decode cX2_beats 53 = .ok (.getfield 15, 3) := by decide +kernel
theorem dX2_beats_56 : decode cX2_beats 56 = .ok (.iload 4, 2) := by decide +kernel
theorem dX2_beats_58 : decode cX2_beats 58 = .ok (.iaload, 1) := by decide +kernel
theorem dX2_beats_59 : decode cX2_beats 59 = .ok (.aload_n 0, 1) := by decide +kernel
theorem dX2_beats_60 : decode cX2_beats 60 = .ok (.getfield 15, 3) := by decide +kernel
theorem dX2_beats_63 : decode cX2_beats 63 = .ok (.iload 5, 2) := by decide +kernel
theorem dX2_beats_65 : decode cX2_beats 65 = .ok (.iaload, 1) := by decide +kernel
theorem dX2_beats_66 : decode cX2_beats 66 = .ok (.if_icmp .eq 26, 3) := by decide +kernel
theorem dX2_beats_69 : decode cX2_beats 69 = .ok (.aload_n 0, 1) := by decide +kernel
theorem dX2_beats_70 : decode cX2_beats 70 = .ok (.getfield 15, 3) := by decide +kernel
theorem dX2_beats_73 : decode cX2_beats 73 = .ok (.iload 4, 2) := by decide +kernel
theorem dX2_beats_75 : decode cX2_beats 75 = .ok (.iaload, 1) := by decide +kernel
theorem dX2_beats_76 : decode cX2_beats 76 = .ok (.aload_n 0, 1) := by decide +kernel
theorem dX2_beats_77 : decode cX2_beats 77 = .ok (.getfield 15, 3) := by decide +kernel
theorem dX2_beats_80 : decode cX2_beats 80 = .ok (.iload 5, 2) := by decide +kernel
theorem dX2_beats_82 : decode cX2_beats 82 = .ok (.iaload, 1) := by decide +kernel
theorem dX2_beats_83 : decode cX2_beats 83 = .ok (.if_icmp .le 7, 3) := by decide +kernel
theorem dX2_beats_86 : decode cX2_beats 86 = .ok (.iconst 1, 1) := by decide +kernel
theorem dX2_beats_87 : decode cX2_beats 87 = .ok (.goto 4, 3) := by decide +kernel
theorem dX2_beats_90 : decode cX2_beats 90 = .ok (.iconst 0, 1) := by decide +kernel
theorem dX2_beats_91 : decode cX2_beats 91 = .ok (.ireturn, 1) := by decide +kernel
theorem dX2_beats_92 : decode cX2_beats 92 = .ok (.aload_n 0, 1) := by decide +kernel
theorem dX2_beats_93 : decode cX2_beats 93 = .ok (.getfield 9, 3) := by decide +kernel
theorem dX2_beats_96 : decode cX2_beats 96 = .ok (.iload 4, 2) := by decide +kernel
theorem dX2_beats_98 : decode cX2_beats 98 = .ok (.iaload, 1) := by decide +kernel
theorem dX2_beats_99 : decode cX2_beats 99 = .ok (.aload_n 0, 1) := by decide +kernel
theorem dX2_beats_100 : decode cX2_beats 100 = .ok (.getfield 9, 3) := by decide +kernel
theorem dX2_beats_103 : decode cX2_beats 103 = .ok (.iload 5, 2) := by decide +kernel
theorem dX2_beats_105 : decode cX2_beats 105 = .ok (.iaload, 1) := by decide +kernel
theorem dX2_beats_106 : decode cX2_beats 106 = .ok (.if_icmp .eq 20, 3) := by decide +kernel
theorem dX2_beats_109 : decode cX2_beats 109 = .ok (.aload_n 0, 1) := by decide +kernel
theorem dX2_beats_110 : decode cX2_beats 110 = .ok (.getfield 9, 3) := by decide +kernel
theorem dX2_beats_113 : decode cX2_beats 113 = .ok (.iload 4, 2) := by decide +kernel
theorem dX2_beats_115 : decode cX2_beats 115 = .ok (.iaload, 1) := by decide +kernel
theorem dX2_beats_116 : decode cX2_beats 116 = .ok (.iconst 2, 1) := by decide +kernel
theorem dX2_beats_117 : decode cX2_beats 117 = .ok (.if_icmp .ne 7, 3) := by decide +kernel
theorem dX2_beats_120 : decode cX2_beats 120 = .ok (.iconst 1, 1) := by decide +kernel
theorem dX2_beats_121 : decode cX2_beats 121 = .ok (.goto 4, 3) := by decide +kernel
theorem dX2_beats_124 : decode cX2_beats 124 = .ok (.iconst 0, 1) := by decide +kernel
theorem dX2_beats_125 : decode cX2_beats 125 = .ok (.ireturn, 1) := by decide +kernel
theorem dX2_beats_126 : decode cX2_beats 126 = .ok (.aload_n 0, 1) := by decide +kernel
theorem dX2_beats_127 : decode cX2_beats 127 = .ok (.getfield 18, 3) := by decide +kernel
theorem dX2_beats_130 : decode cX2_beats 130 = .ok (.iload 4, 2) := by decide +kernel
theorem dX2_beats_132 : decode cX2_beats 132 = .ok (.iaload, 1) := by decide +kernel
theorem dX2_beats_133 : decode cX2_beats 133 = .ok (.aload_n 0, 1) := by decide +kernel
theorem dX2_beats_134 : decode cX2_beats 134 = .ok (.getfield 18, 3) := by decide +kernel
theorem dX2_beats_137 : decode cX2_beats 137 = .ok (.iload 5, 2) := by decide +kernel
theorem dX2_beats_139 : decode cX2_beats 139 = .ok (.iaload, 1) := by decide +kernel
theorem dX2_beats_140 : decode cX2_beats 140 = .ok (.if_icmp .lt 7, 3) := by decide +kernel
theorem dX2_beats_143 : decode cX2_beats 143 = .ok (.iconst 1, 1) := by decide +kernel
theorem dX2_beats_144 : decode cX2_beats 144 = .ok (.goto 4, 3) := by decide +kernel
theorem dX2_beats_147 : decode cX2_beats 147 = .ok (.iconst 0, 1) := by decide +kernel
theorem dX2_beats_148 : decode cX2_beats 148 = .ok (.ireturn, 1) := by decide +kernel
theorem dX3_init_0 : decode cX3_init 0 = .ok (.aload_n 0, 1) := by decide +kernel
theorem dX3_init_1 : decode cX3_init 1 = .ok (.invokespecial 3, 3) := by decide +kernel
theorem dX3_init_4 : decode cX3_init 4 = .ok (.aload_n 0, 1) := by decide +kernel
theorem dX3_init_5 : decode cX3_init 5 = .ok (.iconst 0, 1) := by decide +kernel
theorem dX3_init_6 : decode cX3_init 6 = .ok (.putfield 9, 3) := by decide +kernel
theorem dX3_init_9 : decode cX3_init 9 = .ok (.aload_n 0, 1) := by decide +kernel
theorem dX3_init_10 : decode cX3_init 10 = .ok (.iconst 4, 1) := by decide +kernel
theorem dX3_init_11 : decode cX3_init 11 = .ok (.newarray .int, 2) := by decide +kernel
theorem dX3_init_13 : decode cX3_init 13 = .ok (.putfield 15, 3) := by decide +kernel
theorem dX3_init_16 : decode cX3_init 16 = .ok (.aload_n 0, 1) := by decide +kernel
theorem dX3_init_17 : decode cX3_init 17 = .ok (.iconst 4, 1) := by decide +kernel
theorem dX3_init_18 : decode cX3_init 18 = .ok (.newarray .int, 2) := by decide +kernel
theorem dX3_init_20 : decode cX3_init 20 = .ok (.putfield 19, 3) := by decide +kernel
theorem dX3_init_23 : decode cX3_init 23 = .ok (.return_, 1) := by decide +kernel
theorem dX3_size_0 : decode cX3_size 0 = .ok (.aload_n 0, 1) := by decide +kernel
theorem dX3_size_1 : decode cX3_size 1 = .ok (.getfield 9, 3) := by decide +kernel
theorem dX3_size_4 : decode cX3_size 4 = .ok (.ireturn, 1) := by decide +kernel
theorem dX3_append_0 : decode cX3_append 0 = .ok (.aload_n 0, 1) := by decide +kernel
theorem dX3_append_1 : decode cX3_append 1 = .ok (.getfield 9, 3) := by decide +kernel
theorem dX3_append_4 : decode cX3_append 4 = .ok (.iconst 4, 1) := by decide +kernel
theorem dX3_append_5 : decode cX3_append 5 = .ok (.if_icmp .lt 5, 3) := by decide +kernel
theorem dX3_append_8 : decode cX3_append 8 = .ok (.iconst (-1), 1) := by decide +kernel
theorem dX3_append_9 : decode cX3_append 9 = .ok (.ireturn, 1) := by decide +kernel
theorem dX3_append_10 : decode cX3_append 10 = .ok (.aload_n 0, 1) := by decide +kernel
theorem dX3_append_11 : decode cX3_append 11 = .ok (.getfield 15, 3) := by decide +kernel
theorem dX3_append_14 : decode cX3_append 14 = .ok (.aload_n 0, 1) := by decide +kernel
theorem dX3_append_15 : decode cX3_append 15 = .ok (.getfield 9, 3) := by decide +kernel
theorem dX3_append_18 : decode cX3_append 18 = .ok (.iload_n 1, 1) := by decide +kernel
theorem dX3_append_19 : decode cX3_append 19 = .ok (.iastore, 1) := by decide +kernel
theorem dX3_append_20 : decode cX3_append 20 = .ok (.aload_n 0, 1) := by decide +kernel
theorem dX3_append_21 : decode cX3_append 21 = .ok (.getfield 19, 3) := by decide +kernel
theorem dX3_append_24 : decode cX3_append 24 = .ok (.aload_n 0, 1) := by decide +kernel
theorem dX3_append_25 : decode cX3_append 25 = .ok (.getfield 9, 3) := by decide +kernel
theorem dX3_append_28 : decode cX3_append 28 = .ok (.iload_n 2, 1) := by decide +kernel
theorem dX3_append_29 : decode cX3_append 29 = .ok (.iastore, 1) := by decide +kernel
theorem dX3_append_30 : decode cX3_append 30 = .ok (.aload_n 0, 1) := by decide +kernel
theorem dX3_append_31 : decode cX3_append 31 = .ok (.dup, 1) := by decide +kernel
theorem dX3_append_32 : decode cX3_append 32 = .ok (.getfield 9, 3) := by decide +kernel
theorem dX3_append_35 : decode cX3_append 35 = .ok (.iconst 1, 1) := by decide +kernel
theorem dX3_append_36 : decode cX3_append 36 = .ok (.iadd, 1) := by decide +kernel
theorem dX3_append_37 : decode cX3_append 37 = .ok (.putfield 9, 3) := by decide +kernel
theorem dX3_append_40 : decode cX3_append 40 = .ok (.aload_n 0, 1) := by decide +kernel
theorem dX3_append_41 : decode cX3_append 41 = .ok (.getfield 9, 3) := by decide +kernel
theorem dX3_append_44 : decode cX3_append 44 = .ok (.iconst 1, 1) := by decide +kernel
theorem dX3_append_45 : decode cX3_append 45 = .ok (.isub, 1) := by decide +kernel
theorem dX3_append_46 : decode cX3_append 46 = .ok (.ireturn, 1) := by decide +kernel
theorem dX3_takes_0 : decode cX3_takes 0 = .ok (.iload_n 3, 1) := by decide +kernel
theorem dX3_takes_1 : decode cX3_takes 1 = .ok (.sipush 256, 3) := by decide +kernel
theorem dX3_takes_4 : decode cX3_takes 4 = .ok (.iand, 1) := by decide +kernel
theorem dX3_takes_5 : decode cX3_takes 5 = .ok (.ifCond .ne 31, 3) := by decide +kernel
theorem dX3_takes_8 : decode cX3_takes 8 = .ok (.iload_n 2, 1) := by decide +kernel
theorem dX3_takes_9 : decode cX3_takes 9 = .ok (.aload_n 0, 1) := by decide +kernel
theorem dX3_takes_10 : decode cX3_takes 10 = .ok (.getfield 15, 3) := by decide +kernel
theorem dX3_takes_13 : decode cX3_takes 13 = .ok (.iload_n 1, 1) := by decide +kernel
theorem dX3_takes_14 : decode cX3_takes 14 = .ok (.iaload, 1) := by decide +kernel
theorem dX3_takes_15 : decode cX3_takes 15 = .ok (.iand, 1) := by decide +kernel
theorem dX3_takes_16 : decode cX3_takes 16 = .ok (.ifCond .eq 20, 3) := by decide +kernel
theorem dX3_takes_19 : decode cX3_takes 19 = .ok (.iload_n 3, 1) := by decide +kernel
theorem dX3_takes_20 : decode cX3_takes 20 = .ok (.aload_n 0, 1) := by decide +kernel
theorem dX3_takes_21 : decode cX3_takes 21 = .ok (.getfield 19, 3) := by decide +kernel
theorem dX3_takes_24 : decode cX3_takes 24 = .ok (.iload_n 1, 1) := by decide +kernel
theorem dX3_takes_25 : decode cX3_takes 25 = .ok (.iaload, 1) := by decide +kernel
theorem dX3_takes_26 : decode cX3_takes 26 = .ok (.invokestatic 22, 3) := by decide +kernel
theorem dX3_takes_29 : decode cX3_takes 29 = .ok (.ifCond .eq 7, 3) := by decide +kernel
theorem dX3_takes_32 : decode cX3_takes 32 = .ok (.iconst 1, 1) := by decide +kernel
theorem dX3_takes_33 : decode cX3_takes 33 = .ok (.goto 4, 3) := by decide +kernel
theorem dX3_takes_36 : decode cX3_takes 36 = .ok (.iconst 0, 1) := by decide +kernel
theorem dX3_takes_37 : decode cX3_takes 37 = .ok (.ireturn, 1) := by decide +kernel
theorem dX4_init_0 : decode cX4_init 0 = .ok (.aload_n 0, 1) := by decide +kernel
theorem dX4_init_1 : decode cX4_init 1 = .ok (.invokespecial 3, 3) := by decide +kernel
theorem dX4_init_4 : decode cX4_init 4 = .ok (.aload_n 0, 1) := by decide +kernel
theorem dX4_init_5 : decode cX4_init 5 = .ok (.iconst 0, 1) := by decide +kernel
theorem dX4_init_6 : decode cX4_init 6 = .ok (.putfield 9, 3) := by decide +kernel
theorem dX4_init_9 : decode cX4_init 9 = .ok (.aload_n 0, 1) := by decide +kernel
theorem dX4_init_10 : decode cX4_init 10 = .ok (.bipush 6, 2) := by decide +kernel
theorem dX4_init_12 : decode cX4_init 12 = .ok (.newarray .long, 2) := by decide +kernel
theorem dX4_init_14 : decode cX4_init 14 = .ok (.putfield 15, 3) := by decide +kernel
theorem dX4_init_17 : decode cX4_init 17 = .ok (.aload_n 0, 1) := by decide +kernel
theorem dX4_init_18 : decode cX4_init 18 = .ok (.bipush 6, 2) := by decide +kernel
theorem dX4_init_20 : decode cX4_init 20 = .ok (.newarray .long, 2) := by decide +kernel
theorem dX4_init_22 : decode cX4_init 22 = .ok (.putfield 19, 3) := by decide +kernel
theorem dX4_init_25 : decode cX4_init 25 = .ok (.aload_n 0, 1) := by decide +kernel
theorem dX4_init_26 : decode cX4_init 26 = .ok (.bipush 6, 2) := by decide +kernel
theorem dX4_init_28 : decode cX4_init 28 = .ok (.newarray .int, 2) := by decide +kernel
theorem dX4_init_30 : decode cX4_init 30 = .ok (.putfield 22, 3) := by decide +kernel
theorem dX4_init_33 : decode cX4_init 33 = .ok (.aload_n 0, 1) := by decide +kernel
theorem dX4_init_34 : decode cX4_init 34 = .ok (.bipush 6, 2) := by decide +kernel
theorem dX4_init_36 : decode cX4_init 36 = .ok (.newarray .int, 2) := by decide +kernel
theorem dX4_init_38 : decode cX4_init 38 = .ok (.putfield 26, 3) := by decide +kernel
theorem dX4_init_41 : decode cX4_init 41 = .ok (.aload_n 0, 1) := by decide +kernel
theorem dX4_init_42 : decode cX4_init 42 = .ok (.bipush 6, 2) := by decide +kernel
theorem dX4_init_44 : decode cX4_init 44 = .ok (.newarray .int, 2) := by decide +kernel
theorem dX4_init_46 : decode cX4_init 46 = .ok (.putfield 29, 3) := by decide +kernel
theorem dX4_init_49 : decode cX4_init 49 = .ok (.return_, 1) := by decide +kernel
theorem dX4_size_0 : decode cX4_size 0 = .ok (.aload_n 0, 1) := by decide +kernel
theorem dX4_size_1 : decode cX4_size 1 = .ok (.getfield 9, 3) := by decide +kernel
theorem dX4_size_4 : decode cX4_size 4 = .ok (.ireturn, 1) := by decide +kernel
theorem dX4_append_0 : decode cX4_append 0 = .ok (.aload_n 0, 1) := by decide +kernel
theorem dX4_append_1 : decode cX4_append 1 = .ok (.getfield 9, 3) := by decide +kernel
theorem dX4_append_4 : decode cX4_append 4 = .ok (.bipush 6, 2) := by decide +kernel
theorem dX4_append_6 : decode cX4_append 6 = .ok (.if_icmp .lt 5, 3) := by decide +kernel
theorem dX4_append_9 : decode cX4_append 9 = .ok (.iconst (-1), 1) := by decide +kernel
theorem dX4_append_10 : decode cX4_append 10 = .ok (.ireturn, 1) := by decide +kernel
theorem dX4_append_11 : decode cX4_append 11 = .ok (.aload_n 0, 1) := by decide +kernel
theorem dX4_append_12 : decode cX4_append 12 = .ok (.getfield 15, 3) := by decide +kernel
theorem dX4_append_15 : decode cX4_append 15 = .ok (.aload_n 0, 1) := by decide +kernel
theorem dX4_append_16 : decode cX4_append 16 = .ok (.getfield 9, 3) := by decide +kernel
theorem dX4_append_19 : decode cX4_append 19 = .ok (.lload_n 1, 1) := by decide +kernel
theorem dX4_append_20 : decode cX4_append 20 = .ok (.lastore, 1) := by decide +kernel
theorem dX4_append_21 : decode cX4_append 21 = .ok (.aload_n 0, 1) := by decide +kernel
theorem dX4_append_22 : decode cX4_append 22 = .ok (.getfield 19, 3) := by decide +kernel
theorem dX4_append_25 : decode cX4_append 25 = .ok (.aload_n 0, 1) := by decide +kernel
theorem dX4_append_26 : decode cX4_append 26 = .ok (.getfield 9, 3) := by decide +kernel
theorem dX4_append_29 : decode cX4_append 29 = .ok (.lload_n 3, 1) := by decide +kernel
theorem dX4_append_30 : decode cX4_append 30 = .ok (.lastore, 1) := by decide +kernel
theorem dX4_append_31 : decode cX4_append 31 = .ok (.aload_n 0, 1) := by decide +kernel
theorem dX4_append_32 : decode cX4_append 32 = .ok (.getfield 22, 3) := by decide +kernel
theorem dX4_append_35 : decode cX4_append 35 = .ok (.aload_n 0, 1) := by decide +kernel
theorem dX4_append_36 : decode cX4_append 36 = .ok (.getfield 9, 3) := by decide +kernel
theorem dX4_append_39 : decode cX4_append 39 = .ok (.iload 5, 2) := by decide +kernel
theorem dX4_append_41 : decode cX4_append 41 = .ok (.iastore, 1) := by decide +kernel
theorem dX4_append_42 : decode cX4_append 42 = .ok (.aload_n 0, 1) := by decide +kernel
theorem dX4_append_43 : decode cX4_append 43 = .ok (.getfield 26, 3) := by decide +kernel
theorem dX4_append_46 : decode cX4_append 46 = .ok (.aload_n 0, 1) := by decide +kernel
theorem dX4_append_47 : decode cX4_append 47 = .ok (.getfield 9, 3) := by decide +kernel
theorem dX4_append_50 : decode cX4_append 50 = .ok (.iload 6, 2) := by decide +kernel
theorem dX4_append_52 : decode cX4_append 52 = .ok (.iastore, 1) := by decide +kernel
theorem dX4_append_53 : decode cX4_append 53 = .ok (.aload_n 0, 1) := by decide +kernel
theorem dX4_append_54 : decode cX4_append 54 = .ok (.getfield 29, 3) := by decide +kernel
theorem dX4_append_57 : decode cX4_append 57 = .ok (.aload_n 0, 1) := by decide +kernel
theorem dX4_append_58 : decode cX4_append 58 = .ok (.getfield 9, 3) := by decide +kernel
theorem dX4_append_61 : decode cX4_append 61 = .ok (.iload 7, 2) := by decide +kernel
theorem dX4_append_63 : decode cX4_append 63 = .ok (.iastore, 1) := by decide +kernel
theorem dX4_append_64 : decode cX4_append 64 = .ok (.aload_n 0, 1) := by decide +kernel
theorem dX4_append_65 : decode cX4_append 65 = .ok (.dup, 1) := by decide +kernel
theorem dX4_append_66 : decode cX4_append 66 = .ok (.getfield 9, 3) := by decide +kernel
theorem dX4_append_69 : decode cX4_append 69 = .ok (.iconst 1, 1) := by decide +kernel
theorem dX4_append_70 : decode cX4_append 70 = .ok (.iadd, 1) := by decide +kernel
theorem dX4_append_71 : decode cX4_append 71 = .ok (.putfield 9, 3) := by decide +kernel
theorem dX4_append_74 : decode cX4_append 74 = .ok (.aload_n 0, 1) := by decide +kernel
theorem dX4_append_75 : decode cX4_append 75 = .ok (.getfield 9, 3) := by decide +kernel
theorem dX4_append_78 : decode cX4_append 78 = .ok (.iconst 1, 1) := by decide +kernel
theorem dX4_append_79 : decode cX4_append 79 = .ok (.isub, 1) := by decide +kernel
theorem dX4_append_80 : decode cX4_append 80 = .ok (.ireturn, 1) := by decide +kernel
theorem dX4_remove_0 : decode cX4_remove 0 = .ok (.iload_n 1, 1) := by decide +kernel
theorem dX4_remove_1 : decode cX4_remove 1 = .ok (.istore_n 2, 1) := by decide +kernel
theorem dX4_remove_2 : decode cX4_remove 2 = .ok (.iload_n 2, 1) := by decide +kernel
theorem dX4_remove_3 : decode cX4_remove 3 = .ok (.aload_n 0, 1) := by decide +kernel
theorem dX4_remove_4 : decode cX4_remove 4 = .ok (.getfield 9, 3) := by decide +kernel
theorem dX4_remove_7 : decode cX4_remove 7 = .ok (.iconst 1, 1) := by decide +kernel
theorem dX4_remove_8 : decode cX4_remove 8 = .ok (.isub, 1) := by decide +kernel
theorem dX4_remove_9 : decode cX4_remove 9 = .ok (.if_icmp .ge 79, 3) := by decide +kernel
theorem dX4_remove_12 : decode cX4_remove 12 = .ok (.aload_n 0, 1) := by decide +kernel
theorem dX4_remove_13 : decode cX4_remove 13 = .ok (.getfield 15, 3) := by decide +kernel
theorem dX4_remove_16 : decode cX4_remove 16 = .ok (.iload_n 2, 1) := by decide +kernel
theorem dX4_remove_17 : decode cX4_remove 17 = .ok (.aload_n 0, 1) := by decide +kernel
theorem dX4_remove_18 : decode cX4_remove 18 = .ok (.getfield 15, 3) := by decide +kernel
theorem dX4_remove_21 : decode cX4_remove 21 = .ok (.iload_n 2, 1) := by decide +kernel
theorem dX4_remove_22 : decode cX4_remove 22 = .ok (.iconst 1, 1) := by decide +kernel
theorem dX4_remove_23 : decode cX4_remove 23 = .ok (.iadd, 1) := by decide +kernel
theorem dX4_remove_24 : decode cX4_remove 24 = .ok (.laload, 1) := by decide +kernel
theorem dX4_remove_25 : decode cX4_remove 25 = .ok (.lastore, 1) := by decide +kernel
theorem dX4_remove_26 : decode cX4_remove 26 = .ok (.aload_n 0, 1) := by decide +kernel
theorem dX4_remove_27 : decode cX4_remove 27 = .ok (.getfield 19, 3) := by decide +kernel
theorem dX4_remove_30 : decode cX4_remove 30 = .ok (.iload_n 2, 1) := by decide +kernel
theorem dX4_remove_31 : decode cX4_remove 31 = .ok (.aload_n 0, 1) := by decide +kernel
theorem dX4_remove_32 : decode cX4_remove 32 = .ok (.getfield 19, 3) := by decide +kernel
theorem dX4_remove_35 : decode cX4_remove 35 = .ok (.iload_n 2, 1) := by decide +kernel
theorem dX4_remove_36 : decode cX4_remove 36 = .ok (.iconst 1, 1) := by decide +kernel
theorem dX4_remove_37 : decode cX4_remove 37 = .ok (.iadd, 1) := by decide +kernel
theorem dX4_remove_38 : decode cX4_remove 38 = .ok (.laload, 1) := by decide +kernel
theorem dX4_remove_39 : decode cX4_remove 39 = .ok (.lastore, 1) := by decide +kernel
theorem dX4_remove_40 : decode cX4_remove 40 = .ok (.aload_n 0, 1) := by decide +kernel
theorem dX4_remove_41 : decode cX4_remove 41 = .ok (.getfield 22, 3) := by decide +kernel
theorem dX4_remove_44 : decode cX4_remove 44 = .ok (.iload_n 2, 1) := by decide +kernel
theorem dX4_remove_45 : decode cX4_remove 45 = .ok (.aload_n 0, 1) := by decide +kernel
theorem dX4_remove_46 : decode cX4_remove 46 = .ok (.getfield 22, 3) := by decide +kernel
theorem dX4_remove_49 : decode cX4_remove 49 = .ok (.iload_n 2, 1) := by decide +kernel
theorem dX4_remove_50 : decode cX4_remove 50 = .ok (.iconst 1, 1) := by decide +kernel
theorem dX4_remove_51 : decode cX4_remove 51 = .ok (.iadd, 1) := by decide +kernel
theorem dX4_remove_52 : decode cX4_remove 52 = .ok (.iaload, 1) := by decide +kernel
theorem dX4_remove_53 : decode cX4_remove 53 = .ok (.iastore, 1) := by decide +kernel
theorem dX4_remove_54 : decode cX4_remove 54 = .ok (.aload_n 0, 1) := by decide +kernel
theorem dX4_remove_55 : decode cX4_remove 55 = .ok (.getfield 26, 3) := by decide +kernel
theorem dX4_remove_58 : decode cX4_remove 58 = .ok (.iload_n 2, 1) := by decide +kernel
theorem dX4_remove_59 : decode cX4_remove 59 = .ok (.aload_n 0, 1) := by decide +kernel
theorem dX4_remove_60 : decode cX4_remove 60 = .ok (.getfield 26, 3) := by decide +kernel
theorem dX4_remove_63 : decode cX4_remove 63 = .ok (.iload_n 2, 1) := by decide +kernel
theorem dX4_remove_64 : decode cX4_remove 64 = .ok (.iconst 1, 1) := by decide +kernel
theorem dX4_remove_65 : decode cX4_remove 65 = .ok (.iadd, 1) := by decide +kernel
theorem dX4_remove_66 : decode cX4_remove 66 = .ok (.iaload, 1) := by decide +kernel
theorem dX4_remove_67 : decode cX4_remove 67 = .ok (.iastore, 1) := by decide +kernel
theorem dX4_remove_68 : decode cX4_remove 68 = .ok (.aload_n 0, 1) := by decide +kernel
theorem dX4_remove_69 : decode cX4_remove 69 = .ok (.getfield 29, 3) := by decide +kernel
theorem dX4_remove_72 : decode cX4_remove 72 = .ok (.iload_n 2, 1) := by decide +kernel
theorem dX4_remove_73 : decode cX4_remove 73 = .ok (.aload_n 0, 1) := by decide +kernel
theorem dX4_remove_74 : decode cX4_remove 74 = .ok (.getfield 29, 3) := by decide +kernel
theorem dX4_remove_77 : decode cX4_remove 77 = .ok (.iload_n 2, 1) := by decide +kernel
theorem dX4_remove_78 : decode cX4_remove 78 = .ok (.iconst 1, 1) := by decide +kernel
theorem dX4_remove_79 : decode cX4_remove 79 = .ok (.iadd, 1) := by decide +kernel
theorem dX4_remove_80 : decode cX4_remove 80 = .ok (.iaload, 1) := by decide +kernel
theorem dX4_remove_81 : decode cX4_remove 81 = .ok (.iastore, 1) := by decide +kernel
theorem dX4_remove_82 : decode cX4_remove 82 = .ok (.iinc 2 1, 3) := by decide +kernel
theorem dX4_remove_85 : decode cX4_remove 85 = .ok (.goto (-83), 3) := by decide +kernel
theorem dX4_remove_88 : decode cX4_remove 88 = .ok (.aload_n 0, 1) := by decide +kernel
theorem dX4_remove_89 : decode cX4_remove 89 = .ok (.dup, 1) := by decide +kernel
theorem dX4_remove_90 : decode cX4_remove 90 = .ok (.getfield 9, 3) := by decide +kernel
theorem dX4_remove_93 : decode cX4_remove 93 = .ok (.iconst 1, 1) := by decide +kernel
theorem dX4_remove_94 : decode cX4_remove 94 = .ok (.isub, 1) := by decide +kernel
theorem dX4_remove_95 : decode cX4_remove 95 = .ok (.putfield 9, 3) := by decide +kernel
theorem dX4_remove_98 : decode cX4_remove 98 = .ok (.return_, 1) := by decide +kernel
theorem dX4_outcome_0 : decode cX4_outcome 0 = .ok (.iconst 0, 1) := by decide +kernel
theorem dX4_outcome_1 : decode cX4_outcome 1 = .ok (.istore 5, 2) := by decide +kernel
theorem dX4_outcome_3 : decode cX4_outcome 3 = .ok (.iconst 0, 1) := by decide +kernel
theorem dX4_outcome_4 : decode cX4_outcome 4 = .ok (.istore 6, 2) := by decide +kernel
theorem dX4_outcome_6 : decode cX4_outcome 6 = .ok (.iload 6, 2) := by decide +kernel
theorem dX4_outcome_8 : decode cX4_outcome 8 = .ok (.iload 4, 2) := by decide +kernel
theorem dX4_outcome_10 : decode cX4_outcome 10 = .ok (.if_icmp .ge 36, 3) := by decide +kernel
theorem dX4_outcome_13 : decode cX4_outcome 13 = .ok (.aload_n 0, 1) := by decide +kernel
theorem dX4_outcome_14 : decode cX4_outcome 14 = .ok (.iload 6, 2) := by decide +kernel
theorem dX4_outcome_16 : decode cX4_outcome 16 = .ok (.lload_n 1, 1) := by decide +kernel
theorem dX4_outcome_17 : decode cX4_outcome 17 = .ok (.iload_n 3, 1) := by decide +kernel
theorem dX4_outcome_18 : decode cX4_outcome 18 = .ok (.iload 5, 2) := by decide +kernel
theorem dX4_outcome_20 : decode cX4_outcome 20 = .ok (.invokevirtual 32, 3) := by decide +kernel
theorem dX4_outcome_23 : decode cX4_outcome 23 = .ok (.ifCond .eq 17, 3) := by decide +kernel
theorem dX4_outcome_26 : decode cX4_outcome 26 = .ok (.aload_n 0, 1) := by decide +kernel
theorem dX4_outcome_27 : decode cX4_outcome 27 = .ok (.getfield 29, 3) := by decide +kernel
theorem dX4_outcome_30 : decode cX4_outcome 30 = .ok (.iload 6, 2) := by decide +kernel
theorem dX4_outcome_32 : decode cX4_outcome 32 = .ok (.iaload, 1) := by decide +kernel
theorem dX4_outcome_33 : decode cX4_outcome 33 = .ok (.iload 5, 2) := by decide +kernel
theorem dX4_outcome_35 : decode cX4_outcome 35 = .ok (.invokestatic 36, 3) := by decide +kernel
theorem dX4_outcome_38 : decode cX4_outcome 38 = .ok (.istore 5, 2) := by decide +kernel
theorem dX4_outcome_40 : decode cX4_outcome 40 = .ok (.iinc 6 1, 3) := by decide +kernel
theorem dX4_outcome_43 : decode cX4_outcome 43 = .ok (.goto (-37), 3) := by decide +kernel
theorem dX4_outcome_46 : decode cX4_outcome 46 = .ok (.iload 5, 2) := by decide +kernel
theorem dX4_outcome_48 : decode cX4_outcome 48 = .ok (.ireturn, 1) := by decide +kernel
theorem dX4_holds_0 : decode cX4_holds 0 = .ok (.lload_n 2, 1) := by decide +kernel
theorem dX4_holds_1 : decode cX4_holds 1 = .ok (.aload_n 0, 1) := by decide +kernel
theorem dX4_holds_2 : decode cX4_holds 2 = .ok (.getfield 15, 3) := by decide +kernel
theorem dX4_holds_5 : decode cX4_holds 5 = .ok (.iload_n 1, 1) := by decide +kernel
theorem dX4_holds_6 : decode cX4_holds 6 = .ok (.laload, 1) := by decide +kernel
theorem dX4_holds_7 : decode cX4_holds 7 = .ok (.land, 1) := by decide +kernel
theorem dX4_holds_8 : decode cX4_holds 8 = .ok (.aload_n 0, 1) := by decide +kernel
theorem dX4_holds_9 : decode cX4_holds 9 = .ok (.getfield 15, 3) := by decide +kernel
theorem dX4_holds_12 : decode cX4_holds 12 = .ok (.iload_n 1, 1) := by decide +kernel
theorem dX4_holds_13 : decode cX4_holds 13 = .ok (.laload, 1) := by decide +kernel
theorem dX4_holds_14 : decode cX4_holds 14 = .ok (.lcmp, 1) := by decide +kernel
theorem dX4_holds_15 : decode cX4_holds 15 = .ok (.ifCond .ne 66, 3) := by decide +kernel
theorem dX4_holds_18 : decode cX4_holds 18 = .ok (.aload_n 0, 1) := by decide +kernel
theorem dX4_holds_19 : decode cX4_holds 19 = .ok (.getfield 19, 3) := by decide +kernel
theorem dX4_holds_22 : decode cX4_holds 22 = .ok (.iload_n 1, 1) := by decide +kernel
theorem dX4_holds_23 : decode cX4_holds 23 = .ok (.laload, 1) := by decide +kernel
theorem dX4_holds_24 : decode cX4_holds 24 = .ok (.lconst 0, 1) := by decide +kernel
theorem dX4_holds_25 : decode cX4_holds 25 = .ok (.lcmp, 1) := by decide +kernel
theorem dX4_holds_26 : decode cX4_holds 26 = .ok (.ifCond .eq 16, 3) := by decide +kernel
theorem dX4_holds_29 : decode cX4_holds 29 = .ok (.lload_n 2, 1) := by decide +kernel
theorem dX4_holds_30 : decode cX4_holds 30 = .ok (.aload_n 0, 1) := by decide +kernel
theorem dX4_holds_31 : decode cX4_holds 31 = .ok (.getfield 19, 3) := by decide +kernel
theorem dX4_holds_34 : decode cX4_holds 34 = .ok (.iload_n 1, 1) := by decide +kernel
theorem dX4_holds_35 : decode cX4_holds 35 = .ok (.laload, 1) := by decide +kernel
theorem dX4_holds_36 : decode cX4_holds 36 = .ok (.land, 1) := by decide +kernel
theorem dX4_holds_37 : decode cX4_holds 37 = .ok (.lconst 0, 1) := by decide +kernel
theorem dX4_holds_38 : decode cX4_holds 38 = .ok (.lcmp, 1) := by decide +kernel
theorem dX4_holds_39 : decode cX4_holds 39 = .ok (.ifCond .eq 42, 3) := by decide +kernel
theorem dX4_holds_42 : decode cX4_holds 42 = .ok (.aload_n 0, 1) := by decide +kernel
theorem dX4_holds_43 : decode cX4_holds 43 = .ok (.getfield 22, 3) := by decide +kernel
theorem dX4_holds_46 : decode cX4_holds 46 = .ok (.iload_n 1, 1) := by decide +kernel
theorem dX4_holds_47 : decode cX4_holds 47 = .ok (.iaload, 1) := by decide +kernel
theorem dX4_holds_48 : decode cX4_holds 48 = .ok (.ifCond .eq 15, 3) := by decide +kernel
theorem dX4_holds_51 : decode cX4_holds 51 = .ok (.iload 4, 2) := by decide +kernel
theorem dX4_holds_53 : decode cX4_holds 53 = .ok (.aload_n 0, 1) := by decide +kernel
theorem dX4_holds_54 : decode cX4_holds 54 = .ok (.getfield 22, 3) := by decide +kernel
theorem dX4_holds_57 : decode cX4_holds 57 = .ok (.iload_n 1, 1) := by decide +kernel
theorem dX4_holds_58 : decode cX4_holds 58 = .ok (.iaload, 1) := by decide +kernel
theorem dX4_holds_59 : decode cX4_holds 59 = .ok (.iand, 1) := by decide +kernel
theorem dX4_holds_60 : decode cX4_holds 60 = .ok (.ifCond .eq 21, 3) := by decide +kernel
theorem dX4_holds_63 : decode cX4_holds 63 = .ok (.iload 5, 2) := by decide +kernel
theorem dX4_holds_65 : decode cX4_holds 65 = .ok (.aload_n 0, 1) := by decide +kernel
theorem dX4_holds_66 : decode cX4_holds 66 = .ok (.getfield 26, 3) := by decide +kernel
theorem dX4_holds_69 : decode cX4_holds 69 = .ok (.iload_n 1, 1) := by decide +kernel
theorem dX4_holds_70 : decode cX4_holds 70 = .ok (.iaload, 1) := by decide +kernel
theorem dX4_holds_71 : decode cX4_holds 71 = .ok (.invokestatic 40, 3) := by decide +kernel
theorem dX4_holds_74 : decode cX4_holds 74 = .ok (.ifCond .eq 7, 3) := by decide +kernel
theorem dX4_holds_77 : decode cX4_holds 77 = .ok (.iconst 1, 1) := by decide +kernel
theorem dX4_holds_78 : decode cX4_holds 78 = .ok (.goto 4, 3) := by decide +kernel
theorem dX4_holds_81 : decode cX4_holds 81 = .ok (.iconst 0, 1) := by decide +kernel
theorem dX4_holds_82 : decode cX4_holds 82 = .ok (.ireturn, 1) := by decide +kernel
theorem dX4_act_0 : decode cX4_act 0 = .ok (.iload_n 0, 1) := by decide +kernel
theorem dX4_act_1 : decode cX4_act 1 = .ok (.bipush 9, 2) := by decide +kernel
theorem dX4_act_3 : decode cX4_act 3 = .ok (.if_icmp .ne 9, 3) := by decide +kernel
theorem dX4_act_6 : decode cX4_act 6 = .ok (.iload_n 1, 1) := by decide +kernel
theorem dX4_act_7 : decode cX4_act 7 = .ok (.sipush (-257), 3) := by decide +kernel
theorem dX4_act_10 : decode cX4_act 10 = .ok (.iand, 1) := by decide +kernel
theorem dX4_act_11 : decode cX4_act 11 = .ok (.ireturn, 1) := by decide +kernel
theorem dX4_act_12 : decode cX4_act 12 = .ok (.iload_n 1, 1) := by decide +kernel
theorem dX4_act_13 : decode cX4_act 13 = .ok (.iconst 1, 1) := by decide +kernel
theorem dX4_act_14 : decode cX4_act 14 = .ok (.iload_n 0, 1) := by decide +kernel
theorem dX4_act_15 : decode cX4_act 15 = .ok (.ishl, 1) := by decide +kernel
theorem dX4_act_16 : decode cX4_act 16 = .ok (.ior, 1) := by decide +kernel
theorem dX4_act_17 : decode cX4_act 17 = .ok (.ireturn, 1) := by decide +kernel
theorem dX5_init_0 : decode cX5_init 0 = .ok (.aload_n 0, 1) := by decide +kernel
theorem dX5_init_1 : decode cX5_init 1 = .ok (.invokespecial 3, 3) := by decide +kernel
theorem dX5_init_4 : decode cX5_init 4 = .ok (.aload_n 0, 1) := by decide +kernel
theorem dX5_init_5 : decode cX5_init 5 = .ok (.iconst 0, 1) := by decide +kernel
theorem dX5_init_6 : decode cX5_init 6 = .ok (.putfield 9, 3) := by decide +kernel
theorem dX5_init_9 : decode cX5_init 9 = .ok (.aload_n 0, 1) := by decide +kernel
theorem dX5_init_10 : decode cX5_init 10 = .ok (.bipush 60, 2) := by decide +kernel
theorem dX5_init_12 : decode cX5_init 12 = .ok (.putfield 13, 3) := by decide +kernel
theorem dX5_init_15 : decode cX5_init 15 = .ok (.aload_n 0, 1) := by decide +kernel
theorem dX5_init_16 : decode cX5_init 16 = .ok (.sipush 180, 3) := by decide +kernel
theorem dX5_init_19 : decode cX5_init 19 = .ok (.putfield 16, 3) := by decide +kernel
theorem dX5_init_22 : decode cX5_init 22 = .ok (.aload_n 0, 1) := by decide +kernel
theorem dX5_init_23 : decode cX5_init 23 = .ok (.iconst 0, 1) := by decide +kernel
theorem dX5_init_24 : decode cX5_init 24 = .ok (.putfield 19, 3) := by decide +kernel
theorem dX5_init_27 : decode cX5_init 27 = .ok (.aload_n 0, 1) := by decide +kernel
theorem dX5_init_28 : decode cX5_init 28 = .ok (.new 22, 3) := by decide +kernel
theorem dX5_init_31 : decode cX5_init 31 = .ok (.dup, 1) := by decide +kernel
theorem dX5_init_32 : decode cX5_init 32 = .ok (.invokespecial 24, 3) := by decide +kernel
theorem dX5_init_35 : decode cX5_init 35 = .ok (.putfield 25, 3) := by decide +kernel
theorem dX5_init_38 : decode cX5_init 38 = .ok (.aload_n 0, 1) := by decide +kernel
theorem dX5_init_39 : decode cX5_init 39 = .ok (.new 29, 3) := by decide +kernel
theorem dX5_init_42 : decode cX5_init 42 = .ok (.dup, 1) := by decide +kernel
theorem dX5_init_43 : decode cX5_init 43 = .ok (.invokespecial 31, 3) := by decide +kernel
theorem dX5_init_46 : decode cX5_init 46 = .ok (.putfield 32, 3) := by decide +kernel
theorem dX5_init_49 : decode cX5_init 49 = .ok (.aload_n 0, 1) := by decide +kernel
theorem dX5_init_50 : decode cX5_init 50 = .ok (.new 36, 3) := by decide +kernel
theorem dX5_init_53 : decode cX5_init 53 = .ok (.dup, 1) := by decide +kernel
theorem dX5_init_54 : decode cX5_init 54 = .ok (.invokespecial 38, 3) := by decide +kernel
theorem dX5_init_57 : decode cX5_init 57 = .ok (.putfield 39, 3) := by decide +kernel
theorem dX5_init_60 : decode cX5_init 60 = .ok (.aload_n 0, 1) := by decide +kernel
theorem dX5_init_61 : decode cX5_init 61 = .ok (.new 43, 3) := by decide +kernel
theorem dX5_init_64 : decode cX5_init 64 = .ok (.dup, 1) := by decide +kernel
theorem dX5_init_65 : decode cX5_init 65 = .ok (.invokespecial 45, 3) := by decide +kernel
theorem dX5_init_68 : decode cX5_init 68 = .ok (.putfield 46, 3) := by decide +kernel
theorem dX5_init_71 : decode cX5_init 71 = .ok (.aload_n 0, 1) := by decide +kernel
theorem dX5_init_72 : decode cX5_init 72 = .ok (.new 50, 3) := by decide +kernel
theorem dX5_init_75 : decode cX5_init 75 = .ok (.dup, 1) := by decide +kernel
theorem dX5_init_76 : decode cX5_init 76 = .ok (.invokespecial 52, 3) := by decide +kernel
theorem dX5_init_79 : decode cX5_init 79 = .ok (.putfield 53, 3) := by decide +kernel
theorem dX5_init_82 : decode cX5_init 82 = .ok (.aload_n 0, 1) := by decide +kernel
theorem dX5_init_83 : decode cX5_init 83 = .ok (.bipush 30, 2) := by decide +kernel
theorem dX5_init_85 : decode cX5_init 85 = .ok (.newarray .int, 2) := by decide +kernel
theorem dX5_init_87 : decode cX5_init 87 = .ok (.putfield 57, 3) := by decide +kernel
theorem dX5_init_90 : decode cX5_init 90 = .ok (.aload_n 0, 1) := by decide +kernel
theorem dX5_init_91 : decode cX5_init 91 = .ok (.bipush 30, 2) := by decide +kernel
theorem dX5_init_93 : decode cX5_init 93 = .ok (.newarray .int, 2) := by decide +kernel
theorem dX5_init_95 : decode cX5_init 95 = .ok (.putfield 61, 3) := by decide +kernel
theorem dX5_init_98 : decode cX5_init 98 = .ok (.return_, 1) := by decide +kernel
theorem dX5_pass_0 : decode cX5_pass 0 = .ok (.iload_n 1, 1) := by decide +kernel
theorem dX5_pass_1 : decode cX5_pass 1 = .ok (.iconst 1, 1) := by decide +kernel
theorem dX5_pass_2 : decode cX5_pass 2 = .ok (.if_icmp .lt 10, 3) := by decide +kernel
theorem dX5_pass_5 : decode cX5_pass 5 = .ok (.iload_n 1, 1) := by decide +kernel
theorem dX5_pass_6 : decode cX5_pass 6 = .ok (.sipush 2000, 3) := by decide +kernel
theorem dX5_pass_9 : decode cX5_pass 9 = .ok (.if_icmp .le 13, 3) := by decide +kernel
theorem dX5_pass_12 : decode cX5_pass 12 = .ok (.new 64, 3) := by decide +kernel
theorem dX5_pass_15 : decode cX5_pass 15 = .ok (.dup, 1) := by decide +kernel
theorem dX5_pass_16 : decode cX5_pass 16 = .ok (.ldc 66, 2) := by decide +kernel
theorem dX5_pass_18 : decode cX5_pass 18 = .ok (.invokespecial 68, 3) := by decide +kernel
theorem dX5_pass_21 : decode cX5_pass 21 = .ok (.athrow, 1) := by decide +kernel
theorem dX5_pass_22 : decode cX5_pass 22 = .ok (.aload_n 0, 1) := by decide +kernel
theorem dX5_pass_23 : decode cX5_pass 23 = .ok (.getfield 9, 3) := by decide +kernel
theorem dX5_pass_26 : decode cX5_pass 26 = .ok (.iload_n 1, 1) := by decide +kernel
theorem dX5_pass_27 : decode cX5_pass 27 = .ok (.iadd, 1) := by decide +kernel
theorem dX5_pass_28 : decode cX5_pass 28 = .ok (.ldc 71, 2) := by decide +kernel
theorem dX5_pass_30 : decode cX5_pass 30 = .ok (.if_icmp .le 13, 3) := by decide +kernel
theorem dX5_pass_33 : decode cX5_pass 33 = .ok (.new 72, 3) := by decide +kernel
theorem dX5_pass_36 : decode cX5_pass 36 = .ok (.dup, 1) := by decide +kernel
theorem dX5_pass_37 : decode cX5_pass 37 = .ok (.ldc 74, 2) := by decide +kernel
theorem dX5_pass_39 : decode cX5_pass 39 = .ok (.invokespecial 76, 3) := by decide +kernel
theorem dX5_pass_42 : decode cX5_pass 42 = .ok (.athrow, 1) := by decide +kernel
theorem dX5_pass_43 : decode cX5_pass 43 = .ok (.aload_n 0, 1) := by decide +kernel
theorem dX5_pass_44 : decode cX5_pass 44 = .ok (.dup, 1) := by decide +kernel
theorem dX5_pass_45 : decode cX5_pass 45 = .ok (.getfield 9, 3) := by decide +kernel
theorem dX5_pass_48 : decode cX5_pass 48 = .ok (.iload_n 1, 1) := by decide +kernel
theorem dX5_pass_49 : decode cX5_pass 49 = .ok (.iadd, 1) := by decide +kernel
theorem dX5_pass_50 : decode cX5_pass 50 = .ok (.putfield 9, 3) := by decide +kernel
theorem dX5_pass_53 : decode cX5_pass 53 = .ok (.aload_n 0, 1) := by decide +kernel
theorem dX5_pass_54 : decode cX5_pass 54 = .ok (.getfield 9, 3) := by decide +kernel
theorem dX5_pass_57 : decode cX5_pass 57 = .ok (.ireturn, 1) := by decide +kernel
theorem dX5_now_0 : decode cX5_now 0 = .ok (.aload_n 0, 1) := by decide +kernel
theorem dX5_now_1 : decode cX5_now 1 = .ok (.getfield 9, 3) := by decide +kernel
theorem dX5_now_4 : decode cX5_now 4 = .ok (.ireturn, 1) := by decide +kernel
theorem dX5_setThreshold_0 : decode cX5_setThreshold 0 = .ok (.iload_n 1, 1) := by decide +kernel
theorem dX5_setThreshold_1 : decode cX5_setThreshold 1 = .ok (.iconst 1, 1) := by decide +kernel
theorem dX5_setThreshold_2 : decode cX5_setThreshold 2 = .ok (.if_icmp .lt 9, 3) := by decide +kernel
theorem dX5_setThreshold_5 : decode cX5_setThreshold 5 = .ok (.iload_n 1, 1) := by decide +kernel
theorem dX5_setThreshold_6 : decode cX5_setThreshold 6 = .ok (.bipush 100, 2) := by decide +kernel
theorem dX5_setThreshold_8 : decode cX5_setThreshold 8 = .ok (.if_icmp .le 13, 3) := by decide +kernel
theorem dX5_setThreshold_11 : decode cX5_setThreshold 11 = .ok (.new 64, 3) := by decide +kernel
theorem dX5_setThreshold_14 : decode cX5_setThreshold 14 = .ok (.dup, 1) := by decide +kernel
theorem dX5_setThreshold_15 : decode cX5_setThreshold 15 = .ok (.ldc 77, 2) := by decide +kernel
theorem dX5_setThreshold_17 : decode cX5_setThreshold 17 = .ok (.invokespecial 68, 3) := by decide +kernel
theorem dX5_setThreshold_20 : decode cX5_setThreshold 20 = .ok (.athrow, 1) := by decide +kernel
theorem dX5_setThreshold_21 : decode cX5_setThreshold 21 = .ok (.aload_n 0, 1) := by decide +kernel
theorem dX5_setThreshold_22 : decode cX5_setThreshold 22 = .ok (.getfield 13, 3) := by decide +kernel
theorem dX5_setThreshold_25 : decode cX5_setThreshold 25 = .ok (.istore_n 2, 1) := by decide +kernel
theorem dX5_setThreshold_26 : decode cX5_setThreshold 26 = .ok (.aload_n 0, 1) := by decide +kernel
theorem dX5_setThreshold_27 : decode cX5_setThreshold 27 = .ok (.iload_n 1, 1) := by decide +kernel
theorem dX5_setThreshold_28 : decode cX5_setThreshold 28 = .ok (.putfield 13, 3) := by decide +kernel
theorem dX5_setThreshold_31 : decode cX5_setThreshold 31 = .ok (.iload_n 2, 1) := by decide +kernel
theorem dX5_setThreshold_32 : decode cX5_setThreshold 32 = .ok (.ireturn, 1) := by decide +kernel
theorem dX5_setWindow_0 : decode cX5_setWindow 0 = .ok (.iload_n 1, 1) := by decide +kernel
theorem dX5_setWindow_1 : decode cX5_setWindow 1 = .ok (.ifCond .lt 10, 3) := by decide +kernel
theorem dX5_setWindow_4 : decode cX5_setWindow 4 = .ok (.iload_n 1, 1) := by decide +kernel
theorem dX5_setWindow_5 : decode cX5_setWindow 5 = .ok (.sipush 1440, 3) := by decide +kernel
theorem dX5_setWindow_8 : decode cX5_setWindow 8 = .ok (.if_icmp .le 13, 3) := by decide +kernel
theorem dX5_setWindow_11 : decode cX5_setWindow 11 = .ok (.new 64, 3) := by decide +kernel
theorem dX5_setWindow_14 : decode cX5_setWindow 14 = .ok (.dup, 1) := by decide +kernel
theorem dX5_setWindow_15 : decode cX5_setWindow 15 = .ok (.ldc 79, 2) := by decide +kernel
theorem dX5_setWindow_17 : decode cX5_setWindow 17 = .ok (.invokespecial 68, 3) := by decide +kernel
theorem dX5_setWindow_20 : decode cX5_setWindow 20 = .ok (.athrow, 1) := by decide +kernel
theorem dX5_setWindow_21 : decode cX5_setWindow 21 = .ok (.aload_n 0, 1) := by decide +kernel
theorem dX5_setWindow_22 : decode cX5_setWindow 22 = .ok (.getfield 16, 3) := by decide +kernel
theorem dX5_setWindow_25 : decode cX5_setWindow 25 = .ok (.istore_n 2, 1) := by decide +kernel
theorem dX5_setWindow_26 : decode cX5_setWindow 26 = .ok (.aload_n 0, 1) := by decide +kernel
theorem dX5_setWindow_27 : decode cX5_setWindow 27 = .ok (.iload_n 1, 1) := by decide +kernel
theorem dX5_setWindow_28 : decode cX5_setWindow 28 = .ok (.putfield 16, 3) := by decide +kernel
theorem dX5_setWindow_31 : decode cX5_setWindow 31 = .ok (.iload_n 2, 1) := by decide +kernel
theorem dX5_setWindow_32 : decode cX5_setWindow 32 = .ok (.ireturn, 1) := by decide +kernel
theorem dX5_likeness_0 : decode cX5_likeness 0 = .ok (.lload_n 1, 1) := by decide +kernel
theorem dX5_likeness_1 : decode cX5_likeness 1 = .ok (.lconst 0, 1) := by decide +kernel
theorem dX5_likeness_2 : decode cX5_likeness 2 = .ok (.lcmp, 1) := by decide +kernel
theorem dX5_likeness_3 : decode cX5_likeness 3 = .ok (.ifCond .eq 9, 3) := by decide +kernel
theorem dX5_likeness_6 : decode cX5_likeness 6 = .ok (.lload_n 3, 1) := by decide +kernel
theorem dX5_likeness_7 : decode cX5_likeness 7 = .ok (.lconst 0, 1) := by decide +kernel
theorem dX5_likeness_8 : decode cX5_likeness 8 = .ok (.lcmp, 1) := by decide +kernel
theorem dX5_likeness_9 : decode cX5_likeness 9 = .ok (.ifCond .ne 13, 3) := by decide +kernel
theorem dX5_likeness_12 : decode cX5_likeness 12 = .ok (.new 64, 3) := by decide +kernel
theorem dX5_likeness_15 : decode cX5_likeness 15 = .ok (.dup, 1) := by decide +kernel
theorem dX5_likeness_16 : decode cX5_likeness 16 = .ok (.ldc 81, 2) := by decide +kernel
theorem dX5_likeness_18 : decode cX5_likeness 18 = .ok (.invokespecial 68, 3) := by decide +kernel
theorem dX5_likeness_21 : decode cX5_likeness 21 = .ok (.athrow, 1) := by decide +kernel
theorem dX5_likeness_22 : decode cX5_likeness 22 = .ok (.lload_n 1, 1) := by decide +kernel
theorem dX5_likeness_23 : decode cX5_likeness 23 = .ok (.lload_n 3, 1) := by decide +kernel
theorem dX5_likeness_24 : decode cX5_likeness 24 = .ok (.invokestatic 83, 3) := by decide +kernel
theorem dX5_likeness_27 : decode cX5_likeness 27 = .ok (.ireturn, 1) := by decide +kernel
theorem dX5_addSource_0 : decode cX5_addSource 0 = .ok (.aload_n 0, 1) := by decide +kernel
theorem dX5_addSource_1 : decode cX5_addSource 1 = .ok (.getfield 19, 3) := by decide +kernel
theorem dX5_addSource_4 : decode cX5_addSource 4 = .ok (.bipush 6, 2) := by decide +kernel
theorem dX5_addSource_6 : decode cX5_addSource 6 = .ok (.if_icmp .lt 13, 3) := by decide +kernel
theorem dX5_addSource_9 : decode cX5_addSource 9 = .ok (.new 72, 3) := by decide +kernel
theorem dX5_addSource_12 : decode cX5_addSource 12 = .ok (.dup, 1) := by decide +kernel
theorem dX5_addSource_13 : decode cX5_addSource 13 = .ok (.ldc 87, 2) := by decide +kernel
theorem dX5_addSource_15 : decode cX5_addSource 15 = .ok (.invokespecial 76, 3) := by decide +kernel
theorem dX5_addSource_18 : decode cX5_addSource 18 = .ok (.athrow, 1) := by decide +kernel
theorem dX5_addSource_19 : decode cX5_addSource 19 = .ok (.aload_n 0, 1) := by decide +kernel
theorem dX5_addSource_20 : decode cX5_addSource 20 = .ok (.dup, 1) := by decide +kernel
theorem dX5_addSource_21 : decode cX5_addSource 21 = .ok (.getfield 19, 3) := by decide +kernel
theorem dX5_addSource_24 : decode cX5_addSource 24 = .ok (.iconst 1, 1) := by decide +kernel
theorem dX5_addSource_25 : decode cX5_addSource 25 = .ok (.iadd, 1) := by decide +kernel
theorem dX5_addSource_26 : decode cX5_addSource 26 = .ok (.putfield 19, 3) := by decide +kernel
theorem dX5_addSource_29 : decode cX5_addSource 29 = .ok (.aload_n 0, 1) := by decide +kernel
theorem dX5_addSource_30 : decode cX5_addSource 30 = .ok (.getfield 19, 3) := by decide +kernel
theorem dX5_addSource_33 : decode cX5_addSource 33 = .ok (.iconst 1, 1) := by decide +kernel
theorem dX5_addSource_34 : decode cX5_addSource 34 = .ok (.isub, 1) := by decide +kernel
theorem dX5_addSource_35 : decode cX5_addSource 35 = .ok (.ireturn, 1) := by decide +kernel
theorem dX5_fetch_0 : decode cX5_fetch 0 = .ok (.iload_n 1, 1) := by decide +kernel
theorem dX5_fetch_1 : decode cX5_fetch 1 = .ok (.ifCond .lt 11, 3) := by decide +kernel
theorem dX5_fetch_4 : decode cX5_fetch 4 = .ok (.iload_n 1, 1) := by decide +kernel
theorem dX5_fetch_5 : decode cX5_fetch 5 = .ok (.aload_n 0, 1) := by decide +kernel
theorem dX5_fetch_6 : decode cX5_fetch 6 = .ok (.getfield 19, 3) := by decide +kernel
theorem dX5_fetch_9 : decode cX5_fetch 9 = .ok (.if_icmp .lt 13, 3) := by decide +kernel
theorem dX5_fetch_12 : decode cX5_fetch 12 = .ok (.new 89, 3) := by decide +kernel
theorem dX5_fetch_15 : decode cX5_fetch 15 = .ok (.dup, 1) := by decide +kernel
theorem dX5_fetch_16 : decode cX5_fetch 16 = .ok (.ldc 91, 2) := by decide +kernel
theorem dX5_fetch_18 : decode cX5_fetch 18 = .ok (.invokespecial 93, 3) := by decide +kernel
theorem dX5_fetch_21 : decode cX5_fetch 21 = .ok (.athrow, 1) := by decide +kernel
theorem dX5_fetch_22 : decode cX5_fetch 22 = .ok (.iload_n 2, 1) := by decide +kernel
theorem dX5_fetch_23 : decode cX5_fetch 23 = .ok (.invokestatic 94, 3) := by decide +kernel
theorem dX5_fetch_26 : decode cX5_fetch 26 = .ok (.ifCond .eq 25, 3) := by decide +kernel
theorem dX5_fetch_29 : decode cX5_fetch 29 = .ok (.iload_n 3, 1) := by decide +kernel
theorem dX5_fetch_30 : decode cX5_fetch 30 = .ok (.invokestatic 94, 3) := by decide +kernel
theorem dX5_fetch_33 : decode cX5_fetch 33 = .ok (.ifCond .eq 18, 3) := by decide +kernel
theorem dX5_fetch_36 : decode cX5_fetch 36 = .ok (.iload 6, 2) := by decide +kernel
theorem dX5_fetch_38 : decode cX5_fetch 38 = .ok (.invokestatic 98, 3) := by decide +kernel
theorem dX5_fetch_41 : decode cX5_fetch 41 = .ok (.ifCond .eq 10, 3) := by decide +kernel
theorem dX5_fetch_44 : decode cX5_fetch 44 = .ok (.lload 4, 2) := by decide +kernel
theorem dX5_fetch_46 : decode cX5_fetch 46 = .ok (.lconst 0, 1) := by decide +kernel
theorem dX5_fetch_47 : decode cX5_fetch 47 = .ok (.lcmp, 1) := by decide +kernel
theorem dX5_fetch_48 : decode cX5_fetch 48 = .ok (.ifCond .ne 13, 3) := by decide +kernel
theorem dX5_fetch_51 : decode cX5_fetch 51 = .ok (.new 64, 3) := by decide +kernel
theorem dX5_fetch_54 : decode cX5_fetch 54 = .ok (.dup, 1) := by decide +kernel
theorem dX5_fetch_55 : decode cX5_fetch 55 = .ok (.ldc 101, 2) := by decide +kernel
theorem dX5_fetch_57 : decode cX5_fetch 57 = .ok (.invokespecial 68, 3) := by decide +kernel
theorem dX5_fetch_60 : decode cX5_fetch 60 = .ok (.athrow, 1) := by decide +kernel
theorem dX5_fetch_61 : decode cX5_fetch 61 = .ok (.aload_n 0, 1) := by decide +kernel
theorem dX5_fetch_62 : decode cX5_fetch 62 = .ok (.iload_n 1, 1) := by decide +kernel
theorem dX5_fetch_63 : decode cX5_fetch 63 = .ok (.iload_n 2, 1) := by decide +kernel
theorem dX5_fetch_64 : decode cX5_fetch 64 = .ok (.iload_n 3, 1) := by decide +kernel
theorem dX5_fetch_65 : decode cX5_fetch 65 = .ok (.lload 4, 2) := by decide +kernel
theorem dX5_fetch_67 : decode cX5_fetch 67 = .ok (.invokevirtual 103, 3) := by decide +kernel
theorem dX5_fetch_70 : decode cX5_fetch 70 = .ok (.istore 7, 2) := by decide +kernel
theorem dX5_fetch_72 : decode cX5_fetch 72 = .ok (.iload 7, 2) := by decide +kernel
theorem dX5_fetch_74 : decode cX5_fetch 74 = .ok (.iconst (-1), 1) := by decide +kernel
theorem dX5_fetch_75 : decode cX5_fetch 75 = .ok (.if_icmp .ne 40, 3) := by decide +kernel
theorem dX5_fetch_78 : decode cX5_fetch 78 = .ok (.aload_n 0, 1) := by decide +kernel
theorem dX5_fetch_79 : decode cX5_fetch 79 = .ok (.getfield 25, 3) := by decide +kernel
theorem dX5_fetch_82 : decode cX5_fetch 82 = .ok (.lload 4, 2) := by decide +kernel
theorem dX5_fetch_84 : decode cX5_fetch 84 = .ok (.aload_n 0, 1) := by decide +kernel
theorem dX5_fetch_85 : decode cX5_fetch 85 = .ok (.getfield 9, 3) := by decide +kernel
theorem dX5_fetch_88 : decode cX5_fetch 88 = .ok (.aload_n 0, 1) := by decide +kernel
theorem dX5_fetch_89 : decode cX5_fetch 89 = .ok (.iload 6, 2) := by decide +kernel
theorem dX5_fetch_91 : decode cX5_fetch 91 = .ok (.invokevirtual 107, 3) := by decide +kernel
theorem dX5_fetch_94 : decode cX5_fetch 94 = .ok (.invokevirtual 111, 3) := by decide +kernel
theorem dX5_fetch_97 : decode cX5_fetch 97 = .ok (.istore 7, 2) := by decide +kernel
theorem dX5_fetch_99 : decode cX5_fetch 99 = .ok (.iload 7, 2) := by decide +kernel
theorem dX5_fetch_101 : decode cX5_fetch 101 = .ok (.iconst (-1), 1) := by decide +kernel
theorem dX5_fetch_102 : decode cX5_fetch 102 = .ok (.if_icmp .ne 28, 3) := by decide +kernel
theorem dX5_fetch_105 : decode cX5_fetch 105 = .ok (.new 72, 3) := by decide +kernel
theorem dX5_fetch_108 : decode cX5_fetch 108 = .ok (.dup, 1) := by decide +kernel
theorem dX5_fetch_109 : decode cX5_fetch 109 = .ok (.ldc 115, 2) := by decide +kernel
theorem dX5_fetch_111 : decode cX5_fetch 111 = .ok (.invokespecial 76, 3) := by decide +kernel
theorem dX5_fetch_114 : decode cX5_fetch 114 = .ok (.athrow, 1) := by decide +kernel
theorem dX5_fetch_115 : decode cX5_fetch 115 = .ok (.aload_n 0, 1) := by decide +kernel
theorem dX5_fetch_116 : decode cX5_fetch 116 = .ok (.getfield 25, 3) := by decide +kernel
theorem dX5_fetch_119 : decode cX5_fetch 119 = .ok (.iload 7, 2) := by decide +kernel
theorem dX5_fetch_121 : decode cX5_fetch 121 = .ok (.lload 4, 2) := by decide +kernel
theorem dX5_fetch_123 : decode cX5_fetch 123 = .ok (.aload_n 0, 1) := by decide +kernel
theorem dX5_fetch_124 : decode cX5_fetch 124 = .ok (.getfield 13, 3) := by decide +kernel
theorem dX5_fetch_127 : decode cX5_fetch 127 = .ok (.invokevirtual 117, 3) := by decide +kernel
theorem dX5_fetch_130 : decode cX5_fetch 130 = .ok (.aload_n 0, 1) := by decide +kernel
theorem dX5_fetch_131 : decode cX5_fetch 131 = .ok (.getfield 25, 3) := by decide +kernel
theorem dX5_fetch_134 : decode cX5_fetch 134 = .ok (.iload 7, 2) := by decide +kernel
theorem dX5_fetch_136 : decode cX5_fetch 136 = .ok (.iload_n 1, 1) := by decide +kernel
theorem dX5_fetch_137 : decode cX5_fetch 137 = .ok (.invokevirtual 121, 3) := by decide +kernel
theorem dX5_fetch_140 : decode cX5_fetch 140 = .ok (.aload_n 0, 1) := by decide +kernel
theorem dX5_fetch_141 : decode cX5_fetch 141 = .ok (.getfield 25, 3) := by decide +kernel
theorem dX5_fetch_144 : decode cX5_fetch 144 = .ok (.iload 7, 2) := by decide +kernel
theorem dX5_fetch_146 : decode cX5_fetch 146 = .ok (.iload_n 1, 1) := by decide +kernel
theorem dX5_fetch_147 : decode cX5_fetch 147 = .ok (.iload_n 2, 1) := by decide +kernel
theorem dX5_fetch_148 : decode cX5_fetch 148 = .ok (.invokevirtual 125, 3) := by decide +kernel
theorem dX5_fetch_151 : decode cX5_fetch 151 = .ok (.aload_n 0, 1) := by decide +kernel
theorem dX5_fetch_152 : decode cX5_fetch 152 = .ok (.getfield 25, 3) := by decide +kernel
theorem dX5_fetch_155 : decode cX5_fetch 155 = .ok (.iload 7, 2) := by decide +kernel
theorem dX5_fetch_157 : decode cX5_fetch 157 = .ok (.iload_n 3, 1) := by decide +kernel
theorem dX5_fetch_158 : decode cX5_fetch 158 = .ok (.invokevirtual 129, 3) := by decide +kernel
theorem dX5_fetch_161 : decode cX5_fetch 161 = .ok (.iload 7, 2) := by decide +kernel
theorem dX5_fetch_163 : decode cX5_fetch 163 = .ok (.ireturn, 1) := by decide +kernel
theorem dX5_items_0 : decode cX5_items 0 = .ok (.aload_n 0, 1) := by decide +kernel
theorem dX5_items_1 : decode cX5_items 1 = .ok (.getfield 25, 3) := by decide +kernel
theorem dX5_items_4 : decode cX5_items 4 = .ok (.invokevirtual 132, 3) := by decide +kernel
theorem dX5_items_7 : decode cX5_items 7 = .ok (.ireturn, 1) := by decide +kernel
theorem dX5_withIdentifier_0 : decode cX5_withIdentifier 0 = .ok (.aload_n 0, 1) := by decide +kernel
theorem dX5_withIdentifier_1 : decode cX5_withIdentifier 1 = .ok (.getfield 25, 3) := by decide +kernel
theorem dX5_withIdentifier_4 : decode cX5_withIdentifier 4 = .ok (.iload_n 1, 1) := by decide +kernel
theorem dX5_withIdentifier_5 : decode cX5_withIdentifier 5 = .ok (.iload_n 2, 1) := by decide +kernel
theorem dX5_withIdentifier_6 : decode cX5_withIdentifier 6 = .ok (.invokevirtual 136, 3) := by decide +kernel
theorem dX5_withIdentifier_9 : decode cX5_withIdentifier 9 = .ok (.istore_n 3, 1) := by decide +kernel
theorem dX5_withIdentifier_10 : decode cX5_withIdentifier 10 = .ok (.iload_n 3, 1) := by decide +kernel
theorem dX5_withIdentifier_11 : decode cX5_withIdentifier 11 = .ok (.iconst (-1), 1) := by decide +kernel
theorem dX5_withIdentifier_12 : decode cX5_withIdentifier 12 = .ok (.if_icmp .ne 13, 3) := by decide +kernel
theorem dX5_withIdentifier_15 : decode cX5_withIdentifier 15 = .ok (.new 140, 3) := by decide +kernel
theorem dX5_withIdentifier_18 : decode cX5_withIdentifier 18 = .ok (.dup, 1) := by decide +kernel
theorem dX5_withIdentifier_19 : decode cX5_withIdentifier 19 = .ok (.ldc 142, 2) := by decide +kernel
theorem dX5_withIdentifier_21 : decode cX5_withIdentifier 21 = .ok (.invokespecial 144, 3) := by decide +kernel
theorem dX5_withIdentifier_24 : decode cX5_withIdentifier 24 = .ok (.athrow, 1) := by decide +kernel
theorem dX5_withIdentifier_25 : decode cX5_withIdentifier 25 = .ok (.iload_n 3, 1) := by decide +kernel
theorem dX5_withIdentifier_26 : decode cX5_withIdentifier 26 = .ok (.ireturn, 1) := by decide +kernel
theorem dX5_withLink_0 : decode cX5_withLink 0 = .ok (.aload_n 0, 1) := by decide +kernel
theorem dX5_withLink_1 : decode cX5_withLink 1 = .ok (.getfield 25, 3) := by decide +kernel
theorem dX5_withLink_4 : decode cX5_withLink 4 = .ok (.iload_n 1, 1) := by decide +kernel
theorem dX5_withLink_5 : decode cX5_withLink 5 = .ok (.invokevirtual 145, 3) := by decide +kernel
theorem dX5_withLink_8 : decode cX5_withLink 8 = .ok (.istore_n 2, 1) := by decide +kernel
theorem dX5_withLink_9 : decode cX5_withLink 9 = .ok (.iload_n 2, 1) := by decide +kernel
theorem dX5_withLink_10 : decode cX5_withLink 10 = .ok (.iconst (-1), 1) := by decide +kernel
theorem dX5_withLink_11 : decode cX5_withLink 11 = .ok (.if_icmp .ne 13, 3) := by decide +kernel
theorem dX5_withLink_14 : decode cX5_withLink 14 = .ok (.new 140, 3) := by decide +kernel
theorem dX5_withLink_17 : decode cX5_withLink 17 = .ok (.dup, 1) := by decide +kernel
theorem dX5_withLink_18 : decode cX5_withLink 18 = .ok (.ldc 148, 2) := by decide +kernel
theorem dX5_withLink_20 : decode cX5_withLink 20 = .ok (.invokespecial 144, 3) := by decide +kernel
theorem dX5_withLink_23 : decode cX5_withLink 23 = .ok (.athrow, 1) := by decide +kernel
theorem dX5_withLink_24 : decode cX5_withLink 24 = .ok (.iload_n 2, 1) := by decide +kernel
theorem dX5_withLink_25 : decode cX5_withLink 25 = .ok (.ireturn, 1) := by decide +kernel
theorem dX5_title_0 : decode cX5_title 0 = .ok (.aload_n 0, 1) := by decide +kernel
theorem dX5_title_1 : decode cX5_title 1 = .ok (.iload_n 1, 1) := by decide +kernel
theorem dX5_title_2 : decode cX5_title 2 = .ok (.invokevirtual 150, 3) := by decide +kernel
theorem dX5_title_5 : decode cX5_title 5 = .ok (.aload_n 0, 1) := by decide +kernel
theorem dX5_title_6 : decode cX5_title 6 = .ok (.getfield 25, 3) := by decide +kernel
theorem dX5_title_9 : decode cX5_title 9 = .ok (.iload_n 1, 1) := by decide +kernel
theorem dX5_title_10 : decode cX5_title 10 = .ok (.iload_n 2, 1) := by decide +kernel
theorem dX5_title_11 : decode cX5_title 11 = .ok (.invokevirtual 154, 3) := by decide +kernel
theorem dX5_title_14 : decode cX5_title 14 = .ok (.ifCond .ne 13, 3) := by decide +kernel
theorem dX5_title_17 : decode cX5_title 17 = .ok (.new 140, 3) := by decide +kernel
theorem dX5_title_20 : decode cX5_title 20 = .ok (.dup, 1) := by decide +kernel
theorem dX5_title_21 : decode cX5_title 21 = .ok (.ldc 158, 2) := by decide +kernel
theorem dX5_title_23 : decode cX5_title 23 = .ok (.invokespecial 144, 3) := by decide +kernel
theorem dX5_title_26 : decode cX5_title 26 = .ok (.athrow, 1) := by decide +kernel
theorem dX5_title_27 : decode cX5_title 27 = .ok (.aload_n 0, 1) := by decide +kernel
theorem dX5_title_28 : decode cX5_title 28 = .ok (.getfield 25, 3) := by decide +kernel
theorem dX5_title_31 : decode cX5_title 31 = .ok (.iload_n 1, 1) := by decide +kernel
theorem dX5_title_32 : decode cX5_title 32 = .ok (.iload_n 2, 1) := by decide +kernel
theorem dX5_title_33 : decode cX5_title 33 = .ok (.invokevirtual 160, 3) := by decide +kernel
theorem dX5_title_36 : decode cX5_title 36 = .ok (.lreturn, 1) := by decide +kernel
theorem dX5_versions_0 : decode cX5_versions 0 = .ok (.aload_n 0, 1) := by decide +kernel
theorem dX5_versions_1 : decode cX5_versions 1 = .ok (.iload_n 1, 1) := by decide +kernel
theorem dX5_versions_2 : decode cX5_versions 2 = .ok (.invokevirtual 150, 3) := by decide +kernel
theorem dX5_versions_5 : decode cX5_versions 5 = .ok (.aload_n 0, 1) := by decide +kernel
theorem dX5_versions_6 : decode cX5_versions 6 = .ok (.getfield 25, 3) := by decide +kernel
theorem dX5_versions_9 : decode cX5_versions 9 = .ok (.iload_n 1, 1) := by decide +kernel
theorem dX5_versions_10 : decode cX5_versions 10 = .ok (.invokevirtual 164, 3) := by decide +kernel
theorem dX5_versions_13 : decode cX5_versions 13 = .ok (.ireturn, 1) := by decide +kernel
theorem dX5_latestMajor_0 : decode cX5_latestMajor 0 = .ok (.aload_n 0, 1) := by decide +kernel
theorem dX5_latestMajor_1 : decode cX5_latestMajor 1 = .ok (.iload_n 1, 1) := by decide +kernel
theorem dX5_latestMajor_2 : decode cX5_latestMajor 2 = .ok (.invokevirtual 150, 3) := by decide +kernel
theorem dX5_latestMajor_5 : decode cX5_latestMajor 5 = .ok (.aload_n 0, 1) := by decide +kernel
theorem dX5_latestMajor_6 : decode cX5_latestMajor 6 = .ok (.getfield 25, 3) := by decide +kernel
theorem dX5_latestMajor_9 : decode cX5_latestMajor 9 = .ok (.iload_n 1, 1) := by decide +kernel
theorem dX5_latestMajor_10 : decode cX5_latestMajor 10 = .ok (.invokevirtual 167, 3) := by decide +kernel
theorem dX5_latestMajor_13 : decode cX5_latestMajor 13 = .ok (.ireturn, 1) := by decide +kernel
theorem dX5_sourcesOf_0 : decode cX5_sourcesOf 0 = .ok (.aload_n 0, 1) := by decide +kernel
theorem dX5_sourcesOf_1 : decode cX5_sourcesOf 1 = .ok (.iload_n 1, 1) := by decide +kernel
theorem dX5_sourcesOf_2 : decode cX5_sourcesOf 2 = .ok (.invokevirtual 150, 3) := by decide +kernel
theorem dX5_sourcesOf_5 : decode cX5_sourcesOf 5 = .ok (.aload_n 0, 1) := by decide +kernel
theorem dX5_sourcesOf_6 : decode cX5_sourcesOf 6 = .ok (.getfield 25, 3) := by decide +kernel
theorem dX5_sourcesOf_9 : decode cX5_sourcesOf 9 = .ok (.iload_n 1, 1) := by decide +kernel
theorem dX5_sourcesOf_10 : decode cX5_sourcesOf 10 = .ok (.invokevirtual 170, 3) := by decide +kernel
theorem dX5_sourcesOf_13 : decode cX5_sourcesOf 13 = .ok (.ireturn, 1) := by decide +kernel
theorem dX5_timeOf_0 : decode cX5_timeOf 0 = .ok (.aload_n 0, 1) := by decide +kernel
theorem dX5_timeOf_1 : decode cX5_timeOf 1 = .ok (.iload_n 1, 1) := by decide +kernel
theorem dX5_timeOf_2 : decode cX5_timeOf 2 = .ok (.invokevirtual 150, 3) := by decide +kernel
theorem dX5_timeOf_5 : decode cX5_timeOf 5 = .ok (.aload_n 0, 1) := by decide +kernel
theorem dX5_timeOf_6 : decode cX5_timeOf 6 = .ok (.getfield 25, 3) := by decide +kernel
theorem dX5_timeOf_9 : decode cX5_timeOf 9 = .ok (.iload_n 1, 1) := by decide +kernel
theorem dX5_timeOf_10 : decode cX5_timeOf 10 = .ok (.invokevirtual 173, 3) := by decide +kernel
theorem dX5_timeOf_13 : decode cX5_timeOf 13 = .ok (.ireturn, 1) := by decide +kernel
theorem dX5_addRule_0 : decode cX5_addRule 0 = .ok (.iload 5, 2) := by decide +kernel
theorem dX5_addRule_2 : decode cX5_addRule 2 = .ok (.ifCond .lt 30, 3) := by decide +kernel
theorem dX5_addRule_5 : decode cX5_addRule 5 = .ok (.iload 5, 2) := by decide +kernel
theorem dX5_addRule_7 : decode cX5_addRule 7 = .ok (.bipush 63, 2) := by decide +kernel
theorem dX5_addRule_9 : decode cX5_addRule 9 = .ok (.if_icmp .gt 23, 3) := by decide +kernel
theorem dX5_addRule_12 : decode cX5_addRule 12 = .ok (.iload 6, 2) := by decide +kernel
theorem dX5_addRule_14 : decode cX5_addRule 14 = .ok (.invokestatic 176, 3) := by decide +kernel
theorem dX5_addRule_17 : decode cX5_addRule 17 = .ok (.ifCond .eq 15, 3) := by decide +kernel
theorem dX5_addRule_20 : decode cX5_addRule 20 = .ok (.iload 7, 2) := by decide +kernel
theorem dX5_addRule_22 : decode cX5_addRule 22 = .ok (.ifCond .lt 10, 3) := by decide +kernel
theorem dX5_addRule_25 : decode cX5_addRule 25 = .ok (.iload 7, 2) := by decide +kernel
theorem dX5_addRule_27 : decode cX5_addRule 27 = .ok (.bipush 9, 2) := by decide +kernel
theorem dX5_addRule_29 : decode cX5_addRule 29 = .ok (.if_icmp .le 13, 3) := by decide +kernel
theorem dX5_addRule_32 : decode cX5_addRule 32 = .ok (.new 64, 3) := by decide +kernel
theorem dX5_addRule_35 : decode cX5_addRule 35 = .ok (.dup, 1) := by decide +kernel
theorem dX5_addRule_36 : decode cX5_addRule 36 = .ok (.ldc 179, 2) := by decide +kernel
theorem dX5_addRule_38 : decode cX5_addRule 38 = .ok (.invokespecial 68, 3) := by decide +kernel
theorem dX5_addRule_41 : decode cX5_addRule 41 = .ok (.athrow, 1) := by decide +kernel
theorem dX5_addRule_42 : decode cX5_addRule 42 = .ok (.aload_n 0, 1) := by decide +kernel
theorem dX5_addRule_43 : decode cX5_addRule 43 = .ok (.getfield 32, 3) := by decide +kernel
theorem dX5_addRule_46 : decode cX5_addRule 46 = .ok (.lload_n 1, 1) := by decide +kernel
theorem dX5_addRule_47 : decode cX5_addRule 47 = .ok (.lload_n 3, 1) := by decide +kernel
theorem dX5_addRule_48 : decode cX5_addRule 48 = .ok (.iload 5, 2) := by decide +kernel
theorem dX5_addRule_50 : decode cX5_addRule 50 = .ok (.iload 6, 2) := by decide +kernel
theorem dX5_addRule_52 : decode cX5_addRule 52 = .ok (.iload 7, 2) := by decide +kernel
theorem dX5_addRule_54 : decode cX5_addRule 54 = .ok (.invokevirtual 181, 3) := by decide +kernel
theorem dX5_addRule_57 : decode cX5_addRule 57 = .ok (.istore 8, 2) := by decide +kernel
theorem dX5_addRule_59 : decode cX5_addRule 59 = .ok (.iload 8, 2) := by decide +kernel
theorem dX5_addRule_61 : decode cX5_addRule 61 = .ok (.iconst (-1), 1) := by decide +kernel
theorem dX5_addRule_62 : decode cX5_addRule 62 = .ok (.if_icmp .ne 13, 3) := by decide +kernel
theorem dX5_addRule_65 : decode cX5_addRule 65 = .ok (.new 72, 3) := by decide +kernel
theorem dX5_addRule_68 : decode cX5_addRule 68 = .ok (.dup, 1) := by decide +kernel
theorem dX5_addRule_69 : decode cX5_addRule 69 = .ok (.ldc 184, 2) := by decide +kernel
theorem dX5_addRule_71 : decode cX5_addRule 71 = .ok (.invokespecial 76, 3) := by decide +kernel
theorem dX5_addRule_74 : decode cX5_addRule 74 = .ok (.athrow, 1) := by decide +kernel
theorem dX5_addRule_75 : decode cX5_addRule 75 = .ok (.iload 8, 2) := by decide +kernel
theorem dX5_addRule_77 : decode cX5_addRule 77 = .ok (.ireturn, 1) := by decide +kernel
theorem dX5_dropRule_0 : decode cX5_dropRule 0 = .ok (.aload_n 0, 1) := by decide +kernel
theorem dX5_dropRule_1 : decode cX5_dropRule 1 = .ok (.iload_n 1, 1) := by decide +kernel
theorem dX5_dropRule_2 : decode cX5_dropRule 2 = .ok (.invokevirtual 186, 3) := by decide +kernel
theorem dX5_dropRule_5 : decode cX5_dropRule 5 = .ok (.aload_n 0, 1) := by decide +kernel
theorem dX5_dropRule_6 : decode cX5_dropRule 6 = .ok (.getfield 32, 3) := by decide +kernel
theorem dX5_dropRule_9 : decode cX5_dropRule 9 = .ok (.iload_n 1, 1) := by decide +kernel
theorem dX5_dropRule_10 : decode cX5_dropRule 10 = .ok (.invokevirtual 189, 3) := by decide +kernel
theorem dX5_dropRule_13 : decode cX5_dropRule 13 = .ok (.aload_n 0, 1) := by decide +kernel
theorem dX5_dropRule_14 : decode cX5_dropRule 14 = .ok (.getfield 32, 3) := by decide +kernel
theorem dX5_dropRule_17 : decode cX5_dropRule 17 = .ok (.invokevirtual 192, 3) := by decide +kernel
theorem dX5_dropRule_20 : decode cX5_dropRule 20 = .ok (.ireturn, 1) := by decide +kernel
theorem dX5_tagsOf_0 : decode cX5_tagsOf 0 = .ok (.aload_n 0, 1) := by decide +kernel
theorem dX5_tagsOf_1 : decode cX5_tagsOf 1 = .ok (.iload_n 1, 1) := by decide +kernel
theorem dX5_tagsOf_2 : decode cX5_tagsOf 2 = .ok (.invokevirtual 150, 3) := by decide +kernel
theorem dX5_tagsOf_5 : decode cX5_tagsOf 5 = .ok (.aload_n 0, 1) := by decide +kernel
theorem dX5_tagsOf_6 : decode cX5_tagsOf 6 = .ok (.iload_n 1, 1) := by decide +kernel
theorem dX5_tagsOf_7 : decode cX5_tagsOf 7 = .ok (.invokevirtual 193, 3) := by decide +kernel
theorem dX5_tagsOf_10 : decode cX5_tagsOf 10 = .ok (.sipush 255, 3) := by decide +kernel
theorem dX5_tagsOf_13 : decode cX5_tagsOf 13 = .ok (.iand, 1) := by decide +kernel
theorem dX5_tagsOf_14 : decode cX5_tagsOf 14 = .ok (.ireturn, 1) := by decide +kernel
theorem dX5_isHidden_0 : decode cX5_isHidden 0 = .ok (.aload_n 0, 1) := by decide +kernel
theorem dX5_isHidden_1 : decode cX5_isHidden 1 = .ok (.iload_n 1, 1) := by decide +kernel
theorem dX5_isHidden_2 : decode cX5_isHidden 2 = .ok (.invokevirtual 150, 3) := by decide +kernel
theorem dX5_isHidden_5 : decode cX5_isHidden 5 = .ok (.aload_n 0, 1) := by decide +kernel
theorem dX5_isHidden_6 : decode cX5_isHidden 6 = .ok (.iload_n 1, 1) := by decide +kernel
theorem dX5_isHidden_7 : decode cX5_isHidden 7 = .ok (.invokevirtual 193, 3) := by decide +kernel
theorem dX5_isHidden_10 : decode cX5_isHidden 10 = .ok (.sipush 256, 3) := by decide +kernel
theorem dX5_isHidden_13 : decode cX5_isHidden 13 = .ok (.iand, 1) := by decide +kernel
theorem dX5_isHidden_14 : decode cX5_isHidden 14 = .ok (.ifCond .eq 7, 3) := by decide +kernel
theorem dX5_isHidden_17 : decode cX5_isHidden 17 = .ok (.iconst 1, 1) := by decide +kernel
theorem dX5_isHidden_18 : decode cX5_isHidden 18 = .ok (.goto 4, 3) := by decide +kernel
theorem dX5_isHidden_21 : decode cX5_isHidden 21 = .ok (.iconst 0, 1) := by decide +kernel
theorem dX5_isHidden_22 : decode cX5_isHidden 22 = .ok (.ireturn, 1) := by decide +kernel
theorem dX5_matches_0 : decode cX5_matches 0 = .ok (.aload_n 0, 1) := by decide +kernel
theorem dX5_matches_1 : decode cX5_matches 1 = .ok (.iload_n 1, 1) := by decide +kernel
theorem dX5_matches_2 : decode cX5_matches 2 = .ok (.invokevirtual 186, 3) := by decide +kernel
theorem dX5_matches_5 : decode cX5_matches 5 = .ok (.iconst 0, 1) := by decide +kernel
theorem dX5_matches_6 : decode cX5_matches 6 = .ok (.istore_n 2, 1) := by decide +kernel
theorem dX5_matches_7 : decode cX5_matches 7 = .ok (.iconst 0, 1) := by decide +kernel
theorem dX5_matches_8 : decode cX5_matches 8 = .ok (.istore_n 3, 1) := by decide +kernel
theorem dX5_matches_9 : decode cX5_matches 9 = .ok (.iload_n 3, 1) := by decide +kernel
theorem dX5_matches_10 : decode cX5_matches 10 = .ok (.aload_n 0, 1) := by decide +kernel
theorem dX5_matches_11 : decode cX5_matches 11 = .ok (.getfield 25, 3) := by decide +kernel
theorem dX5_matches_14 : decode cX5_matches 14 = .ok (.invokevirtual 132, 3) := by decide +kernel
theorem dX5_matches_17 : decode cX5_matches 17 = .ok (.if_icmp .ge 59, 3) := by decide +kernel
theorem dX5_matches_20 : decode cX5_matches 20 = .ok (.aload_n 0, 1) := by decide +kernel
theorem dX5_matches_21 : decode cX5_matches 21 = .ok (.getfield 25, 3) := by decide +kernel
theorem dX5_matches_24 : decode cX5_matches 24 = .ok (.iload_n 3, 1) := by decide +kernel
theorem dX5_matches_25 : decode cX5_matches 25 = .ok (.invokevirtual 196, 3) := by decide +kernel
theorem dX5_matches_28 : decode cX5_matches 28 = .ok (.lstore 4, 2) := by decide +kernel
theorem dX5_matches_30 : decode cX5_matches 30 = .ok (.aload_n 0, 1) := by decide +kernel
theorem dX5_matches_31 : decode cX5_matches 31 = .ok (.getfield 25, 3) := by decide +kernel
theorem dX5_matches_34 : decode cX5_matches 34 = .ok (.iload_n 3, 1) := by decide +kernel
theorem dX5_matches_35 : decode cX5_matches 35 = .ok (.invokevirtual 170, 3) := by decide +kernel
theorem dX5_matches_38 : decode cX5_matches 38 = .ok (.istore 6, 2) := by decide +kernel
theorem dX5_matches_40 : decode cX5_matches 40 = .ok (.aload_n 0, 1) := by decide +kernel
theorem dX5_matches_41 : decode cX5_matches 41 = .ok (.getfield 32, 3) := by decide +kernel
theorem dX5_matches_44 : decode cX5_matches 44 = .ok (.iload_n 1, 1) := by decide +kernel
theorem dX5_matches_45 : decode cX5_matches 45 = .ok (.lload 4, 2) := by decide +kernel
theorem dX5_matches_47 : decode cX5_matches 47 = .ok (.iload 6, 2) := by decide +kernel
theorem dX5_matches_49 : decode cX5_matches 49 = .ok (.aload_n 0, 1) := by decide +kernel
theorem dX5_matches_50 : decode cX5_matches 50 = .ok (.getfield 32, 3) := by decide +kernel
theorem dX5_matches_53 : decode cX5_matches 53 = .ok (.lload 4, 2) := by decide +kernel
theorem dX5_matches_55 : decode cX5_matches 55 = .ok (.iload 6, 2) := by decide +kernel
theorem dX5_matches_57 : decode cX5_matches 57 = .ok (.iload_n 1, 1) := by decide +kernel
theorem dX5_matches_58 : decode cX5_matches 58 = .ok (.invokevirtual 200, 3) := by decide +kernel
theorem dX5_matches_61 : decode cX5_matches 61 = .ok (.invokevirtual 203, 3) := by decide +kernel
theorem dX5_matches_64 : decode cX5_matches 64 = .ok (.ifCond .eq 6, 3) := by decide +kernel
theorem dX5_matches_67 : decode cX5_matches 67 = .ok (.iinc 2 1, 3) := by decide +kernel
theorem dX5_matches_70 : decode cX5_matches 70 = .ok (.iinc 3 1, 3) := by decide +kernel
theorem dX5_matches_73 : decode cX5_matches 73 = .ok (.goto (-64), 3) := by decide +kernel
theorem dX5_matches_76 : decode cX5_matches 76 = .ok (.iload_n 2, 1) := by decide +kernel
theorem dX5_matches_77 : decode cX5_matches 77 = .ok (.ireturn, 1) := by decide +kernel
theorem dX5_addRiver_0 : decode cX5_addRiver 0 = .ok (.iload_n 1, 1) := by decide +kernel
theorem dX5_addRiver_1 : decode cX5_addRiver 1 = .ok (.iconst 1, 1) := by decide +kernel
theorem dX5_addRiver_2 : decode cX5_addRiver 2 = .ok (.if_icmp .lt 16, 3) := by decide +kernel
theorem dX5_addRiver_5 : decode cX5_addRiver 5 = .ok (.iload_n 1, 1) := by decide +kernel
theorem dX5_addRiver_6 : decode cX5_addRiver 6 = .ok (.bipush 63, 2) := by decide +kernel
theorem dX5_addRiver_8 : decode cX5_addRiver 8 = .ok (.if_icmp .gt 10, 3) := by decide +kernel
theorem dX5_addRiver_11 : decode cX5_addRiver 11 = .ok (.iload_n 2, 1) := by decide +kernel
theorem dX5_addRiver_12 : decode cX5_addRiver 12 = .ok (.invokestatic 176, 3) := by decide +kernel
theorem dX5_addRiver_15 : decode cX5_addRiver 15 = .ok (.ifCond .ne 13, 3) := by decide +kernel
theorem dX5_addRiver_18 : decode cX5_addRiver 18 = .ok (.new 64, 3) := by decide +kernel
theorem dX5_addRiver_21 : decode cX5_addRiver 21 = .ok (.dup, 1) := by decide +kernel
theorem dX5_addRiver_22 : decode cX5_addRiver 22 = .ok (.ldc 207, 2) := by decide +kernel
theorem dX5_addRiver_24 : decode cX5_addRiver 24 = .ok (.invokespecial 68, 3) := by decide +kernel
theorem dX5_addRiver_27 : decode cX5_addRiver 27 = .ok (.athrow, 1) := by decide +kernel
theorem dX5_addRiver_28 : decode cX5_addRiver 28 = .ok (.aload_n 0, 1) := by decide +kernel
theorem dX5_addRiver_29 : decode cX5_addRiver 29 = .ok (.getfield 39, 3) := by decide +kernel
theorem dX5_addRiver_32 : decode cX5_addRiver 32 = .ok (.iload_n 1, 1) := by decide +kernel
theorem dX5_addRiver_33 : decode cX5_addRiver 33 = .ok (.iload_n 2, 1) := by decide +kernel
theorem dX5_addRiver_34 : decode cX5_addRiver 34 = .ok (.invokevirtual 209, 3) := by decide +kernel
theorem dX5_addRiver_37 : decode cX5_addRiver 37 = .ok (.istore_n 3, 1) := by decide +kernel
theorem dX5_addRiver_38 : decode cX5_addRiver 38 = .ok (.iload_n 3, 1) := by decide +kernel
theorem dX5_addRiver_39 : decode cX5_addRiver 39 = .ok (.iconst (-1), 1) := by decide +kernel
theorem dX5_addRiver_40 : decode cX5_addRiver 40 = .ok (.if_icmp .ne 13, 3) := by decide +kernel
theorem dX5_addRiver_43 : decode cX5_addRiver 43 = .ok (.new 72, 3) := by decide +kernel
theorem dX5_addRiver_46 : decode cX5_addRiver 46 = .ok (.dup, 1) := by decide +kernel
theorem dX5_addRiver_47 : decode cX5_addRiver 47 = .ok (.ldc 211, 2) := by decide +kernel
theorem dX5_addRiver_49 : decode cX5_addRiver 49 = .ok (.invokespecial 76, 3) := by decide +kernel
theorem dX5_addRiver_52 : decode cX5_addRiver 52 = .ok (.athrow, 1) := by decide +kernel
theorem dX5_addRiver_53 : decode cX5_addRiver 53 = .ok (.iload_n 3, 1) := by decide +kernel
theorem dX5_addRiver_54 : decode cX5_addRiver 54 = .ok (.ireturn, 1) := by decide +kernel
theorem dX5_riverSize_0 : decode cX5_riverSize 0 = .ok (.aload_n 0, 1) := by decide +kernel
theorem dX5_riverSize_1 : decode cX5_riverSize 1 = .ok (.iload_n 1, 1) := by decide +kernel
theorem dX5_riverSize_2 : decode cX5_riverSize 2 = .ok (.invokevirtual 213, 3) := by decide +kernel
theorem dX5_riverSize_5 : decode cX5_riverSize 5 = .ok (.aload_n 0, 1) := by decide +kernel
theorem dX5_riverSize_6 : decode cX5_riverSize 6 = .ok (.iload_n 1, 1) := by decide +kernel
theorem dX5_riverSize_7 : decode cX5_riverSize 7 = .ok (.aload_n 0, 1) := by decide +kernel
theorem dX5_riverSize_8 : decode cX5_riverSize 8 = .ok (.getfield 25, 3) := by decide +kernel
theorem dX5_riverSize_11 : decode cX5_riverSize 11 = .ok (.invokevirtual 216, 3) := by decide +kernel
theorem dX5_riverSize_14 : decode cX5_riverSize 14 = .ok (.aload_n 0, 1) := by decide +kernel
theorem dX5_riverSize_15 : decode cX5_riverSize 15 = .ok (.getfield 57, 3) := by decide +kernel
theorem dX5_riverSize_18 : decode cX5_riverSize 18 = .ok (.invokevirtual 220, 3) := by decide +kernel
theorem dX5_riverSize_21 : decode cX5_riverSize 21 = .ok (.ireturn, 1) := by decide +kernel
theorem dX5_riverAt_0 : decode cX5_riverAt 0 = .ok (.aload_n 0, 1) := by decide +kernel
theorem dX5_riverAt_1 : decode cX5_riverAt 1 = .ok (.iload_n 1, 1) := by decide +kernel
theorem dX5_riverAt_2 : decode cX5_riverAt 2 = .ok (.invokevirtual 213, 3) := by decide +kernel
theorem dX5_riverAt_5 : decode cX5_riverAt 5 = .ok (.aload_n 0, 1) := by decide +kernel
theorem dX5_riverAt_6 : decode cX5_riverAt 6 = .ok (.iload_n 1, 1) := by decide +kernel
theorem dX5_riverAt_7 : decode cX5_riverAt 7 = .ok (.iload_n 2, 1) := by decide +kernel
theorem dX5_riverAt_8 : decode cX5_riverAt 8 = .ok (.aload_n 0, 1) := by decide +kernel
theorem dX5_riverAt_9 : decode cX5_riverAt 9 = .ok (.getfield 25, 3) := by decide +kernel
theorem dX5_riverAt_12 : decode cX5_riverAt 12 = .ok (.invokevirtual 216, 3) := by decide +kernel
theorem dX5_riverAt_15 : decode cX5_riverAt 15 = .ok (.invokevirtual 224, 3) := by decide +kernel
theorem dX5_riverAt_18 : decode cX5_riverAt 18 = .ok (.ireturn, 1) := by decide +kernel
theorem dX5_riverAtAnew_0 : decode cX5_riverAtAnew 0 = .ok (.aload_n 0, 1) := by decide +kernel
theorem dX5_riverAtAnew_1 : decode cX5_riverAtAnew 1 = .ok (.iload_n 1, 1) := by decide +kernel
theorem dX5_riverAtAnew_2 : decode cX5_riverAtAnew 2 = .ok (.invokevirtual 213, 3) := by decide +kernel
theorem dX5_riverAtAnew_5 : decode cX5_riverAtAnew 5 = .ok (.aload_n 0, 1) := by decide +kernel
theorem dX5_riverAtAnew_6 : decode cX5_riverAtAnew 6 = .ok (.iload_n 1, 1) := by decide +kernel
theorem dX5_riverAtAnew_7 : decode cX5_riverAtAnew 7 = .ok (.iload_n 2, 1) := by decide +kernel
theorem dX5_riverAtAnew_8 : decode cX5_riverAtAnew 8 = .ok (.aload_n 0, 1) := by decide +kernel
theorem dX5_riverAtAnew_9 : decode cX5_riverAtAnew 9 = .ok (.getfield 25, 3) := by decide +kernel
theorem dX5_riverAtAnew_12 : decode cX5_riverAtAnew 12 = .ok (.invokevirtual 228, 3) := by decide +kernel
theorem dX5_riverAtAnew_15 : decode cX5_riverAtAnew 15 = .ok (.invokevirtual 224, 3) := by decide +kernel
theorem dX5_riverAtAnew_18 : decode cX5_riverAtAnew 18 = .ok (.ireturn, 1) := by decide +kernel
theorem dX5_rankOf_0 : decode cX5_rankOf 0 = .ok (.aload_n 0, 1) := by decide +kernel
theorem dX5_rankOf_1 : decode cX5_rankOf 1 = .ok (.iload_n 1, 1) := by decide +kernel
theorem dX5_rankOf_2 : decode cX5_rankOf 2 = .ok (.invokevirtual 213, 3) := by decide +kernel
theorem dX5_rankOf_5 : decode cX5_rankOf 5 = .ok (.aload_n 0, 1) := by decide +kernel
theorem dX5_rankOf_6 : decode cX5_rankOf 6 = .ok (.iload_n 2, 1) := by decide +kernel
theorem dX5_rankOf_7 : decode cX5_rankOf 7 = .ok (.invokevirtual 150, 3) := by decide +kernel
theorem dX5_rankOf_10 : decode cX5_rankOf 10 = .ok (.aload_n 0, 1) := by decide +kernel
theorem dX5_rankOf_11 : decode cX5_rankOf 11 = .ok (.iload_n 1, 1) := by decide +kernel
theorem dX5_rankOf_12 : decode cX5_rankOf 12 = .ok (.aload_n 0, 1) := by decide +kernel
theorem dX5_rankOf_13 : decode cX5_rankOf 13 = .ok (.getfield 25, 3) := by decide +kernel
theorem dX5_rankOf_16 : decode cX5_rankOf 16 = .ok (.invokevirtual 216, 3) := by decide +kernel
theorem dX5_rankOf_19 : decode cX5_rankOf 19 = .ok (.aload_n 0, 1) := by decide +kernel
theorem dX5_rankOf_20 : decode cX5_rankOf 20 = .ok (.getfield 57, 3) := by decide +kernel
theorem dX5_rankOf_23 : decode cX5_rankOf 23 = .ok (.invokevirtual 220, 3) := by decide +kernel
theorem dX5_rankOf_26 : decode cX5_rankOf 26 = .ok (.istore_n 3, 1) := by decide +kernel
theorem dX5_rankOf_27 : decode cX5_rankOf 27 = .ok (.iconst 0, 1) := by decide +kernel
theorem dX5_rankOf_28 : decode cX5_rankOf 28 = .ok (.istore 4, 2) := by decide +kernel
theorem dX5_rankOf_30 : decode cX5_rankOf 30 = .ok (.iload 4, 2) := by decide +kernel
theorem dX5_rankOf_32 : decode cX5_rankOf 32 = .ok (.iload_n 3, 1) := by decide +kernel
theorem dX5_rankOf_33 : decode cX5_rankOf 33 = .ok (.if_icmp .ge 23, 3) := by decide +kernel
theorem dX5_rankOf_36 : decode cX5_rankOf 36 = .ok (.aload_n 0, 1) := by decide +kernel
theorem dX5_rankOf_37 : decode cX5_rankOf 37 = .ok (.getfield 57, 3) := by decide +kernel
theorem dX5_rankOf_40 : decode cX5_rankOf 40 = .ok (.iload 4, 2) := by decide +kernel
theorem dX5_rankOf_42 : decode cX5_rankOf 42 = .ok (.iaload, 1) := by decide +kernel
theorem dX5_rankOf_43 : decode cX5_rankOf 43 = .ok (.iload_n 2, 1) := by decide +kernel
theorem dX5_rankOf_44 : decode cX5_rankOf 44 = .ok (.if_icmp .ne 6, 3) := by decide +kernel
theorem dX5_rankOf_47 : decode cX5_rankOf 47 = .ok (.iload 4, 2) := by decide +kernel
theorem dX5_rankOf_49 : decode cX5_rankOf 49 = .ok (.ireturn, 1) := by decide +kernel
theorem dX5_rankOf_50 : decode cX5_rankOf 50 = .ok (.iinc 4 1, 3) := by decide +kernel
theorem dX5_rankOf_53 : decode cX5_rankOf 53 = .ok (.goto (-23), 3) := by decide +kernel
theorem dX5_rankOf_56 : decode cX5_rankOf 56 = .ok (.new 140, 3) := by decide +kernel
theorem dX5_rankOf_59 : decode cX5_rankOf 59 = .ok (.dup, 1) := by decide +kernel
theorem dX5_rankOf_60 : decode cX5_rankOf 60 = .ok (.ldc 231, 2) := by decide +kernel
theorem dX5_rankOf_62 : decode cX5_rankOf 62 = .ok (.invokespecial 144, 3) := by decide +kernel
theorem dX5_rankOf_65 : decode cX5_rankOf 65 = .ok (.athrow, 1) := by decide +kernel
theorem dX5_unread_0 : decode cX5_unread 0 = .ok (.aload_n 0, 1) := by decide +kernel
theorem dX5_unread_1 : decode cX5_unread 1 = .ok (.iload_n 1, 1) := by decide +kernel
theorem dX5_unread_2 : decode cX5_unread 2 = .ok (.invokevirtual 213, 3) := by decide +kernel
theorem dX5_unread_5 : decode cX5_unread 5 = .ok (.aload_n 0, 1) := by decide +kernel
theorem dX5_unread_6 : decode cX5_unread 6 = .ok (.aload_n 0, 1) := by decide +kernel
theorem dX5_unread_7 : decode cX5_unread 7 = .ok (.iload_n 1, 1) := by decide +kernel
theorem dX5_unread_8 : decode cX5_unread 8 = .ok (.aload_n 0, 1) := by decide +kernel
theorem dX5_unread_9 : decode cX5_unread 9 = .ok (.getfield 25, 3) := by decide +kernel
theorem dX5_unread_12 : decode cX5_unread 12 = .ok (.invokevirtual 216, 3) := by decide +kernel
theorem dX5_unread_15 : decode cX5_unread 15 = .ok (.aload_n 0, 1) := by decide +kernel
theorem dX5_unread_16 : decode cX5_unread 16 = .ok (.getfield 57, 3) := by decide +kernel
theorem dX5_unread_19 : decode cX5_unread 19 = .ok (.invokevirtual 220, 3) := by decide +kernel
theorem dX5_unread_22 : decode cX5_unread 22 = .ok (.invokevirtual 233, 3) := by decide +kernel
theorem dX5_unread_25 : decode cX5_unread 25 = .ok (.ireturn, 1) := by decide +kernel
theorem dX5_nextUnread_0 : decode cX5_nextUnread 0 = .ok (.aload_n 0, 1) := by decide +kernel
theorem dX5_nextUnread_1 : decode cX5_nextUnread 1 = .ok (.iload_n 1, 1) := by decide +kernel
theorem dX5_nextUnread_2 : decode cX5_nextUnread 2 = .ok (.invokevirtual 213, 3) := by decide +kernel
theorem dX5_nextUnread_5 : decode cX5_nextUnread 5 = .ok (.aload_n 0, 1) := by decide +kernel
theorem dX5_nextUnread_6 : decode cX5_nextUnread 6 = .ok (.iload_n 1, 1) := by decide +kernel
theorem dX5_nextUnread_7 : decode cX5_nextUnread 7 = .ok (.aload_n 0, 1) := by decide +kernel
theorem dX5_nextUnread_8 : decode cX5_nextUnread 8 = .ok (.getfield 25, 3) := by decide +kernel
theorem dX5_nextUnread_11 : decode cX5_nextUnread 11 = .ok (.invokevirtual 216, 3) := by decide +kernel
theorem dX5_nextUnread_14 : decode cX5_nextUnread 14 = .ok (.aload_n 0, 1) := by decide +kernel
theorem dX5_nextUnread_15 : decode cX5_nextUnread 15 = .ok (.getfield 57, 3) := by decide +kernel
theorem dX5_nextUnread_18 : decode cX5_nextUnread 18 = .ok (.invokevirtual 220, 3) := by decide +kernel
theorem dX5_nextUnread_21 : decode cX5_nextUnread 21 = .ok (.istore_n 2, 1) := by decide +kernel
theorem dX5_nextUnread_22 : decode cX5_nextUnread 22 = .ok (.iconst 0, 1) := by decide +kernel
theorem dX5_nextUnread_23 : decode cX5_nextUnread 23 = .ok (.istore_n 3, 1) := by decide +kernel
theorem dX5_nextUnread_24 : decode cX5_nextUnread 24 = .ok (.iload_n 3, 1) := by decide +kernel
theorem dX5_nextUnread_25 : decode cX5_nextUnread 25 = .ok (.iload_n 2, 1) := by decide +kernel
theorem dX5_nextUnread_26 : decode cX5_nextUnread 26 = .ok (.if_icmp .ge 29, 3) := by decide +kernel
theorem dX5_nextUnread_29 : decode cX5_nextUnread 29 = .ok (.aload_n 0, 1) := by decide +kernel
theorem dX5_nextUnread_30 : decode cX5_nextUnread 30 = .ok (.aload_n 0, 1) := by decide +kernel
theorem dX5_nextUnread_31 : decode cX5_nextUnread 31 = .ok (.getfield 57, 3) := by decide +kernel
theorem dX5_nextUnread_34 : decode cX5_nextUnread 34 = .ok (.iload_n 3, 1) := by decide +kernel
theorem dX5_nextUnread_35 : decode cX5_nextUnread 35 = .ok (.iaload, 1) := by decide +kernel
theorem dX5_nextUnread_36 : decode cX5_nextUnread 36 = .ok (.invokevirtual 236, 3) := by decide +kernel
theorem dX5_nextUnread_39 : decode cX5_nextUnread 39 = .ok (.ifCond .ne 10, 3) := by decide +kernel
theorem dX5_nextUnread_42 : decode cX5_nextUnread 42 = .ok (.aload_n 0, 1) := by decide +kernel
theorem dX5_nextUnread_43 : decode cX5_nextUnread 43 = .ok (.getfield 57, 3) := by decide +kernel
theorem dX5_nextUnread_46 : decode cX5_nextUnread 46 = .ok (.iload_n 3, 1) := by decide +kernel
theorem dX5_nextUnread_47 : decode cX5_nextUnread 47 = .ok (.iaload, 1) := by decide +kernel
theorem dX5_nextUnread_48 : decode cX5_nextUnread 48 = .ok (.ireturn, 1) := by decide +kernel
theorem dX5_nextUnread_49 : decode cX5_nextUnread 49 = .ok (.iinc 3 1, 3) := by decide +kernel
theorem dX5_nextUnread_52 : decode cX5_nextUnread 52 = .ok (.goto (-28), 3) := by decide +kernel
theorem dX5_nextUnread_55 : decode cX5_nextUnread 55 = .ok (.new 140, 3) := by decide +kernel
theorem dX5_nextUnread_58 : decode cX5_nextUnread 58 = .ok (.dup, 1) := by decide +kernel
theorem dX5_nextUnread_59 : decode cX5_nextUnread 59 = .ok (.ldc 239, 2) := by decide +kernel
theorem dX5_nextUnread_61 : decode cX5_nextUnread 61 = .ok (.invokespecial 144, 3) := by decide +kernel
theorem dX5_nextUnread_64 : decode cX5_nextUnread 64 = .ok (.athrow, 1) := by decide +kernel
theorem dX5_readShare_0 : decode cX5_readShare 0 = .ok (.aload_n 0, 1) := by decide +kernel
theorem dX5_readShare_1 : decode cX5_readShare 1 = .ok (.iload_n 1, 1) := by decide +kernel
theorem dX5_readShare_2 : decode cX5_readShare 2 = .ok (.invokevirtual 213, 3) := by decide +kernel
theorem dX5_readShare_5 : decode cX5_readShare 5 = .ok (.aload_n 0, 1) := by decide +kernel
theorem dX5_readShare_6 : decode cX5_readShare 6 = .ok (.iload_n 1, 1) := by decide +kernel
theorem dX5_readShare_7 : decode cX5_readShare 7 = .ok (.aload_n 0, 1) := by decide +kernel
theorem dX5_readShare_8 : decode cX5_readShare 8 = .ok (.getfield 25, 3) := by decide +kernel
theorem dX5_readShare_11 : decode cX5_readShare 11 = .ok (.invokevirtual 216, 3) := by decide +kernel
theorem dX5_readShare_14 : decode cX5_readShare 14 = .ok (.aload_n 0, 1) := by decide +kernel
theorem dX5_readShare_15 : decode cX5_readShare 15 = .ok (.getfield 57, 3) := by decide +kernel
theorem dX5_readShare_18 : decode cX5_readShare 18 = .ok (.invokevirtual 220, 3) := by decide +kernel
theorem dX5_readShare_21 : decode cX5_readShare 21 = .ok (.istore_n 2, 1) := by decide +kernel
theorem dX5_readShare_22 : decode cX5_readShare 22 = .ok (.iload_n 2, 1) := by decide +kernel
theorem dX5_readShare_23 : decode cX5_readShare 23 = .ok (.ifCond .ne 13, 3) := by decide +kernel
theorem dX5_readShare_26 : decode cX5_readShare 26 = .ok (.new 241, 3) := by decide +kernel
theorem dX5_readShare_29 : decode cX5_readShare 29 = .ok (.dup, 1) := by decide +kernel
theorem dX5_readShare_30 : decode cX5_readShare 30 = .ok (.ldc 243, 2) := by decide +kernel
theorem dX5_readShare_32 : decode cX5_readShare 32 = .ok (.invokespecial 245, 3) := by decide +kernel
theorem dX5_readShare_35 : decode cX5_readShare 35 = .ok (.athrow, 1) := by decide +kernel
theorem dX5_readShare_36 : decode cX5_readShare 36 = .ok (.iload_n 2, 1) := by decide +kernel
theorem dX5_readShare_37 : decode cX5_readShare 37 = .ok (.aload_n 0, 1) := by decide +kernel
theorem dX5_readShare_38 : decode cX5_readShare 38 = .ok (.iload_n 2, 1) := by decide +kernel
theorem dX5_readShare_39 : decode cX5_readShare 39 = .ok (.invokevirtual 233, 3) := by decide +kernel
theorem dX5_readShare_42 : decode cX5_readShare 42 = .ok (.isub, 1) := by decide +kernel
theorem dX5_readShare_43 : decode cX5_readShare 43 = .ok (.i2f, 1) := by decide +kernel
theorem dX5_readShare_44 : decode cX5_readShare 44 = .ok (.iload_n 2, 1) := by decide +kernel
theorem dX5_readShare_45 : decode cX5_readShare 45 = .ok (.i2f, 1) := by decide +kernel
theorem dX5_readShare_46 : decode cX5_readShare 46 = .ok (.fdiv, 1) := by decide +kernel
theorem dX5_readShare_47 : decode cX5_readShare 47 = .ok (.freturn, 1) := by decide +kernel
theorem dX5_addDevice_0 : decode cX5_addDevice 0 = .ok (.aload_n 0, 1) := by decide +kernel
theorem dX5_addDevice_1 : decode cX5_addDevice 1 = .ok (.getfield 46, 3) := by decide +kernel
theorem dX5_addDevice_4 : decode cX5_addDevice 4 = .ok (.invokevirtual 246, 3) := by decide +kernel
theorem dX5_addDevice_7 : decode cX5_addDevice 7 = .ok (.istore_n 1, 1) := by decide +kernel
theorem dX5_addDevice_8 : decode cX5_addDevice 8 = .ok (.iload_n 1, 1) := by decide +kernel
theorem dX5_addDevice_9 : decode cX5_addDevice 9 = .ok (.iconst (-1), 1) := by decide +kernel
theorem dX5_addDevice_10 : decode cX5_addDevice 10 = .ok (.if_icmp .ne 13, 3) := by decide +kernel
theorem dX5_addDevice_13 : decode cX5_addDevice 13 = .ok (.new 72, 3) := by decide +kernel
theorem dX5_addDevice_16 : decode cX5_addDevice 16 = .ok (.dup, 1) := by decide +kernel
theorem dX5_addDevice_17 : decode cX5_addDevice 17 = .ok (.ldc 248, 2) := by decide +kernel
theorem dX5_addDevice_19 : decode cX5_addDevice 19 = .ok (.invokespecial 76, 3) := by decide +kernel
theorem dX5_addDevice_22 : decode cX5_addDevice 22 = .ok (.athrow, 1) := by decide +kernel
theorem dX5_addDevice_23 : decode cX5_addDevice 23 = .ok (.iconst 0, 1) := by decide +kernel
theorem dX5_addDevice_24 : decode cX5_addDevice 24 = .ok (.istore_n 2, 1) := by decide +kernel
theorem dX5_addDevice_25 : decode cX5_addDevice 25 = .ok (.iload_n 2, 1) := by decide +kernel
theorem dX5_addDevice_26 : decode cX5_addDevice 26 = .ok (.aload_n 0, 1) := by decide +kernel
theorem dX5_addDevice_27 : decode cX5_addDevice 27 = .ok (.getfield 25, 3) := by decide +kernel
theorem dX5_addDevice_30 : decode cX5_addDevice 30 = .ok (.invokevirtual 132, 3) := by decide +kernel
theorem dX5_addDevice_33 : decode cX5_addDevice 33 = .ok (.if_icmp .ge 15, 3) := by decide +kernel
theorem dX5_addDevice_36 : decode cX5_addDevice 36 = .ok (.aload_n 0, 1) := by decide +kernel
theorem dX5_addDevice_37 : decode cX5_addDevice 37 = .ok (.iload_n 1, 1) := by decide +kernel
theorem dX5_addDevice_38 : decode cX5_addDevice 38 = .ok (.iload_n 2, 1) := by decide +kernel
theorem dX5_addDevice_39 : decode cX5_addDevice 39 = .ok (.invokevirtual 250, 3) := by decide +kernel
theorem dX5_addDevice_42 : decode cX5_addDevice 42 = .ok (.iinc 2 1, 3) := by decide +kernel
theorem dX5_addDevice_45 : decode cX5_addDevice 45 = .ok (.goto (-20), 3) := by decide +kernel
theorem dX5_addDevice_48 : decode cX5_addDevice 48 = .ok (.iload_n 1, 1) := by decide +kernel
theorem dX5_addDevice_49 : decode cX5_addDevice 49 = .ok (.ireturn, 1) := by decide +kernel
theorem dX5_mark_0 : decode cX5_mark 0 = .ok (.aload_n 0, 1) := by decide +kernel
theorem dX5_mark_1 : decode cX5_mark 1 = .ok (.iload_n 1, 1) := by decide +kernel
theorem dX5_mark_2 : decode cX5_mark 2 = .ok (.invokevirtual 253, 3) := by decide +kernel
theorem dX5_mark_5 : decode cX5_mark 5 = .ok (.aload_n 0, 1) := by decide +kernel
theorem dX5_mark_6 : decode cX5_mark 6 = .ok (.iload_n 2, 1) := by decide +kernel
theorem dX5_mark_7 : decode cX5_mark 7 = .ok (.invokevirtual 150, 3) := by decide +kernel
theorem dX5_mark_10 : decode cX5_mark 10 = .ok (.aload_n 0, 1) := by decide +kernel
theorem dX5_mark_11 : decode cX5_mark 11 = .ok (.iload_n 1, 1) := by decide +kernel
theorem dX5_mark_12 : decode cX5_mark 12 = .ok (.iload_n 2, 1) := by decide +kernel
theorem dX5_mark_13 : decode cX5_mark 13 = .ok (.invokevirtual 256, 3) := by decide +kernel
theorem dX5_mark_16 : decode cX5_mark 16 = .ok (.aload_n 0, 1) := by decide +kernel
theorem dX5_mark_17 : decode cX5_mark 17 = .ok (.iload_n 1, 1) := by decide +kernel
theorem dX5_mark_18 : decode cX5_mark 18 = .ok (.iload_n 2, 1) := by decide +kernel
theorem dX5_mark_19 : decode cX5_mark 19 = .ok (.iload_n 3, 1) := by decide +kernel
theorem dX5_mark_20 : decode cX5_mark 20 = .ok (.invokevirtual 259, 3) := by decide +kernel
theorem dX5_mark_23 : decode cX5_mark 23 = .ok (.ireturn, 1) := by decide +kernel
theorem dX5_markRiver_0 : decode cX5_markRiver 0 = .ok (.aload_n 0, 1) := by decide +kernel
theorem dX5_markRiver_1 : decode cX5_markRiver 1 = .ok (.iload_n 1, 1) := by decide +kernel
theorem dX5_markRiver_2 : decode cX5_markRiver 2 = .ok (.invokevirtual 253, 3) := by decide +kernel
theorem dX5_markRiver_5 : decode cX5_markRiver 5 = .ok (.aload_n 0, 1) := by decide +kernel
theorem dX5_markRiver_6 : decode cX5_markRiver 6 = .ok (.iload_n 2, 1) := by decide +kernel
theorem dX5_markRiver_7 : decode cX5_markRiver 7 = .ok (.invokevirtual 213, 3) := by decide +kernel
theorem dX5_markRiver_10 : decode cX5_markRiver 10 = .ok (.aload_n 0, 1) := by decide +kernel
theorem dX5_markRiver_11 : decode cX5_markRiver 11 = .ok (.iload_n 2, 1) := by decide +kernel
theorem dX5_markRiver_12 : decode cX5_markRiver 12 = .ok (.aload_n 0, 1) := by decide +kernel
theorem dX5_markRiver_13 : decode cX5_markRiver 13 = .ok (.getfield 25, 3) := by decide +kernel
theorem dX5_markRiver_16 : decode cX5_markRiver 16 = .ok (.invokevirtual 216, 3) := by decide +kernel
theorem dX5_markRiver_19 : decode cX5_markRiver 19 = .ok (.aload_n 0, 1) := by decide +kernel
theorem dX5_markRiver_20 : decode cX5_markRiver 20 = .ok (.getfield 57, 3) := by decide +kernel
theorem dX5_markRiver_23 : decode cX5_markRiver 23 = .ok (.invokevirtual 220, 3) := by decide +kernel
theorem dX5_markRiver_26 : decode cX5_markRiver 26 = .ok (.istore_n 3, 1) := by decide +kernel
theorem dX5_markRiver_27 : decode cX5_markRiver 27 = .ok (.iconst 0, 1) := by decide +kernel
theorem dX5_markRiver_28 : decode cX5_markRiver 28 = .ok (.istore 4, 2) := by decide +kernel
theorem dX5_markRiver_30 : decode cX5_markRiver 30 = .ok (.iconst 0, 1) := by decide +kernel
theorem dX5_markRiver_31 : decode cX5_markRiver 31 = .ok (.istore 5, 2) := by decide +kernel
theorem dX5_markRiver_33 : decode cX5_markRiver 33 = .ok (.iload 5, 2) := by decide +kernel
theorem dX5_markRiver_35 : decode cX5_markRiver 35 = .ok (.iload_n 3, 1) := by decide +kernel
theorem dX5_markRiver_36 : decode cX5_markRiver 36 = .ok (.if_icmp .ge 45, 3) := by decide +kernel
theorem dX5_markRiver_39 : decode cX5_markRiver 39 = .ok (.aload_n 0, 1) := by decide +kernel
theorem dX5_markRiver_40 : decode cX5_markRiver 40 = .ok (.getfield 57, 3) := by decide +kernel
theorem dX5_markRiver_43 : decode cX5_markRiver 43 = .ok (.iload 5, 2) := by decide +kernel
theorem dX5_markRiver_45 : decode cX5_markRiver 45 = .ok (.iaload, 1) := by decide +kernel
theorem dX5_markRiver_46 : decode cX5_markRiver 46 = .ok (.istore 6, 2) := by decide +kernel
theorem dX5_markRiver_48 : decode cX5_markRiver 48 = .ok (.aload_n 0, 1) := by decide +kernel
theorem dX5_markRiver_49 : decode cX5_markRiver 49 = .ok (.getfield 46, 3) := by decide +kernel
theorem dX5_markRiver_52 : decode cX5_markRiver 52 = .ok (.iload_n 1, 1) := by decide +kernel
theorem dX5_markRiver_53 : decode cX5_markRiver 53 = .ok (.iload 6, 2) := by decide +kernel
theorem dX5_markRiver_55 : decode cX5_markRiver 55 = .ok (.invokevirtual 263, 3) := by decide +kernel
theorem dX5_markRiver_58 : decode cX5_markRiver 58 = .ok (.ifCond .eq 17, 3) := by decide +kernel
theorem dX5_markRiver_61 : decode cX5_markRiver 61 = .ok (.aload_n 0, 1) := by decide +kernel
theorem dX5_markRiver_62 : decode cX5_markRiver 62 = .ok (.iload_n 1, 1) := by decide +kernel
theorem dX5_markRiver_63 : decode cX5_markRiver 63 = .ok (.iload 6, 2) := by decide +kernel
theorem dX5_markRiver_65 : decode cX5_markRiver 65 = .ok (.iconst 1, 1) := by decide +kernel
theorem dX5_markRiver_66 : decode cX5_markRiver 66 = .ok (.invokevirtual 259, 3) := by decide +kernel
theorem dX5_markRiver_69 : decode cX5_markRiver 69 = .ok (.ifCond .ne 6, 3) := by decide +kernel
theorem dX5_markRiver_72 : decode cX5_markRiver 72 = .ok (.iinc 4 1, 3) := by decide +kernel
theorem dX5_markRiver_75 : decode cX5_markRiver 75 = .ok (.iinc 5 1, 3) := by decide +kernel
theorem dX5_markRiver_78 : decode cX5_markRiver 78 = .ok (.goto (-45), 3) := by decide +kernel
theorem dX5_markRiver_81 : decode cX5_markRiver 81 = .ok (.iload 4, 2) := by decide +kernel
theorem dX5_markRiver_83 : decode cX5_markRiver 83 = .ok (.ireturn, 1) := by decide +kernel
theorem dX5_sync_0 : decode cX5_sync 0 = .ok (.aload_n 0, 1) := by decide +kernel
theorem dX5_sync_1 : decode cX5_sync 1 = .ok (.iload_n 1, 1) := by decide +kernel
theorem dX5_sync_2 : decode cX5_sync 2 = .ok (.invokevirtual 253, 3) := by decide +kernel
theorem dX5_sync_5 : decode cX5_sync 5 = .ok (.iconst 0, 1) := by decide +kernel
theorem dX5_sync_6 : decode cX5_sync 6 = .ok (.istore_n 2, 1) := by decide +kernel
theorem dX5_sync_7 : decode cX5_sync 7 = .ok (.iconst 0, 1) := by decide +kernel
theorem dX5_sync_8 : decode cX5_sync 8 = .ok (.istore_n 3, 1) := by decide +kernel
theorem dX5_sync_9 : decode cX5_sync 9 = .ok (.iload_n 3, 1) := by decide +kernel
theorem dX5_sync_10 : decode cX5_sync 10 = .ok (.aload_n 0, 1) := by decide +kernel
theorem dX5_sync_11 : decode cX5_sync 11 = .ok (.getfield 25, 3) := by decide +kernel
theorem dX5_sync_14 : decode cX5_sync 14 = .ok (.invokevirtual 132, 3) := by decide +kernel
theorem dX5_sync_17 : decode cX5_sync 17 = .ok (.if_icmp .ge 70, 3) := by decide +kernel
theorem dX5_sync_20 : decode cX5_sync 20 = .ok (.aload_n 0, 1) := by decide +kernel
theorem dX5_sync_21 : decode cX5_sync 21 = .ok (.iload_n 3, 1) := by decide +kernel
theorem dX5_sync_22 : decode cX5_sync 22 = .ok (.invokevirtual 236, 3) := by decide +kernel
theorem dX5_sync_25 : decode cX5_sync 25 = .ok (.istore 4, 2) := by decide +kernel
theorem dX5_sync_27 : decode cX5_sync 27 = .ok (.aload_n 0, 1) := by decide +kernel
theorem dX5_sync_28 : decode cX5_sync 28 = .ok (.getfield 46, 3) := by decide +kernel
theorem dX5_sync_31 : decode cX5_sync 31 = .ok (.iload_n 1, 1) := by decide +kernel
theorem dX5_sync_32 : decode cX5_sync 32 = .ok (.iload_n 3, 1) := by decide +kernel
theorem dX5_sync_33 : decode cX5_sync 33 = .ok (.invokevirtual 263, 3) := by decide +kernel
theorem dX5_sync_36 : decode cX5_sync 36 = .ok (.ifCond .eq 26, 3) := by decide +kernel
theorem dX5_sync_39 : decode cX5_sync 39 = .ok (.aload_n 0, 1) := by decide +kernel
theorem dX5_sync_40 : decode cX5_sync 40 = .ok (.getfield 53, 3) := by decide +kernel
theorem dX5_sync_43 : decode cX5_sync 43 = .ok (.iload_n 1, 1) := by decide +kernel
theorem dX5_sync_44 : decode cX5_sync 44 = .ok (.iconst 4, 1) := by decide +kernel
theorem dX5_sync_45 : decode cX5_sync 45 = .ok (.iload_n 3, 1) := by decide +kernel
theorem dX5_sync_46 : decode cX5_sync 46 = .ok (.invokevirtual 266, 3) := by decide +kernel
theorem dX5_sync_49 : decode cX5_sync 49 = .ok (.ifCond .eq 13, 3) := by decide +kernel
theorem dX5_sync_52 : decode cX5_sync 52 = .ok (.aload_n 0, 1) := by decide +kernel
theorem dX5_sync_53 : decode cX5_sync 53 = .ok (.getfield 53, 3) := by decide +kernel
theorem dX5_sync_56 : decode cX5_sync 56 = .ok (.iload_n 1, 1) := by decide +kernel
theorem dX5_sync_57 : decode cX5_sync 57 = .ok (.iconst 4, 1) := by decide +kernel
theorem dX5_sync_58 : decode cX5_sync 58 = .ok (.iload_n 3, 1) := by decide +kernel
theorem dX5_sync_59 : decode cX5_sync 59 = .ok (.invokevirtual 270, 3) := by decide +kernel
theorem dX5_sync_62 : decode cX5_sync 62 = .ok (.aload_n 0, 1) := by decide +kernel
theorem dX5_sync_63 : decode cX5_sync 63 = .ok (.iload_n 1, 1) := by decide +kernel
theorem dX5_sync_64 : decode cX5_sync 64 = .ok (.iload_n 3, 1) := by decide +kernel
theorem dX5_sync_65 : decode cX5_sync 65 = .ok (.invokevirtual 250, 3) := by decide +kernel
theorem dX5_sync_68 : decode cX5_sync 68 = .ok (.aload_n 0, 1) := by decide +kernel
theorem dX5_sync_69 : decode cX5_sync 69 = .ok (.iload_n 3, 1) := by decide +kernel
theorem dX5_sync_70 : decode cX5_sync 70 = .ok (.invokevirtual 236, 3) := by decide +kernel
theorem dX5_sync_73 : decode cX5_sync 73 = .ok (.iload 4, 2) := by decide +kernel
theorem dX5_sync_75 : decode cX5_sync 75 = .ok (.if_icmp .eq 6, 3) := by decide +kernel
theorem dX5_sync_78 : decode cX5_sync 78 = .ok (.iinc 2 1, 3) := by decide +kernel
theorem dX5_sync_81 : decode cX5_sync 81 = .ok (.iinc 3 1, 3) := by decide +kernel
theorem dX5_sync_84 : decode cX5_sync 84 = .ok (.goto (-75), 3) := by decide +kernel
theorem dX5_sync_87 : decode cX5_sync 87 = .ok (.iload_n 2, 1) := by decide +kernel
theorem dX5_sync_88 : decode cX5_sync 88 = .ok (.ireturn, 1) := by decide +kernel
theorem dX5_isRead_0 : decode cX5_isRead 0 = .ok (.aload_n 0, 1) := by decide +kernel
theorem dX5_isRead_1 : decode cX5_isRead 1 = .ok (.iload_n 1, 1) := by decide +kernel
theorem dX5_isRead_2 : decode cX5_isRead 2 = .ok (.invokevirtual 150, 3) := by decide +kernel
theorem dX5_isRead_5 : decode cX5_isRead 5 = .ok (.aload_n 0, 1) := by decide +kernel
theorem dX5_isRead_6 : decode cX5_isRead 6 = .ok (.iload_n 1, 1) := by decide +kernel
theorem dX5_isRead_7 : decode cX5_isRead 7 = .ok (.invokevirtual 236, 3) := by decide +kernel
theorem dX5_isRead_10 : decode cX5_isRead 10 = .ok (.ireturn, 1) := by decide +kernel
theorem dX5_isReadOn_0 : decode cX5_isReadOn 0 = .ok (.aload_n 0, 1) := by decide +kernel
theorem dX5_isReadOn_1 : decode cX5_isReadOn 1 = .ok (.iload_n 1, 1) := by decide +kernel
theorem dX5_isReadOn_2 : decode cX5_isReadOn 2 = .ok (.invokevirtual 253, 3) := by decide +kernel
theorem dX5_isReadOn_5 : decode cX5_isReadOn 5 = .ok (.aload_n 0, 1) := by decide +kernel
theorem dX5_isReadOn_6 : decode cX5_isReadOn 6 = .ok (.iload_n 2, 1) := by decide +kernel
theorem dX5_isReadOn_7 : decode cX5_isReadOn 7 = .ok (.invokevirtual 150, 3) := by decide +kernel
theorem dX5_isReadOn_10 : decode cX5_isReadOn 10 = .ok (.aload_n 0, 1) := by decide +kernel
theorem dX5_isReadOn_11 : decode cX5_isReadOn 11 = .ok (.iload_n 1, 1) := by decide +kernel
theorem dX5_isReadOn_12 : decode cX5_isReadOn 12 = .ok (.iload_n 2, 1) := by decide +kernel
theorem dX5_isReadOn_13 : decode cX5_isReadOn 13 = .ok (.invokevirtual 256, 3) := by decide +kernel
theorem dX5_isReadOn_16 : decode cX5_isReadOn 16 = .ok (.aload_n 0, 1) := by decide +kernel
theorem dX5_isReadOn_17 : decode cX5_isReadOn 17 = .ok (.iload_n 1, 1) := by decide +kernel
theorem dX5_isReadOn_18 : decode cX5_isReadOn 18 = .ok (.iload_n 2, 1) := by decide +kernel
theorem dX5_isReadOn_19 : decode cX5_isReadOn 19 = .ok (.invokevirtual 273, 3) := by decide +kernel
theorem dX5_isReadOn_22 : decode cX5_isReadOn 22 = .ok (.ireturn, 1) := by decide +kernel
theorem dX5_knownVersions_0 : decode cX5_knownVersions 0 = .ok (.aload_n 0, 1) := by decide +kernel
theorem dX5_knownVersions_1 : decode cX5_knownVersions 1 = .ok (.iload_n 1, 1) := by decide +kernel
theorem dX5_knownVersions_2 : decode cX5_knownVersions 2 = .ok (.invokevirtual 253, 3) := by decide +kernel
theorem dX5_knownVersions_5 : decode cX5_knownVersions 5 = .ok (.aload_n 0, 1) := by decide +kernel
theorem dX5_knownVersions_6 : decode cX5_knownVersions 6 = .ok (.iload_n 2, 1) := by decide +kernel
theorem dX5_knownVersions_7 : decode cX5_knownVersions 7 = .ok (.invokevirtual 150, 3) := by decide +kernel
theorem dX5_knownVersions_10 : decode cX5_knownVersions 10 = .ok (.aload_n 0, 1) := by decide +kernel
theorem dX5_knownVersions_11 : decode cX5_knownVersions 11 = .ok (.getfield 46, 3) := by decide +kernel
theorem dX5_knownVersions_14 : decode cX5_knownVersions 14 = .ok (.iload_n 1, 1) := by decide +kernel
theorem dX5_knownVersions_15 : decode cX5_knownVersions 15 = .ok (.iload_n 2, 1) := by decide +kernel
theorem dX5_knownVersions_16 : decode cX5_knownVersions 16 = .ok (.invokevirtual 276, 3) := by decide +kernel
theorem dX5_knownVersions_19 : decode cX5_knownVersions 19 = .ok (.ireturn, 1) := by decide +kernel
theorem dX5_meanVersions_0 : decode cX5_meanVersions 0 = .ok (.aload_n 0, 1) := by decide +kernel
theorem dX5_meanVersions_1 : decode cX5_meanVersions 1 = .ok (.getfield 25, 3) := by decide +kernel
theorem dX5_meanVersions_4 : decode cX5_meanVersions 4 = .ok (.invokevirtual 132, 3) := by decide +kernel
theorem dX5_meanVersions_7 : decode cX5_meanVersions 7 = .ok (.istore_n 1, 1) := by decide +kernel
theorem dX5_meanVersions_8 : decode cX5_meanVersions 8 = .ok (.iload_n 1, 1) := by decide +kernel
theorem dX5_meanVersions_9 : decode cX5_meanVersions 9 = .ok (.ifCond .ne 14, 3) := by decide +kernel
theorem dX5_meanVersions_12 : decode cX5_meanVersions 12 = .ok (.new 241, 3) := by decide +kernel
theorem dX5_meanVersions_15 : decode cX5_meanVersions 15 = .ok (.dup, 1) := by decide +kernel
theorem dX5_meanVersions_16 : decode cX5_meanVersions 16 = .ok (.ldc_w 278, 3) := by decide +kernel
theorem dX5_meanVersions_19 : decode cX5_meanVersions 19 = .ok (.invokespecial 245, 3) := by decide +kernel
theorem dX5_meanVersions_22 : decode cX5_meanVersions 22 = .ok (.athrow, 1) := by decide +kernel
theorem dX5_meanVersions_23 : decode cX5_meanVersions 23 = .ok (.iconst 0, 1) := by decide +kernel
theorem dX5_meanVersions_24 : decode cX5_meanVersions 24 = .ok (.istore_n 2, 1) := by decide +kernel
theorem dX5_meanVersions_25 : decode cX5_meanVersions 25 = .ok (.iconst 0, 1) := by decide +kernel
theorem dX5_meanVersions_26 : decode cX5_meanVersions 26 = .ok (.istore_n 3, 1) := by decide +kernel
theorem dX5_meanVersions_27 : decode cX5_meanVersions 27 = .ok (.iload_n 3, 1) := by decide +kernel
theorem dX5_meanVersions_28 : decode cX5_meanVersions 28 = .ok (.iload_n 1, 1) := by decide +kernel
theorem dX5_meanVersions_29 : decode cX5_meanVersions 29 = .ok (.if_icmp .ge 20, 3) := by decide +kernel
theorem dX5_meanVersions_32 : decode cX5_meanVersions 32 = .ok (.iload_n 2, 1) := by decide +kernel
theorem dX5_meanVersions_33 : decode cX5_meanVersions 33 = .ok (.aload_n 0, 1) := by decide +kernel
theorem dX5_meanVersions_34 : decode cX5_meanVersions 34 = .ok (.getfield 25, 3) := by decide +kernel
theorem dX5_meanVersions_37 : decode cX5_meanVersions 37 = .ok (.iload_n 3, 1) := by decide +kernel
theorem dX5_meanVersions_38 : decode cX5_meanVersions 38 = .ok (.invokevirtual 164, 3) := by decide +kernel
theorem dX5_meanVersions_41 : decode cX5_meanVersions 41 = .ok (.iadd, 1) := by decide +kernel
theorem dX5_meanVersions_42 : decode cX5_meanVersions 42 = .ok (.istore_n 2, 1) := by decide +kernel
theorem dX5_meanVersions_43 : decode cX5_meanVersions 43 = .ok (.iinc 3 1, 3) := by decide +kernel
theorem dX5_meanVersions_46 : decode cX5_meanVersions 46 = .ok (.goto (-19), 3) := by decide +kernel
theorem dX5_meanVersions_49 : decode cX5_meanVersions 49 = .ok (.iload_n 2, 1) := by decide +kernel
theorem dX5_meanVersions_50 : decode cX5_meanVersions 50 = .ok (.i2d, 1) := by decide +kernel
theorem dX5_meanVersions_51 : decode cX5_meanVersions 51 = .ok (.iload_n 1, 1) := by decide +kernel
theorem dX5_meanVersions_52 : decode cX5_meanVersions 52 = .ok (.i2d, 1) := by decide +kernel
theorem dX5_meanVersions_53 : decode cX5_meanVersions 53 = .ok (.ddiv, 1) := by decide +kernel
theorem dX5_meanVersions_54 : decode cX5_meanVersions 54 = .ok (.dreturn, 1) := by decide +kernel
theorem dX5_isSound_0 : decode cX5_isSound 0 = .ok (.aload_n 0, 1) := by decide +kernel
theorem dX5_isSound_1 : decode cX5_isSound 1 = .ok (.getfield 25, 3) := by decide +kernel
theorem dX5_isSound_4 : decode cX5_isSound 4 = .ok (.invokevirtual 228, 3) := by decide +kernel
theorem dX5_isSound_7 : decode cX5_isSound 7 = .ok (.astore_n 1, 1) := by decide +kernel
theorem dX5_isSound_8 : decode cX5_isSound 8 = .ok (.iconst 0, 1) := by decide +kernel
theorem dX5_isSound_9 : decode cX5_isSound 9 = .ok (.istore_n 2, 1) := by decide +kernel
theorem dX5_isSound_10 : decode cX5_isSound 10 = .ok (.iload_n 2, 1) := by decide +kernel
theorem dX5_isSound_11 : decode cX5_isSound 11 = .ok (.aload_n 0, 1) := by decide +kernel
theorem dX5_isSound_12 : decode cX5_isSound 12 = .ok (.getfield 39, 3) := by decide +kernel
theorem dX5_isSound_15 : decode cX5_isSound 15 = .ok (.invokevirtual 280, 3) := by decide +kernel
theorem dX5_isSound_18 : decode cX5_isSound 18 = .ok (.if_icmp .ge 20, 3) := by decide +kernel
theorem dX5_isSound_21 : decode cX5_isSound 21 = .ok (.aload_n 0, 1) := by decide +kernel
theorem dX5_isSound_22 : decode cX5_isSound 22 = .ok (.iload_n 2, 1) := by decide +kernel
theorem dX5_isSound_23 : decode cX5_isSound 23 = .ok (.aload_n 1, 1) := by decide +kernel
theorem dX5_isSound_24 : decode cX5_isSound 24 = .ok (.invokevirtual 281, 3) := by decide +kernel
theorem dX5_isSound_27 : decode cX5_isSound 27 = .ok (.ifCond .ne 5, 3) := by decide +kernel
theorem dX5_isSound_30 : decode cX5_isSound 30 = .ok (.iconst 0, 1) := by decide +kernel
theorem dX5_isSound_31 : decode cX5_isSound 31 = .ok (.ireturn, 1) := by decide +kernel
theorem dX5_isSound_32 : decode cX5_isSound 32 = .ok (.iinc 2 1, 3) := by decide +kernel
theorem dX5_isSound_35 : decode cX5_isSound 35 = .ok (.goto (-25), 3) := by decide +kernel
theorem dX5_isSound_38 : decode cX5_isSound 38 = .ok (.iconst 1, 1) := by decide +kernel
theorem dX5_isSound_39 : decode cX5_isSound 39 = .ok (.ireturn, 1) := by decide +kernel
theorem dX5_requireItem_0 : decode cX5_requireItem 0 = .ok (.iload_n 1, 1) := by decide +kernel
theorem dX5_requireItem_1 : decode cX5_requireItem 1 = .ok (.ifCond .lt 14, 3) := by decide +kernel
theorem dX5_requireItem_4 : decode cX5_requireItem 4 = .ok (.iload_n 1, 1) := by decide +kernel
theorem dX5_requireItem_5 : decode cX5_requireItem 5 = .ok (.aload_n 0, 1) := by decide +kernel
theorem dX5_requireItem_6 : decode cX5_requireItem 6 = .ok (.getfield 25, 3) := by decide +kernel
theorem dX5_requireItem_9 : decode cX5_requireItem 9 = .ok (.invokevirtual 132, 3) := by decide +kernel
theorem dX5_requireItem_12 : decode cX5_requireItem 12 = .ok (.if_icmp .lt 14, 3) := by decide +kernel
theorem dX5_requireItem_15 : decode cX5_requireItem 15 = .ok (.new 89, 3) := by decide +kernel
theorem dX5_requireItem_18 : decode cX5_requireItem 18 = .ok (.dup, 1) := by decide +kernel
theorem dX5_requireItem_19 : decode cX5_requireItem 19 = .ok (.ldc_w 285, 3) := by decide +kernel
theorem dX5_requireItem_22 : decode cX5_requireItem 22 = .ok (.invokespecial 93, 3) := by decide +kernel
theorem dX5_requireItem_25 : decode cX5_requireItem 25 = .ok (.athrow, 1) := by decide +kernel
theorem dX5_requireItem_26 : decode cX5_requireItem 26 = .ok (.return_, 1) := by decide +kernel
theorem dX5_requireRule_0 : decode cX5_requireRule 0 = .ok (.iload_n 1, 1) := by decide +kernel
theorem dX5_requireRule_1 : decode cX5_requireRule 1 = .ok (.ifCond .lt 14, 3) := by decide +kernel
theorem dX5_requireRule_4 : decode cX5_requireRule 4 = .ok (.iload_n 1, 1) := by decide +kernel
theorem dX5_requireRule_5 : decode cX5_requireRule 5 = .ok (.aload_n 0, 1) := by decide +kernel
theorem dX5_requireRule_6 : decode cX5_requireRule 6 = .ok (.getfield 32, 3) := by decide +kernel
theorem dX5_requireRule_9 : decode cX5_requireRule 9 = .ok (.invokevirtual 192, 3) := by decide +kernel
theorem dX5_requireRule_12 : decode cX5_requireRule 12 = .ok (.if_icmp .lt 14, 3) := by decide +kernel
theorem dX5_requireRule_15 : decode cX5_requireRule 15 = .ok (.new 89, 3) := by decide +kernel
theorem dX5_requireRule_18 : decode cX5_requireRule 18 = .ok (.dup, 1) := by decide +kernel
theorem dX5_requireRule_19 : decode cX5_requireRule 19 = .ok (.ldc_w 287, 3) := by decide +kernel
theorem dX5_requireRule_22 : decode cX5_requireRule 22 = .ok (.invokespecial 93, 3) := by decide +kernel
theorem dX5_requireRule_25 : decode cX5_requireRule 25 = .ok (.athrow, 1) := by decide +kernel
theorem dX5_requireRule_26 : decode cX5_requireRule 26 = .ok (.return_, 1) := by decide +kernel
theorem dX5_requireRiver_0 : decode cX5_requireRiver 0 = .ok (.iload_n 1, 1) := by decide +kernel
theorem dX5_requireRiver_1 : decode cX5_requireRiver 1 = .ok (.ifCond .lt 14, 3) := by decide +kernel
theorem dX5_requireRiver_4 : decode cX5_requireRiver 4 = .ok (.iload_n 1, 1) := by decide +kernel
theorem dX5_requireRiver_5 : decode cX5_requireRiver 5 = .ok (.aload_n 0, 1) := by decide +kernel
theorem dX5_requireRiver_6 : decode cX5_requireRiver 6 = .ok (.getfield 39, 3) := by decide +kernel
theorem dX5_requireRiver_9 : decode cX5_requireRiver 9 = .ok (.invokevirtual 280, 3) := by decide +kernel
theorem dX5_requireRiver_12 : decode cX5_requireRiver 12 = .ok (.if_icmp .lt 14, 3) := by decide +kernel
theorem dX5_requireRiver_15 : decode cX5_requireRiver 15 = .ok (.new 89, 3) := by decide +kernel
theorem dX5_requireRiver_18 : decode cX5_requireRiver 18 = .ok (.dup, 1) := by decide +kernel
theorem dX5_requireRiver_19 : decode cX5_requireRiver 19 = .ok (.ldc_w 289, 3) := by decide +kernel
theorem dX5_requireRiver_22 : decode cX5_requireRiver 22 = .ok (.invokespecial 93, 3) := by decide +kernel
theorem dX5_requireRiver_25 : decode cX5_requireRiver 25 = .ok (.athrow, 1) := by decide +kernel
theorem dX5_requireRiver_26 : decode cX5_requireRiver 26 = .ok (.return_, 1) := by decide +kernel
theorem dX5_requireDevice_0 : decode cX5_requireDevice 0 = .ok (.iload_n 1, 1) := by decide +kernel
theorem dX5_requireDevice_1 : decode cX5_requireDevice 1 = .ok (.ifCond .lt 14, 3) := by decide +kernel
theorem dX5_requireDevice_4 : decode cX5_requireDevice 4 = .ok (.iload_n 1, 1) := by decide +kernel
theorem dX5_requireDevice_5 : decode cX5_requireDevice 5 = .ok (.aload_n 0, 1) := by decide +kernel
theorem dX5_requireDevice_6 : decode cX5_requireDevice 6 = .ok (.getfield 46, 3) := by decide +kernel
theorem dX5_requireDevice_9 : decode cX5_requireDevice 9 = .ok (.invokevirtual 291, 3) := by decide +kernel
theorem dX5_requireDevice_12 : decode cX5_requireDevice 12 = .ok (.if_icmp .lt 14, 3) := by decide +kernel
theorem dX5_requireDevice_15 : decode cX5_requireDevice 15 = .ok (.new 89, 3) := by decide +kernel
theorem dX5_requireDevice_18 : decode cX5_requireDevice 18 = .ok (.dup, 1) := by decide +kernel
theorem dX5_requireDevice_19 : decode cX5_requireDevice 19 = .ok (.ldc_w 292, 3) := by decide +kernel
theorem dX5_requireDevice_22 : decode cX5_requireDevice 22 = .ok (.invokespecial 93, 3) := by decide +kernel
theorem dX5_requireDevice_25 : decode cX5_requireDevice 25 = .ok (.athrow, 1) := by decide +kernel
theorem dX5_requireDevice_26 : decode cX5_requireDevice 26 = .ok (.return_, 1) := by decide +kernel
theorem dX5_requireKnown_0 : decode cX5_requireKnown 0 = .ok (.aload_n 0, 1) := by decide +kernel
theorem dX5_requireKnown_1 : decode cX5_requireKnown 1 = .ok (.getfield 46, 3) := by decide +kernel
theorem dX5_requireKnown_4 : decode cX5_requireKnown 4 = .ok (.iload_n 1, 1) := by decide +kernel
theorem dX5_requireKnown_5 : decode cX5_requireKnown 5 = .ok (.iload_n 2, 1) := by decide +kernel
theorem dX5_requireKnown_6 : decode cX5_requireKnown 6 = .ok (.invokevirtual 263, 3) := by decide +kernel
theorem dX5_requireKnown_9 : decode cX5_requireKnown 9 = .ok (.ifCond .ne 14, 3) := by decide +kernel
theorem dX5_requireKnown_12 : decode cX5_requireKnown 12 = .ok (.new 72, 3) := by decide +kernel
theorem dX5_requireKnown_15 : decode cX5_requireKnown 15 = .ok (.dup, 1) := by decide +kernel
theorem dX5_requireKnown_16 : decode cX5_requireKnown 16 = .ok (.ldc_w 294, 3) := by decide +kernel
theorem dX5_requireKnown_19 : decode cX5_requireKnown 19 = .ok (.invokespecial 76, 3) := by decide +kernel
theorem dX5_requireKnown_22 : decode cX5_requireKnown 22 = .ok (.athrow, 1) := by decide +kernel
theorem dX5_requireKnown_23 : decode cX5_requireKnown 23 = .ok (.return_, 1) := by decide +kernel
theorem dX5_isKeyOrNone_0 : decode cX5_isKeyOrNone 0 = .ok (.iload_n 0, 1) := by decide +kernel
theorem dX5_isKeyOrNone_1 : decode cX5_isKeyOrNone 1 = .ok (.iconst (-1), 1) := by decide +kernel
theorem dX5_isKeyOrNone_2 : decode cX5_isKeyOrNone 2 = .ok (.if_icmp .lt 14, 3) := by decide +kernel
theorem dX5_isKeyOrNone_5 : decode cX5_isKeyOrNone 5 = .ok (.iload_n 0, 1) := by decide +kernel
theorem dX5_isKeyOrNone_6 : decode cX5_isKeyOrNone 6 = .ok (.sipush 1000, 3) := by decide +kernel
theorem dX5_isKeyOrNone_9 : decode cX5_isKeyOrNone 9 = .ok (.if_icmp .ge 7, 3) := by decide +kernel
theorem dX5_isKeyOrNone_12 : decode cX5_isKeyOrNone 12 = .ok (.iconst 1, 1) := by decide +kernel
theorem dX5_isKeyOrNone_13 : decode cX5_isKeyOrNone 13 = .ok (.goto 4, 3) := by decide +kernel
theorem dX5_isKeyOrNone_16 : decode cX5_isKeyOrNone 16 = .ok (.iconst 0, 1) := by decide +kernel
theorem dX5_isKeyOrNone_17 : decode cX5_isKeyOrNone 17 = .ok (.ireturn, 1) := by decide +kernel
theorem dX5_isMinuteOrNone_0 : decode cX5_isMinuteOrNone 0 = .ok (.iload_n 0, 1) := by decide +kernel
theorem dX5_isMinuteOrNone_1 : decode cX5_isMinuteOrNone 1 = .ok (.iconst (-1), 1) := by decide +kernel
theorem dX5_isMinuteOrNone_2 : decode cX5_isMinuteOrNone 2 = .ok (.if_icmp .lt 13, 3) := by decide +kernel
theorem dX5_isMinuteOrNone_5 : decode cX5_isMinuteOrNone 5 = .ok (.iload_n 0, 1) := by decide +kernel
theorem dX5_isMinuteOrNone_6 : decode cX5_isMinuteOrNone 6 = .ok (.ldc 71, 2) := by decide +kernel
theorem dX5_isMinuteOrNone_8 : decode cX5_isMinuteOrNone 8 = .ok (.if_icmp .gt 7, 3) := by decide +kernel
theorem dX5_isMinuteOrNone_11 : decode cX5_isMinuteOrNone 11 = .ok (.iconst 1, 1) := by decide +kernel
theorem dX5_isMinuteOrNone_12 : decode cX5_isMinuteOrNone 12 = .ok (.goto 4, 3) := by decide +kernel
theorem dX5_isMinuteOrNone_15 : decode cX5_isMinuteOrNone 15 = .ok (.iconst 0, 1) := by decide +kernel
theorem dX5_isMinuteOrNone_16 : decode cX5_isMinuteOrNone 16 = .ok (.ireturn, 1) := by decide +kernel
theorem dX5_isTagOrNone_0 : decode cX5_isTagOrNone 0 = .ok (.iload_n 0, 1) := by decide +kernel
theorem dX5_isTagOrNone_1 : decode cX5_isTagOrNone 1 = .ok (.iconst (-1), 1) := by decide +kernel
theorem dX5_isTagOrNone_2 : decode cX5_isTagOrNone 2 = .ok (.if_icmp .lt 13, 3) := by decide +kernel
theorem dX5_isTagOrNone_5 : decode cX5_isTagOrNone 5 = .ok (.iload_n 0, 1) := by decide +kernel
theorem dX5_isTagOrNone_6 : decode cX5_isTagOrNone 6 = .ok (.bipush 7, 2) := by decide +kernel
theorem dX5_isTagOrNone_8 : decode cX5_isTagOrNone 8 = .ok (.if_icmp .gt 7, 3) := by decide +kernel
theorem dX5_isTagOrNone_11 : decode cX5_isTagOrNone 11 = .ok (.iconst 1, 1) := by decide +kernel
theorem dX5_isTagOrNone_12 : decode cX5_isTagOrNone 12 = .ok (.goto 4, 3) := by decide +kernel
theorem dX5_isTagOrNone_15 : decode cX5_isTagOrNone 15 = .ok (.iconst 0, 1) := by decide +kernel
theorem dX5_isTagOrNone_16 : decode cX5_isTagOrNone 16 = .ok (.ireturn, 1) := by decide +kernel
theorem dX5_percentInCommon_0 : decode cX5_percentInCommon 0 = .ok (.lload_n 0, 1) := by decide +kernel
theorem dX5_percentInCommon_1 : decode cX5_percentInCommon 1 = .ok (.lload_n 2, 1) := by decide +kernel
theorem dX5_percentInCommon_2 : decode cX5_percentInCommon 2 = .ok (.lor, 1) := by decide +kernel
theorem dX5_percentInCommon_3 : decode cX5_percentInCommon 3 = .ok (.invokestatic 296, 3) := by decide +kernel
theorem dX5_percentInCommon_6 : decode cX5_percentInCommon 6 = .ok (.istore 4, 2) := by decide +kernel
theorem dX5_percentInCommon_8 : decode cX5_percentInCommon 8 = .ok (.iload 4, 2) := by decide +kernel
theorem dX5_percentInCommon_10 : decode cX5_percentInCommon 10 = .ok (.ifCond .ne 5, 3) := by decide +kernel
theorem dX5_percentInCommon_13 : decode cX5_percentInCommon 13 = .ok (.iconst 0, 1) := by decide +kernel
theorem dX5_percentInCommon_14 : decode cX5_percentInCommon 14 = .ok (.ireturn, 1) := by decide +kernel
theorem dX5_percentInCommon_15 : decode cX5_percentInCommon 15 = .ok (.bipush 100, 2) := by decide +kernel
theorem dX5_percentInCommon_17 : decode cX5_percentInCommon 17 = .ok (.lload_n 0, 1) := by decide +kernel
theorem dX5_percentInCommon_18 : decode cX5_percentInCommon 18 = .ok (.lload_n 2, 1) := by decide +kernel
theorem dX5_percentInCommon_19 : decode cX5_percentInCommon 19 = .ok (.land, 1) := by decide +kernel
theorem dX5_percentInCommon_20 : decode cX5_percentInCommon 20 = .ok (.invokestatic 296, 3) := by decide +kernel
theorem dX5_percentInCommon_23 : decode cX5_percentInCommon 23 = .ok (.imul, 1) := by decide +kernel
theorem dX5_percentInCommon_24 : decode cX5_percentInCommon 24 = .ok (.iload 4, 2) := by decide +kernel
theorem dX5_percentInCommon_26 : decode cX5_percentInCommon 26 = .ok (.idiv, 1) := by decide +kernel
theorem dX5_percentInCommon_27 : decode cX5_percentInCommon 27 = .ok (.ireturn, 1) := by decide +kernel
theorem dX5_findFetched_0 : decode cX5_findFetched 0 = .ok (.aload_n 0, 1) := by decide +kernel
theorem dX5_findFetched_1 : decode cX5_findFetched 1 = .ok (.getfield 25, 3) := by decide +kernel
theorem dX5_findFetched_4 : decode cX5_findFetched 4 = .ok (.iload_n 1, 1) := by decide +kernel
theorem dX5_findFetched_5 : decode cX5_findFetched 5 = .ok (.iload_n 2, 1) := by decide +kernel
theorem dX5_findFetched_6 : decode cX5_findFetched 6 = .ok (.invokevirtual 136, 3) := by decide +kernel
theorem dX5_findFetched_9 : decode cX5_findFetched 9 = .ok (.istore 6, 2) := by decide +kernel
theorem dX5_findFetched_11 : decode cX5_findFetched 11 = .ok (.iload 6, 2) := by decide +kernel
theorem dX5_findFetched_13 : decode cX5_findFetched 13 = .ok (.iconst (-1), 1) := by decide +kernel
theorem dX5_findFetched_14 : decode cX5_findFetched 14 = .ok (.if_icmp .ne 13, 3) := by decide +kernel
theorem dX5_findFetched_17 : decode cX5_findFetched 17 = .ok (.aload_n 0, 1) := by decide +kernel
theorem dX5_findFetched_18 : decode cX5_findFetched 18 = .ok (.getfield 25, 3) := by decide +kernel
theorem dX5_findFetched_21 : decode cX5_findFetched 21 = .ok (.iload_n 3, 1) := by decide +kernel
theorem dX5_findFetched_22 : decode cX5_findFetched 22 = .ok (.invokevirtual 145, 3) := by decide +kernel
theorem dX5_findFetched_25 : decode cX5_findFetched 25 = .ok (.istore 6, 2) := by decide +kernel
theorem dX5_findFetched_27 : decode cX5_findFetched 27 = .ok (.iload 6, 2) := by decide +kernel
theorem dX5_findFetched_29 : decode cX5_findFetched 29 = .ok (.iconst (-1), 1) := by decide +kernel
theorem dX5_findFetched_30 : decode cX5_findFetched 30 = .ok (.if_icmp .ne 27, 3) := by decide +kernel
theorem dX5_findFetched_33 : decode cX5_findFetched 33 = .ok (.aload_n 0, 1) := by decide +kernel
theorem dX5_findFetched_34 : decode cX5_findFetched 34 = .ok (.getfield 25, 3) := by decide +kernel
theorem dX5_findFetched_37 : decode cX5_findFetched 37 = .ok (.lload 4, 2) := by decide +kernel
theorem dX5_findFetched_39 : decode cX5_findFetched 39 = .ok (.aload_n 0, 1) := by decide +kernel
theorem dX5_findFetched_40 : decode cX5_findFetched 40 = .ok (.getfield 9, 3) := by decide +kernel
theorem dX5_findFetched_43 : decode cX5_findFetched 43 = .ok (.aload_n 0, 1) := by decide +kernel
theorem dX5_findFetched_44 : decode cX5_findFetched 44 = .ok (.getfield 16, 3) := by decide +kernel
theorem dX5_findFetched_47 : decode cX5_findFetched 47 = .ok (.isub, 1) := by decide +kernel
theorem dX5_findFetched_48 : decode cX5_findFetched 48 = .ok (.aload_n 0, 1) := by decide +kernel
theorem dX5_findFetched_49 : decode cX5_findFetched 49 = .ok (.getfield 13, 3) := by decide +kernel
theorem dX5_findFetched_52 : decode cX5_findFetched 52 = .ok (.invokevirtual 302, 3) := by decide +kernel
theorem dX5_findFetched_55 : decode cX5_findFetched 55 = .ok (.istore 6, 2) := by decide +kernel
theorem dX5_findFetched_57 : decode cX5_findFetched 57 = .ok (.iload 6, 2) := by decide +kernel
theorem dX5_findFetched_59 : decode cX5_findFetched 59 = .ok (.ireturn, 1) := by decide +kernel
theorem dX5_timeFrom_0 : decode cX5_timeFrom 0 = .ok (.iload_n 1, 1) := by decide +kernel
theorem dX5_timeFrom_1 : decode cX5_timeFrom 1 = .ok (.iconst (-1), 1) := by decide +kernel
theorem dX5_timeFrom_2 : decode cX5_timeFrom 2 = .ok (.if_icmp .eq 23, 3) := by decide +kernel
theorem dX5_timeFrom_5 : decode cX5_timeFrom 5 = .ok (.iload_n 1, 1) := by decide +kernel
theorem dX5_timeFrom_6 : decode cX5_timeFrom 6 = .ok (.aload_n 0, 1) := by decide +kernel
theorem dX5_timeFrom_7 : decode cX5_timeFrom 7 = .ok (.getfield 9, 3) := by decide +kernel
theorem dX5_timeFrom_10 : decode cX5_timeFrom 10 = .ok (.if_icmp .gt 15, 3) := by decide +kernel
theorem dX5_timeFrom_13 : decode cX5_timeFrom 13 = .ok (.aload_n 0, 1) := by decide +kernel
theorem dX5_timeFrom_14 : decode cX5_timeFrom 14 = .ok (.getfield 9, 3) := by decide +kernel
theorem dX5_timeFrom_17 : decode cX5_timeFrom 17 = .ok (.iload_n 1, 1) := by decide +kernel
theorem dX5_timeFrom_18 : decode cX5_timeFrom 18 = .ok (.isub, 1) := by decide +kernel
theorem dX5_timeFrom_19 : decode cX5_timeFrom 19 = .ok (.sipush 1440, 3) := by decide +kernel
theorem dX5_timeFrom_22 : decode cX5_timeFrom 22 = .ok (.if_icmp .le 8, 3) := by decide +kernel
theorem dX5_timeFrom_25 : decode cX5_timeFrom 25 = .ok (.aload_n 0, 1) := by decide +kernel
theorem dX5_timeFrom_26 : decode cX5_timeFrom 26 = .ok (.getfield 9, 3) := by decide +kernel
theorem dX5_timeFrom_29 : decode cX5_timeFrom 29 = .ok (.ireturn, 1) := by decide +kernel
theorem dX5_timeFrom_30 : decode cX5_timeFrom 30 = .ok (.iload_n 1, 1) := by decide +kernel
theorem dX5_timeFrom_31 : decode cX5_timeFrom 31 = .ok (.ireturn, 1) := by decide +kernel
theorem dX5_hasTagOrNeedsNone_0 : decode cX5_hasTagOrNeedsNone 0 = .ok (.iload_n 1, 1) := by decide +kernel
theorem dX5_hasTagOrNeedsNone_1 : decode cX5_hasTagOrNeedsNone 1 = .ok (.iconst (-1), 1) := by decide +kernel
theorem dX5_hasTagOrNeedsNone_2 : decode cX5_hasTagOrNeedsNone 2 = .ok (.if_icmp .eq 11, 3) := by decide +kernel
theorem dX5_hasTagOrNeedsNone_5 : decode cX5_hasTagOrNeedsNone 5 = .ok (.iload_n 0, 1) := by decide +kernel
theorem dX5_hasTagOrNeedsNone_6 : decode cX5_hasTagOrNeedsNone 6 = .ok (.iconst 1, 1) := by decide +kernel
theorem dX5_hasTagOrNeedsNone_7 : decode cX5_hasTagOrNeedsNone 7 = .ok (.iload_n 1, 1) := by decide +kernel
theorem dX5_hasTagOrNeedsNone_8 : decode cX5_hasTagOrNeedsNone 8 = .ok (.ishl, 1) := by decide +kernel
theorem dX5_hasTagOrNeedsNone_9 : decode cX5_hasTagOrNeedsNone 9 = .ok (.iand, 1) := by decide +kernel
theorem dX5_hasTagOrNeedsNone_10 : decode cX5_hasTagOrNeedsNone 10 = .ok (.ifCond .eq 7, 3) := by decide +kernel
theorem dX5_hasTagOrNeedsNone_13 : decode cX5_hasTagOrNeedsNone 13 = .ok (.iconst 1, 1) := by decide +kernel
theorem dX5_hasTagOrNeedsNone_14 : decode cX5_hasTagOrNeedsNone 14 = .ok (.goto 4, 3) := by decide +kernel
theorem dX5_hasTagOrNeedsNone_17 : decode cX5_hasTagOrNeedsNone 17 = .ok (.iconst 0, 1) := by decide +kernel
theorem dX5_hasTagOrNeedsNone_18 : decode cX5_hasTagOrNeedsNone 18 = .ok (.ireturn, 1) := by decide +kernel
theorem dX5_outcomeOf_0 : decode cX5_outcomeOf 0 = .ok (.aload_n 0, 1) := by decide +kernel
theorem dX5_outcomeOf_1 : decode cX5_outcomeOf 1 = .ok (.getfield 32, 3) := by decide +kernel
theorem dX5_outcomeOf_4 : decode cX5_outcomeOf 4 = .ok (.aload_n 0, 1) := by decide +kernel
theorem dX5_outcomeOf_5 : decode cX5_outcomeOf 5 = .ok (.getfield 25, 3) := by decide +kernel
theorem dX5_outcomeOf_8 : decode cX5_outcomeOf 8 = .ok (.iload_n 1, 1) := by decide +kernel
theorem dX5_outcomeOf_9 : decode cX5_outcomeOf 9 = .ok (.invokevirtual 196, 3) := by decide +kernel
theorem dX5_outcomeOf_12 : decode cX5_outcomeOf 12 = .ok (.aload_n 0, 1) := by decide +kernel
theorem dX5_outcomeOf_13 : decode cX5_outcomeOf 13 = .ok (.getfield 25, 3) := by decide +kernel
theorem dX5_outcomeOf_16 : decode cX5_outcomeOf 16 = .ok (.iload_n 1, 1) := by decide +kernel
theorem dX5_outcomeOf_17 : decode cX5_outcomeOf 17 = .ok (.invokevirtual 170, 3) := by decide +kernel
theorem dX5_outcomeOf_20 : decode cX5_outcomeOf 20 = .ok (.aload_n 0, 1) := by decide +kernel
theorem dX5_outcomeOf_21 : decode cX5_outcomeOf 21 = .ok (.getfield 32, 3) := by decide +kernel
theorem dX5_outcomeOf_24 : decode cX5_outcomeOf 24 = .ok (.invokevirtual 192, 3) := by decide +kernel
theorem dX5_outcomeOf_27 : decode cX5_outcomeOf 27 = .ok (.invokevirtual 200, 3) := by decide +kernel
theorem dX5_outcomeOf_30 : decode cX5_outcomeOf 30 = .ok (.ireturn, 1) := by decide +kernel
theorem dX5_gather_0 : decode cX5_gather 0 = .ok (.iconst 0, 1) := by decide +kernel
theorem dX5_gather_1 : decode cX5_gather 1 = .ok (.istore 4, 2) := by decide +kernel
theorem dX5_gather_3 : decode cX5_gather 3 = .ok (.iconst 0, 1) := by decide +kernel
theorem dX5_gather_4 : decode cX5_gather 4 = .ok (.istore 5, 2) := by decide +kernel
theorem dX5_gather_6 : decode cX5_gather 6 = .ok (.iload 5, 2) := by decide +kernel
theorem dX5_gather_8 : decode cX5_gather 8 = .ok (.aload_n 0, 1) := by decide +kernel
theorem dX5_gather_9 : decode cX5_gather 9 = .ok (.getfield 25, 3) := by decide +kernel
theorem dX5_gather_12 : decode cX5_gather 12 = .ok (.invokevirtual 132, 3) := by decide +kernel
theorem dX5_gather_15 : decode cX5_gather 15 = .ok (.if_icmp .ge 50, 3) := by decide +kernel
theorem dX5_gather_18 : decode cX5_gather 18 = .ok (.aload_n 2, 1) := by decide +kernel
theorem dX5_gather_19 : decode cX5_gather 19 = .ok (.iload 5, 2) := by decide +kernel
theorem dX5_gather_21 : decode cX5_gather 21 = .ok (.iaload, 1) := by decide +kernel
theorem dX5_gather_22 : decode cX5_gather 22 = .ok (.istore 6, 2) := by decide +kernel
theorem dX5_gather_24 : decode cX5_gather 24 = .ok (.aload_n 0, 1) := by decide +kernel
theorem dX5_gather_25 : decode cX5_gather 25 = .ok (.getfield 39, 3) := by decide +kernel
theorem dX5_gather_28 : decode cX5_gather 28 = .ok (.iload_n 1, 1) := by decide +kernel
theorem dX5_gather_29 : decode cX5_gather 29 = .ok (.aload_n 0, 1) := by decide +kernel
theorem dX5_gather_30 : decode cX5_gather 30 = .ok (.getfield 25, 3) := by decide +kernel
theorem dX5_gather_33 : decode cX5_gather 33 = .ok (.iload 6, 2) := by decide +kernel
theorem dX5_gather_35 : decode cX5_gather 35 = .ok (.invokevirtual 170, 3) := by decide +kernel
theorem dX5_gather_38 : decode cX5_gather 38 = .ok (.aload_n 0, 1) := by decide +kernel
theorem dX5_gather_39 : decode cX5_gather 39 = .ok (.iload 6, 2) := by decide +kernel
theorem dX5_gather_41 : decode cX5_gather 41 = .ok (.invokevirtual 193, 3) := by decide +kernel
theorem dX5_gather_44 : decode cX5_gather 44 = .ok (.invokevirtual 305, 3) := by decide +kernel
theorem dX5_gather_47 : decode cX5_gather 47 = .ok (.ifCond .eq 12, 3) := by decide +kernel
theorem dX5_gather_50 : decode cX5_gather 50 = .ok (.aload_n 3, 1) := by decide +kernel
theorem dX5_gather_51 : decode cX5_gather 51 = .ok (.iload 4, 2) := by decide +kernel
theorem dX5_gather_53 : decode cX5_gather 53 = .ok (.iload 6, 2) := by decide +kernel
theorem dX5_gather_55 : decode cX5_gather 55 = .ok (.iastore, 1) := by decide +kernel
theorem dX5_gather_56 : decode cX5_gather 56 = .ok (.iinc 4 1, 3) := by decide +kernel
theorem dX5_gather_59 : decode cX5_gather 59 = .ok (.iinc 5 1, 3) := by decide +kernel
theorem dX5_gather_62 : decode cX5_gather 62 = .ok (.goto (-56), 3) := by decide +kernel
theorem dX5_gather_65 : decode cX5_gather 65 = .ok (.iload 4, 2) := by decide +kernel
theorem dX5_gather_67 : decode cX5_gather 67 = .ok (.ireturn, 1) := by decide +kernel
theorem dX5_shownAt_0 : decode cX5_shownAt 0 = .ok (.aload_n 0, 1) := by decide +kernel
theorem dX5_shownAt_1 : decode cX5_shownAt 1 = .ok (.iload_n 1, 1) := by decide +kernel
theorem dX5_shownAt_2 : decode cX5_shownAt 2 = .ok (.aload_n 3, 1) := by decide +kernel
theorem dX5_shownAt_3 : decode cX5_shownAt 3 = .ok (.aload_n 0, 1) := by decide +kernel
theorem dX5_shownAt_4 : decode cX5_shownAt 4 = .ok (.getfield 57, 3) := by decide +kernel
theorem dX5_shownAt_7 : decode cX5_shownAt 7 = .ok (.invokevirtual 220, 3) := by decide +kernel
theorem dX5_shownAt_10 : decode cX5_shownAt 10 = .ok (.istore 4, 2) := by decide +kernel
theorem dX5_shownAt_12 : decode cX5_shownAt 12 = .ok (.iload_n 2, 1) := by decide +kernel
theorem dX5_shownAt_13 : decode cX5_shownAt 13 = .ok (.ifCond .lt 9, 3) := by decide +kernel
theorem dX5_shownAt_16 : decode cX5_shownAt 16 = .ok (.iload_n 2, 1) := by decide +kernel
theorem dX5_shownAt_17 : decode cX5_shownAt 17 = .ok (.iload 4, 2) := by decide +kernel
theorem dX5_shownAt_19 : decode cX5_shownAt 19 = .ok (.if_icmp .lt 14, 3) := by decide +kernel
theorem dX5_shownAt_22 : decode cX5_shownAt 22 = .ok (.new 140, 3) := by decide +kernel
theorem dX5_shownAt_25 : decode cX5_shownAt 25 = .ok (.dup, 1) := by decide +kernel
theorem dX5_shownAt_26 : decode cX5_shownAt 26 = .ok (.ldc_w 308, 3) := by decide +kernel
theorem dX5_shownAt_29 : decode cX5_shownAt 29 = .ok (.invokespecial 144, 3) := by decide +kernel
theorem dX5_shownAt_32 : decode cX5_shownAt 32 = .ok (.athrow, 1) := by decide +kernel
theorem dX5_shownAt_33 : decode cX5_shownAt 33 = .ok (.aload_n 0, 1) := by decide +kernel
theorem dX5_shownAt_34 : decode cX5_shownAt 34 = .ok (.getfield 57, 3) := by decide +kernel
theorem dX5_shownAt_37 : decode cX5_shownAt 37 = .ok (.iload_n 2, 1) := by decide +kernel
theorem dX5_shownAt_38 : decode cX5_shownAt 38 = .ok (.iaload, 1) := by decide +kernel
theorem dX5_shownAt_39 : decode cX5_shownAt 39 = .ok (.ireturn, 1) := by decide +kernel
theorem dX5_countUnread_0 : decode cX5_countUnread 0 = .ok (.iconst 0, 1) := by decide +kernel
theorem dX5_countUnread_1 : decode cX5_countUnread 1 = .ok (.istore_n 2, 1) := by decide +kernel
theorem dX5_countUnread_2 : decode cX5_countUnread 2 = .ok (.iconst 0, 1) := by decide +kernel
theorem dX5_countUnread_3 : decode cX5_countUnread 3 = .ok (.istore_n 3, 1) := by decide +kernel
theorem dX5_countUnread_4 : decode cX5_countUnread 4 = .ok (.iload_n 3, 1) := by decide +kernel
theorem dX5_countUnread_5 : decode cX5_countUnread 5 = .ok (.iload_n 1, 1) := by decide +kernel
theorem dX5_countUnread_6 : decode cX5_countUnread 6 = .ok (.if_icmp .ge 25, 3) := by decide +kernel
theorem dX5_countUnread_9 : decode cX5_countUnread 9 = .ok (.aload_n 0, 1) := by decide +kernel
theorem dX5_countUnread_10 : decode cX5_countUnread 10 = .ok (.aload_n 0, 1) := by decide +kernel
theorem dX5_countUnread_11 : decode cX5_countUnread 11 = .ok (.getfield 57, 3) := by decide +kernel
theorem dX5_countUnread_14 : decode cX5_countUnread 14 = .ok (.iload_n 3, 1) := by decide +kernel
theorem dX5_countUnread_15 : decode cX5_countUnread 15 = .ok (.iaload, 1) := by decide +kernel
theorem dX5_countUnread_16 : decode cX5_countUnread 16 = .ok (.invokevirtual 236, 3) := by decide +kernel
theorem dX5_countUnread_19 : decode cX5_countUnread 19 = .ok (.ifCond .ne 6, 3) := by decide +kernel
theorem dX5_countUnread_22 : decode cX5_countUnread 22 = .ok (.iinc 2 1, 3) := by decide +kernel
theorem dX5_countUnread_25 : decode cX5_countUnread 25 = .ok (.iinc 3 1, 3) := by decide +kernel
theorem dX5_countUnread_28 : decode cX5_countUnread 28 = .ok (.goto (-24), 3) := by decide +kernel
theorem dX5_countUnread_31 : decode cX5_countUnread 31 = .ok (.iload_n 2, 1) := by decide +kernel
theorem dX5_countUnread_32 : decode cX5_countUnread 32 = .ok (.ireturn, 1) := by decide +kernel
theorem dX5_isSoundRiver_0 : decode cX5_isSoundRiver 0 = .ok (.aload_n 0, 1) := by decide +kernel
theorem dX5_isSoundRiver_1 : decode cX5_isSoundRiver 1 = .ok (.iload_n 1, 1) := by decide +kernel
theorem dX5_isSoundRiver_2 : decode cX5_isSoundRiver 2 = .ok (.aload_n 0, 1) := by decide +kernel
theorem dX5_isSoundRiver_3 : decode cX5_isSoundRiver 3 = .ok (.getfield 25, 3) := by decide +kernel
theorem dX5_isSoundRiver_6 : decode cX5_isSoundRiver 6 = .ok (.invokevirtual 216, 3) := by decide +kernel
theorem dX5_isSoundRiver_9 : decode cX5_isSoundRiver 9 = .ok (.aload_n 0, 1) := by decide +kernel
theorem dX5_isSoundRiver_10 : decode cX5_isSoundRiver 10 = .ok (.getfield 57, 3) := by decide +kernel
theorem dX5_isSoundRiver_13 : decode cX5_isSoundRiver 13 = .ok (.invokevirtual 220, 3) := by decide +kernel
theorem dX5_isSoundRiver_16 : decode cX5_isSoundRiver 16 = .ok (.istore_n 3, 1) := by decide +kernel
theorem dX5_isSoundRiver_17 : decode cX5_isSoundRiver 17 = .ok (.iload_n 3, 1) := by decide +kernel
theorem dX5_isSoundRiver_18 : decode cX5_isSoundRiver 18 = .ok (.aload_n 0, 1) := by decide +kernel
theorem dX5_isSoundRiver_19 : decode cX5_isSoundRiver 19 = .ok (.iload_n 1, 1) := by decide +kernel
theorem dX5_isSoundRiver_20 : decode cX5_isSoundRiver 20 = .ok (.aload_n 2, 1) := by decide +kernel
theorem dX5_isSoundRiver_21 : decode cX5_isSoundRiver 21 = .ok (.aload_n 0, 1) := by decide +kernel
theorem dX5_isSoundRiver_22 : decode cX5_isSoundRiver 22 = .ok (.getfield 61, 3) := by decide +kernel
theorem dX5_isSoundRiver_25 : decode cX5_isSoundRiver 25 = .ok (.invokevirtual 220, 3) := by decide +kernel
theorem dX5_isSoundRiver_28 : decode cX5_isSoundRiver 28 = .ok (.if_icmp .eq 5, 3) := by decide +kernel
theorem dX5_isSoundRiver_31 : decode cX5_isSoundRiver 31 = .ok (.iconst 0, 1) := by decide +kernel
theorem dX5_isSoundRiver_32 : decode cX5_isSoundRiver 32 = .ok (.ireturn, 1) := by decide +kernel
theorem dX5_isSoundRiver_33 : decode cX5_isSoundRiver 33 = .ok (.iconst 0, 1) := by decide +kernel
theorem dX5_isSoundRiver_34 : decode cX5_isSoundRiver 34 = .ok (.istore 4, 2) := by decide +kernel
theorem dX5_isSoundRiver_36 : decode cX5_isSoundRiver 36 = .ok (.iconst 0, 1) := by decide +kernel
theorem dX5_isSoundRiver_37 : decode cX5_isSoundRiver 37 = .ok (.istore 5, 2) := by decide +kernel
theorem dX5_isSoundRiver_39 : decode cX5_isSoundRiver 39 = .ok (.iload 5, 2) := by decide +kernel
theorem dX5_isSoundRiver_41 : decode cX5_isSoundRiver 41 = .ok (.iload_n 3, 1) := by decide +kernel
theorem dX5_isSoundRiver_42 : decode cX5_isSoundRiver 42 = .ok (.if_icmp .ge 54, 3) := by decide +kernel
theorem dX5_isSoundRiver_45 : decode cX5_isSoundRiver 45 = .ok (.iconst 1, 1) := by decide +kernel
theorem dX5_isSoundRiver_46 : decode cX5_isSoundRiver 46 = .ok (.aload_n 0, 1) := by decide +kernel
theorem dX5_isSoundRiver_47 : decode cX5_isSoundRiver 47 = .ok (.getfield 57, 3) := by decide +kernel
theorem dX5_isSoundRiver_50 : decode cX5_isSoundRiver 50 = .ok (.iload 5, 2) := by decide +kernel
theorem dX5_isSoundRiver_52 : decode cX5_isSoundRiver 52 = .ok (.iaload, 1) := by decide +kernel
theorem dX5_isSoundRiver_53 : decode cX5_isSoundRiver 53 = .ok (.ishl, 1) := by decide +kernel
theorem dX5_isSoundRiver_54 : decode cX5_isSoundRiver 54 = .ok (.istore 6, 2) := by decide +kernel
theorem dX5_isSoundRiver_56 : decode cX5_isSoundRiver 56 = .ok (.aload_n 0, 1) := by decide +kernel
theorem dX5_isSoundRiver_57 : decode cX5_isSoundRiver 57 = .ok (.getfield 57, 3) := by decide +kernel
theorem dX5_isSoundRiver_60 : decode cX5_isSoundRiver 60 = .ok (.iload 5, 2) := by decide +kernel
theorem dX5_isSoundRiver_62 : decode cX5_isSoundRiver 62 = .ok (.iaload, 1) := by decide +kernel
theorem dX5_isSoundRiver_63 : decode cX5_isSoundRiver 63 = .ok (.aload_n 0, 1) := by decide +kernel
theorem dX5_isSoundRiver_64 : decode cX5_isSoundRiver 64 = .ok (.getfield 61, 3) := by decide +kernel
theorem dX5_isSoundRiver_67 : decode cX5_isSoundRiver 67 = .ok (.iload 5, 2) := by decide +kernel
theorem dX5_isSoundRiver_69 : decode cX5_isSoundRiver 69 = .ok (.iaload, 1) := by decide +kernel
theorem dX5_isSoundRiver_70 : decode cX5_isSoundRiver 70 = .ok (.if_icmp .ne 11, 3) := by decide +kernel
theorem dX5_isSoundRiver_73 : decode cX5_isSoundRiver 73 = .ok (.iload 4, 2) := by decide +kernel
theorem dX5_isSoundRiver_75 : decode cX5_isSoundRiver 75 = .ok (.iload 6, 2) := by decide +kernel
theorem dX5_isSoundRiver_77 : decode cX5_isSoundRiver 77 = .ok (.iand, 1) := by decide +kernel
theorem dX5_isSoundRiver_78 : decode cX5_isSoundRiver 78 = .ok (.ifCond .eq 5, 3) := by decide +kernel
theorem dX5_isSoundRiver_81 : decode cX5_isSoundRiver 81 = .ok (.iconst 0, 1) := by decide +kernel
theorem dX5_isSoundRiver_82 : decode cX5_isSoundRiver 82 = .ok (.ireturn, 1) := by decide +kernel
theorem dX5_isSoundRiver_83 : decode cX5_isSoundRiver 83 = .ok (.iload 4, 2) := by decide +kernel
theorem dX5_isSoundRiver_85 : decode cX5_isSoundRiver 85 = .ok (.iload 6, 2) := by decide +kernel
theorem dX5_isSoundRiver_87 : decode cX5_isSoundRiver 87 = .ok (.ior, 1) := by decide +kernel
theorem dX5_isSoundRiver_88 : decode cX5_isSoundRiver 88 = .ok (.istore 4, 2) := by decide +kernel
theorem dX5_isSoundRiver_90 : decode cX5_isSoundRiver 90 = .ok (.iinc 5 1, 3) := by decide +kernel
theorem dX5_isSoundRiver_93 : decode cX5_isSoundRiver 93 = .ok (.goto (-54), 3) := by decide +kernel
theorem dX5_isSoundRiver_96 : decode cX5_isSoundRiver 96 = .ok (.iconst 1, 1) := by decide +kernel
theorem dX5_isSoundRiver_97 : decode cX5_isSoundRiver 97 = .ok (.ireturn, 1) := by decide +kernel
theorem dX5_isReadByReader_0 : decode cX5_isReadByReader 0 = .ok (.aload_n 0, 1) := by decide +kernel
theorem dX5_isReadByReader_1 : decode cX5_isReadByReader 1 = .ok (.getfield 53, 3) := by decide +kernel
theorem dX5_isReadByReader_4 : decode cX5_isReadByReader 4 = .ok (.iconst 4, 1) := by decide +kernel
theorem dX5_isReadByReader_5 : decode cX5_isReadByReader 5 = .ok (.iload_n 1, 1) := by decide +kernel
theorem dX5_isReadByReader_6 : decode cX5_isReadByReader 6 = .ok (.aload_n 0, 1) := by decide +kernel
theorem dX5_isReadByReader_7 : decode cX5_isReadByReader 7 = .ok (.getfield 25, 3) := by decide +kernel
theorem dX5_isReadByReader_10 : decode cX5_isReadByReader 10 = .ok (.iload_n 1, 1) := by decide +kernel
theorem dX5_isReadByReader_11 : decode cX5_isReadByReader 11 = .ok (.invokevirtual 167, 3) := by decide +kernel
theorem dX5_isReadByReader_14 : decode cX5_isReadByReader 14 = .ok (.invokevirtual 310, 3) := by decide +kernel
theorem dX5_isReadByReader_17 : decode cX5_isReadByReader 17 = .ok (.ireturn, 1) := by decide +kernel
theorem dX5_isReadByDevice_0 : decode cX5_isReadByDevice 0 = .ok (.aload_n 0, 1) := by decide +kernel
theorem dX5_isReadByDevice_1 : decode cX5_isReadByDevice 1 = .ok (.getfield 53, 3) := by decide +kernel
theorem dX5_isReadByDevice_4 : decode cX5_isReadByDevice 4 = .ok (.iload_n 1, 1) := by decide +kernel
theorem dX5_isReadByDevice_5 : decode cX5_isReadByDevice 5 = .ok (.iload_n 2, 1) := by decide +kernel
theorem dX5_isReadByDevice_6 : decode cX5_isReadByDevice 6 = .ok (.aload_n 0, 1) := by decide +kernel
theorem dX5_isReadByDevice_7 : decode cX5_isReadByDevice 7 = .ok (.getfield 46, 3) := by decide +kernel
theorem dX5_isReadByDevice_10 : decode cX5_isReadByDevice 10 = .ok (.iload_n 1, 1) := by decide +kernel
theorem dX5_isReadByDevice_11 : decode cX5_isReadByDevice 11 = .ok (.iload_n 2, 1) := by decide +kernel
theorem dX5_isReadByDevice_12 : decode cX5_isReadByDevice 12 = .ok (.invokevirtual 313, 3) := by decide +kernel
theorem dX5_isReadByDevice_15 : decode cX5_isReadByDevice 15 = .ok (.invokevirtual 310, 3) := by decide +kernel
theorem dX5_isReadByDevice_18 : decode cX5_isReadByDevice 18 = .ok (.ireturn, 1) := by decide +kernel
theorem dX5_markKnown_0 : decode cX5_markKnown 0 = .ok (.aload_n 0, 1) := by decide +kernel
theorem dX5_markKnown_1 : decode cX5_markKnown 1 = .ok (.iload_n 1, 1) := by decide +kernel
theorem dX5_markKnown_2 : decode cX5_markKnown 2 = .ok (.iload_n 2, 1) := by decide +kernel
theorem dX5_markKnown_3 : decode cX5_markKnown 3 = .ok (.invokevirtual 273, 3) := by decide +kernel
theorem dX5_markKnown_6 : decode cX5_markKnown 6 = .ok (.istore 4, 2) := by decide +kernel
theorem dX5_markKnown_8 : decode cX5_markKnown 8 = .ok (.aload_n 0, 1) := by decide +kernel
theorem dX5_markKnown_9 : decode cX5_markKnown 9 = .ok (.getfield 53, 3) := by decide +kernel
theorem dX5_markKnown_12 : decode cX5_markKnown 12 = .ok (.iload_n 1, 1) := by decide +kernel
theorem dX5_markKnown_13 : decode cX5_markKnown 13 = .ok (.iload_n 2, 1) := by decide +kernel
theorem dX5_markKnown_14 : decode cX5_markKnown 14 = .ok (.iload_n 3, 1) := by decide +kernel
theorem dX5_markKnown_15 : decode cX5_markKnown 15 = .ok (.aload_n 0, 1) := by decide +kernel
theorem dX5_markKnown_16 : decode cX5_markKnown 16 = .ok (.getfield 9, 3) := by decide +kernel
theorem dX5_markKnown_19 : decode cX5_markKnown 19 = .ok (.aload_n 0, 1) := by decide +kernel
theorem dX5_markKnown_20 : decode cX5_markKnown 20 = .ok (.getfield 46, 3) := by decide +kernel
theorem dX5_markKnown_23 : decode cX5_markKnown 23 = .ok (.iload_n 1, 1) := by decide +kernel
theorem dX5_markKnown_24 : decode cX5_markKnown 24 = .ok (.iload_n 2, 1) := by decide +kernel
theorem dX5_markKnown_25 : decode cX5_markKnown 25 = .ok (.invokevirtual 276, 3) := by decide +kernel
theorem dX5_markKnown_28 : decode cX5_markKnown 28 = .ok (.iconst 1, 1) := by decide +kernel
theorem dX5_markKnown_29 : decode cX5_markKnown 29 = .ok (.isub, 1) := by decide +kernel
theorem dX5_markKnown_30 : decode cX5_markKnown 30 = .ok (.invokevirtual 315, 3) := by decide +kernel
theorem dX5_markKnown_33 : decode cX5_markKnown 33 = .ok (.iload 4, 2) := by decide +kernel
theorem dX5_markKnown_35 : decode cX5_markKnown 35 = .ok (.ireturn, 1) := by decide +kernel
theorem dX5_bringUpToDate_0 : decode cX5_bringUpToDate 0 = .ok (.aload_n 0, 1) := by decide +kernel
theorem dX5_bringUpToDate_1 : decode cX5_bringUpToDate 1 = .ok (.getfield 53, 3) := by decide +kernel
theorem dX5_bringUpToDate_4 : decode cX5_bringUpToDate 4 = .ok (.iconst 4, 1) := by decide +kernel
theorem dX5_bringUpToDate_5 : decode cX5_bringUpToDate 5 = .ok (.iload_n 1, 1) := by decide +kernel
theorem dX5_bringUpToDate_6 : decode cX5_bringUpToDate 6 = .ok (.iload_n 2, 1) := by decide +kernel
theorem dX5_bringUpToDate_7 : decode cX5_bringUpToDate 7 = .ok (.invokevirtual 270, 3) := by decide +kernel
theorem dX5_bringUpToDate_10 : decode cX5_bringUpToDate 10 = .ok (.aload_n 0, 1) := by decide +kernel
theorem dX5_bringUpToDate_11 : decode cX5_bringUpToDate 11 = .ok (.getfield 46, 3) := by decide +kernel
theorem dX5_bringUpToDate_14 : decode cX5_bringUpToDate 14 = .ok (.iload_n 1, 1) := by decide +kernel
theorem dX5_bringUpToDate_15 : decode cX5_bringUpToDate 15 = .ok (.iload_n 2, 1) := by decide +kernel
theorem dX5_bringUpToDate_16 : decode cX5_bringUpToDate 16 = .ok (.aload_n 0, 1) := by decide +kernel
theorem dX5_bringUpToDate_17 : decode cX5_bringUpToDate 17 = .ok (.getfield 25, 3) := by decide +kernel
theorem dX5_bringUpToDate_20 : decode cX5_bringUpToDate 20 = .ok (.iload_n 2, 1) := by decide +kernel
theorem dX5_bringUpToDate_21 : decode cX5_bringUpToDate 21 = .ok (.invokevirtual 164, 3) := by decide +kernel
theorem dX5_bringUpToDate_24 : decode cX5_bringUpToDate 24 = .ok (.aload_n 0, 1) := by decide +kernel
theorem dX5_bringUpToDate_25 : decode cX5_bringUpToDate 25 = .ok (.getfield 25, 3) := by decide +kernel
theorem dX5_bringUpToDate_28 : decode cX5_bringUpToDate 28 = .ok (.iload_n 2, 1) := by decide +kernel
theorem dX5_bringUpToDate_29 : decode cX5_bringUpToDate 29 = .ok (.invokevirtual 167, 3) := by decide +kernel
theorem dX5_bringUpToDate_32 : decode cX5_bringUpToDate 32 = .ok (.invokevirtual 319, 3) := by decide +kernel
theorem dX5_bringUpToDate_35 : decode cX5_bringUpToDate 35 = .ok (.return_, 1) := by decide +kernel
theorem dJx00060_init_a7421_0 : decode cJx00060_init_a7421 0 = .ok (.aload_n 0, 1) := by decide +kernel
theorem dJx00060_init_a7421_1 : decode cJx00060_init_a7421 1 = .ok (.aload_n 1, 1) := by decide +kernel
theorem dJx00060_init_a7421_2 : decode cJx00060_init_a7421 2 = .ok (.invokespecial 7, 3) := by decide +kernel
theorem dJx00060_init_a7421_5 : decode cJx00060_init_a7421 5 = .ok (.return_, 1) := by decide +kernel
theorem dJ13_bitCount_95d88_0 : decode cJ13_bitCount_95d88 0 = .ok (.lload_n 0, 1) := by decide +kernel
theorem dJ13_bitCount_95d88_1 : decode cJ13_bitCount_95d88 1 = .ok (.lload_n 0, 1) := by decide +kernel
theorem dJ13_bitCount_95d88_2 : decode cJ13_bitCount_95d88 2 = .ok (.iconst 1, 1) := by decide +kernel
theorem dJ13_bitCount_95d88_3 : decode cJ13_bitCount_95d88 3 = .ok (.lushr, 1) := by decide +kernel
theorem dJ13_bitCount_95d88_4 : decode cJ13_bitCount_95d88 4 = .ok (.ldc2_w 314, 3) := by decide +kernel
theorem dJ13_bitCount_95d88_7 : decode cJ13_bitCount_95d88 7 = .ok (.land, 1) := by decide +kernel
theorem dJ13_bitCount_95d88_8 : decode cJ13_bitCount_95d88 8 = .ok (.lsub, 1) := by decide +kernel
theorem dJ13_bitCount_95d88_9 : decode cJ13_bitCount_95d88 9 = .ok (.lstore_n 0, 1) := by decide +kernel
theorem dJ13_bitCount_95d88_10 : decode cJ13_bitCount_95d88 10 = .ok (.lload_n 0, 1) := by decide +kernel
theorem dJ13_bitCount_95d88_11 : decode cJ13_bitCount_95d88 11 = .ok (.ldc2_w 316, 3) := by decide +kernel
theorem dJ13_bitCount_95d88_14 : decode cJ13_bitCount_95d88 14 = .ok (.land, 1) := by decide +kernel
theorem dJ13_bitCount_95d88_15 : decode cJ13_bitCount_95d88 15 = .ok (.lload_n 0, 1) := by decide +kernel
theorem dJ13_bitCount_95d88_16 : decode cJ13_bitCount_95d88 16 = .ok (.iconst 2, 1) := by decide +kernel
theorem dJ13_bitCount_95d88_17 : decode cJ13_bitCount_95d88 17 = .ok (.lushr, 1) := by decide +kernel
theorem dJ13_bitCount_95d88_18 : decode cJ13_bitCount_95d88 18 = .ok (.ldc2_w 316, 3) := by decide +kernel
theorem dJ13_bitCount_95d88_21 : decode cJ13_bitCount_95d88 21 = .ok (.land, 1) := by decide +kernel
theorem dJ13_bitCount_95d88_22 : decode cJ13_bitCount_95d88 22 = .ok (.ladd, 1) := by decide +kernel
theorem dJ13_bitCount_95d88_23 : decode cJ13_bitCount_95d88 23 = .ok (.lstore_n 0, 1) := by decide +kernel
theorem dJ13_bitCount_95d88_24 : decode cJ13_bitCount_95d88 24 = .ok (.lload_n 0, 1) := by decide +kernel
theorem dJ13_bitCount_95d88_25 : decode cJ13_bitCount_95d88 25 = .ok (.lload_n 0, 1) := by decide +kernel
theorem dJ13_bitCount_95d88_26 : decode cJ13_bitCount_95d88 26 = .ok (.iconst 4, 1) := by decide +kernel
theorem dJ13_bitCount_95d88_27 : decode cJ13_bitCount_95d88 27 = .ok (.lushr, 1) := by decide +kernel
theorem dJ13_bitCount_95d88_28 : decode cJ13_bitCount_95d88 28 = .ok (.ladd, 1) := by decide +kernel
theorem dJ13_bitCount_95d88_29 : decode cJ13_bitCount_95d88 29 = .ok (.ldc2_w 318, 3) := by decide +kernel
theorem dJ13_bitCount_95d88_32 : decode cJ13_bitCount_95d88 32 = .ok (.land, 1) := by decide +kernel
theorem dJ13_bitCount_95d88_33 : decode cJ13_bitCount_95d88 33 = .ok (.lstore_n 0, 1) := by decide +kernel
theorem dJ13_bitCount_95d88_34 : decode cJ13_bitCount_95d88 34 = .ok (.lload_n 0, 1) := by decide +kernel
theorem dJ13_bitCount_95d88_35 : decode cJ13_bitCount_95d88 35 = .ok (.lload_n 0, 1) := by decide +kernel
theorem dJ13_bitCount_95d88_36 : decode cJ13_bitCount_95d88 36 = .ok (.bipush 8, 2) := by decide +kernel
theorem dJ13_bitCount_95d88_38 : decode cJ13_bitCount_95d88 38 = .ok (.lushr, 1) := by decide +kernel
theorem dJ13_bitCount_95d88_39 : decode cJ13_bitCount_95d88 39 = .ok (.ladd, 1) := by decide +kernel
theorem dJ13_bitCount_95d88_40 : decode cJ13_bitCount_95d88 40 = .ok (.lstore_n 0, 1) := by decide +kernel
theorem dJ13_bitCount_95d88_41 : decode cJ13_bitCount_95d88 41 = .ok (.lload_n 0, 1) := by decide +kernel
theorem dJ13_bitCount_95d88_42 : decode cJ13_bitCount_95d88 42 = .ok (.lload_n 0, 1) := by decide +kernel
theorem dJ13_bitCount_95d88_43 : decode cJ13_bitCount_95d88 43 = .ok (.bipush 16, 2) := by decide +kernel
theorem dJ13_bitCount_95d88_45 : decode cJ13_bitCount_95d88 45 = .ok (.lushr, 1) := by decide +kernel
theorem dJ13_bitCount_95d88_46 : decode cJ13_bitCount_95d88 46 = .ok (.ladd, 1) := by decide +kernel
theorem dJ13_bitCount_95d88_47 : decode cJ13_bitCount_95d88 47 = .ok (.lstore_n 0, 1) := by decide +kernel
theorem dJ13_bitCount_95d88_48 : decode cJ13_bitCount_95d88 48 = .ok (.lload_n 0, 1) := by decide +kernel
theorem dJ13_bitCount_95d88_49 : decode cJ13_bitCount_95d88 49 = .ok (.lload_n 0, 1) := by decide +kernel
theorem dJ13_bitCount_95d88_50 : decode cJ13_bitCount_95d88 50 = .ok (.bipush 32, 2) := by decide +kernel
theorem dJ13_bitCount_95d88_52 : decode cJ13_bitCount_95d88 52 = .ok (.lushr, 1) := by decide +kernel
theorem dJ13_bitCount_95d88_53 : decode cJ13_bitCount_95d88 53 = .ok (.ladd, 1) := by decide +kernel
theorem dJ13_bitCount_95d88_54 : decode cJ13_bitCount_95d88 54 = .ok (.lstore_n 0, 1) := by decide +kernel
theorem dJ13_bitCount_95d88_55 : decode cJ13_bitCount_95d88 55 = .ok (.lload_n 0, 1) := by decide +kernel
theorem dJ13_bitCount_95d88_56 : decode cJ13_bitCount_95d88 56 = .ok (.l2i, 1) := by decide +kernel
theorem dJ13_bitCount_95d88_57 : decode cJ13_bitCount_95d88 57 = .ok (.bipush 127, 2) := by decide +kernel
theorem dJ13_bitCount_95d88_59 : decode cJ13_bitCount_95d88 59 = .ok (.iand, 1) := by decide +kernel
theorem dJ13_bitCount_95d88_60 : decode cJ13_bitCount_95d88 60 = .ok (.ireturn, 1) := by decide +kernel
theorem dJ9_floorMod_7cf53_0 : decode cJ9_floorMod_7cf53 0 = .ok (.iload_n 0, 1) := by decide +kernel
theorem dJ9_floorMod_7cf53_1 : decode cJ9_floorMod_7cf53 1 = .ok (.iload_n 1, 1) := by decide +kernel
theorem dJ9_floorMod_7cf53_2 : decode cJ9_floorMod_7cf53 2 = .ok (.irem, 1) := by decide +kernel
theorem dJ9_floorMod_7cf53_3 : decode cJ9_floorMod_7cf53 3 = .ok (.istore_n 2, 1) := by decide +kernel
theorem dJ9_floorMod_7cf53_4 : decode cJ9_floorMod_7cf53 4 = .ok (.iload_n 0, 1) := by decide +kernel
theorem dJ9_floorMod_7cf53_5 : decode cJ9_floorMod_7cf53 5 = .ok (.iload_n 1, 1) := by decide +kernel
theorem dJ9_floorMod_7cf53_6 : decode cJ9_floorMod_7cf53 6 = .ok (.ixor, 1) := by decide +kernel
theorem dJ9_floorMod_7cf53_7 : decode cJ9_floorMod_7cf53 7 = .ok (.ifCond .ge 11, 3) := by decide +kernel
theorem dJ9_floorMod_7cf53_10 : decode cJ9_floorMod_7cf53 10 = .ok (.iload_n 2, 1) := by decide +kernel
theorem dJ9_floorMod_7cf53_11 : decode cJ9_floorMod_7cf53 11 = .ok (.ifCond .eq 7, 3) := by decide +kernel
theorem dJ9_floorMod_7cf53_14 : decode cJ9_floorMod_7cf53 14 = .ok (.iload_n 2, 1) := by decide +kernel
theorem dJ9_floorMod_7cf53_15 : decode cJ9_floorMod_7cf53 15 = .ok (.iload_n 1, 1) := by decide +kernel
theorem dJ9_floorMod_7cf53_16 : decode cJ9_floorMod_7cf53 16 = .ok (.iadd, 1) := by decide +kernel
theorem dJ9_floorMod_7cf53_17 : decode cJ9_floorMod_7cf53 17 = .ok (.ireturn, 1) := by decide +kernel
theorem dJ9_floorMod_7cf53_18 : decode cJ9_floorMod_7cf53 18 = .ok (.iload_n 2, 1) := by decide +kernel
theorem dJ9_floorMod_7cf53_19 : decode cJ9_floorMod_7cf53 19 = .ok (.ireturn, 1) := by decide +kernel
end
section
theorem dX6_init_0 : decode cX6_init 0 = .ok (.aload_n 0, 1) := by decide +kernel
theorem dX6_init_1 : decode cX6_init 1 = .ok (.invokespecial 1, 3) := by decide +kernel
theorem dX6_init_4 : decode cX6_init 4 = .ok (.aload_n 0, 1) := by decide +kernel
theorem dX6_init_5 : decode cX6_init 5 = .ok (.bipush 120, 2) := by decide +kernel
theorem dX6_init_7 : decode cX6_init 7 = .ok (.newarray .long, 2) := by decide +kernel
theorem dX6_init_9 : decode cX6_init 9 = .ok (.putfield 7, 3) := by decide +kernel
theorem dX6_init_12 : decode cX6_init 12 = .ok (.aload_n 0, 1) := by decide +kernel
theorem dX6_init_13 : decode cX6_init 13 = .ok (.bipush 6, 2) := by decide +kernel
theorem dX6_init_15 : decode cX6_init 15 = .ok (.newarray .long, 2) := by decide +kernel
theorem dX6_init_17 : decode cX6_init 17 = .ok (.putfield 13, 3) := by decide +kernel
theorem dX6_init_20 : decode cX6_init 20 = .ok (.aload_n 0, 1) := by decide +kernel
theorem dX6_init_21 : decode cX6_init 21 = .ok (.bipush 6, 2) := by decide +kernel
theorem dX6_init_23 : decode cX6_init 23 = .ok (.newarray .long, 2) := by decide +kernel
theorem dX6_init_25 : decode cX6_init 25 = .ok (.putfield 16, 3) := by decide +kernel
theorem dX6_init_28 : decode cX6_init 28 = .ok (.aload_n 0, 1) := by decide +kernel
theorem dX6_init_29 : decode cX6_init 29 = .ok (.bipush 30, 2) := by decide +kernel
theorem dX6_init_31 : decode cX6_init 31 = .ok (.newarray .int, 2) := by decide +kernel
theorem dX6_init_33 : decode cX6_init 33 = .ok (.putfield 19, 3) := by decide +kernel
theorem dX6_init_36 : decode cX6_init 36 = .ok (.aload_n 0, 1) := by decide +kernel
theorem dX6_init_37 : decode cX6_init 37 = .ok (.bipush 30, 2) := by decide +kernel
theorem dX6_init_39 : decode cX6_init 39 = .ok (.newarray .int, 2) := by decide +kernel
theorem dX6_init_41 : decode cX6_init 41 = .ok (.putfield 23, 3) := by decide +kernel
theorem dX6_init_44 : decode cX6_init 44 = .ok (.aload_n 0, 1) := by decide +kernel
theorem dX6_init_45 : decode cX6_init 45 = .ok (.bipush 30, 2) := by decide +kernel
theorem dX6_init_47 : decode cX6_init 47 = .ok (.newarray .int, 2) := by decide +kernel
theorem dX6_init_49 : decode cX6_init 49 = .ok (.putfield 26, 3) := by decide +kernel
theorem dX6_init_52 : decode cX6_init 52 = .ok (.aload_n 0, 1) := by decide +kernel
theorem dX6_init_53 : decode cX6_init 53 = .ok (.bipush 30, 2) := by decide +kernel
theorem dX6_init_55 : decode cX6_init 55 = .ok (.newarray .int, 2) := by decide +kernel
theorem dX6_init_57 : decode cX6_init 57 = .ok (.putfield 29, 3) := by decide +kernel
theorem dX6_init_60 : decode cX6_init 60 = .ok (.aload_n 0, 1) := by decide +kernel
theorem dX6_init_61 : decode cX6_init 61 = .ok (.bipush 30, 2) := by decide +kernel
theorem dX6_init_63 : decode cX6_init 63 = .ok (.newarray .int, 2) := by decide +kernel
theorem dX6_init_65 : decode cX6_init 65 = .ok (.putfield 32, 3) := by decide +kernel
theorem dX6_init_68 : decode cX6_init 68 = .ok (.aload_n 0, 1) := by decide +kernel
theorem dX6_init_69 : decode cX6_init 69 = .ok (.sipush 600, 3) := by decide +kernel
theorem dX6_init_72 : decode cX6_init 72 = .ok (.newarray .int, 2) := by decide +kernel
theorem dX6_init_74 : decode cX6_init 74 = .ok (.putfield 35, 3) := by decide +kernel
theorem dX6_init_77 : decode cX6_init 77 = .ok (.aload_n 0, 1) := by decide +kernel
theorem dX6_init_78 : decode cX6_init 78 = .ok (.sipush 600, 3) := by decide +kernel
theorem dX6_init_81 : decode cX6_init 81 = .ok (.newarray .int, 2) := by decide +kernel
theorem dX6_init_83 : decode cX6_init 83 = .ok (.putfield 38, 3) := by decide +kernel
theorem dX6_init_86 : decode cX6_init 86 = .ok (.aload_n 0, 1) := by decide +kernel
theorem dX6_init_87 : decode cX6_init 87 = .ok (.sipush 600, 3) := by decide +kernel
theorem dX6_init_90 : decode cX6_init 90 = .ok (.newarray .int, 2) := by decide +kernel
theorem dX6_init_92 : decode cX6_init 92 = .ok (.putfield 41, 3) := by decide +kernel
theorem dX6_init_95 : decode cX6_init 95 = .ok (.aload_n 0, 1) := by decide +kernel
theorem dX6_init_96 : decode cX6_init 96 = .ok (.sipush 600, 3) := by decide +kernel
theorem dX6_init_99 : decode cX6_init 99 = .ok (.newarray .int, 2) := by decide +kernel
theorem dX6_init_101 : decode cX6_init 101 = .ok (.putfield 44, 3) := by decide +kernel
theorem dX6_init_104 : decode cX6_init 104 = .ok (.aload_n 0, 1) := by decide +kernel
theorem dX6_init_105 : decode cX6_init 105 = .ok (.sipush 600, 3) := by decide +kernel
theorem dX6_init_108 : decode cX6_init 108 = .ok (.newarray .int, 2) := by decide +kernel
theorem dX6_init_110 : decode cX6_init 110 = .ok (.putfield 47, 3) := by decide +kernel
theorem dX6_init_113 : decode cX6_init 113 = .ok (.aload_n 0, 1) := by decide +kernel
theorem dX6_init_114 : decode cX6_init 114 = .ok (.bipush 6, 2) := by decide +kernel
theorem dX6_init_116 : decode cX6_init 116 = .ok (.newarray .int, 2) := by decide +kernel
theorem dX6_init_118 : decode cX6_init 118 = .ok (.putfield 50, 3) := by decide +kernel
theorem dX6_init_121 : decode cX6_init 121 = .ok (.aload_n 0, 1) := by decide +kernel
theorem dX6_init_122 : decode cX6_init 122 = .ok (.bipush 6, 2) := by decide +kernel
theorem dX6_init_124 : decode cX6_init 124 = .ok (.newarray .int, 2) := by decide +kernel
theorem dX6_init_126 : decode cX6_init 126 = .ok (.putfield 53, 3) := by decide +kernel
theorem dX6_init_129 : decode cX6_init 129 = .ok (.aload_n 0, 1) := by decide +kernel
theorem dX6_init_130 : decode cX6_init 130 = .ok (.bipush 6, 2) := by decide +kernel
theorem dX6_init_132 : decode cX6_init 132 = .ok (.newarray .int, 2) := by decide +kernel
theorem dX6_init_134 : decode cX6_init 134 = .ok (.putfield 56, 3) := by decide +kernel
theorem dX6_init_137 : decode cX6_init 137 = .ok (.aload_n 0, 1) := by decide +kernel
theorem dX6_init_138 : decode cX6_init 138 = .ok (.iconst 4, 1) := by decide +kernel
theorem dX6_init_139 : decode cX6_init 139 = .ok (.newarray .int, 2) := by decide +kernel
theorem dX6_init_141 : decode cX6_init 141 = .ok (.putfield 59, 3) := by decide +kernel
theorem dX6_init_144 : decode cX6_init 144 = .ok (.aload_n 0, 1) := by decide +kernel
theorem dX6_init_145 : decode cX6_init 145 = .ok (.iconst 4, 1) := by decide +kernel
theorem dX6_init_146 : decode cX6_init 146 = .ok (.newarray .int, 2) := by decide +kernel
theorem dX6_init_148 : decode cX6_init 148 = .ok (.putfield 62, 3) := by decide +kernel
theorem dX6_init_151 : decode cX6_init 151 = .ok (.aload_n 0, 1) := by decide +kernel
theorem dX6_init_152 : decode cX6_init 152 = .ok (.sipush 150, 3) := by decide +kernel
theorem dX6_init_155 : decode cX6_init 155 = .ok (.newarray .int, 2) := by decide +kernel
theorem dX6_init_157 : decode cX6_init 157 = .ok (.putfield 65, 3) := by decide +kernel
theorem dX6_init_160 : decode cX6_init 160 = .ok (.aload_n 0, 1) := by decide +kernel
theorem dX6_init_161 : decode cX6_init 161 = .ok (.sipush 150, 3) := by decide +kernel
theorem dX6_init_164 : decode cX6_init 164 = .ok (.newarray .int, 2) := by decide +kernel
theorem dX6_init_166 : decode cX6_init 166 = .ok (.putfield 68, 3) := by decide +kernel
theorem dX6_init_169 : decode cX6_init 169 = .ok (.aload_n 0, 1) := by decide +kernel
theorem dX6_init_170 : decode cX6_init 170 = .ok (.sipush 150, 3) := by decide +kernel
theorem dX6_init_173 : decode cX6_init 173 = .ok (.newarray .int, 2) := by decide +kernel
theorem dX6_init_175 : decode cX6_init 175 = .ok (.putfield 71, 3) := by decide +kernel
theorem dX6_init_178 : decode cX6_init 178 = .ok (.aload_n 0, 1) := by decide +kernel
theorem dX6_init_179 : decode cX6_init 179 = .ok (.bipush 120, 2) := by decide +kernel
theorem dX6_init_181 : decode cX6_init 181 = .ok (.newarray .int, 2) := by decide +kernel
theorem dX6_init_183 : decode cX6_init 183 = .ok (.putfield 74, 3) := by decide +kernel
theorem dX6_init_186 : decode cX6_init 186 = .ok (.aload_n 0, 1) := by decide +kernel
theorem dX6_init_187 : decode cX6_init 187 = .ok (.bipush 120, 2) := by decide +kernel
theorem dX6_init_189 : decode cX6_init 189 = .ok (.newarray .int, 2) := by decide +kernel
theorem dX6_init_191 : decode cX6_init 191 = .ok (.putfield 77, 3) := by decide +kernel
theorem dX6_init_194 : decode cX6_init 194 = .ok (.aload_n 0, 1) := by decide +kernel
theorem dX6_init_195 : decode cX6_init 195 = .ok (.iconst 0, 1) := by decide +kernel
theorem dX6_init_196 : decode cX6_init 196 = .ok (.putfield 80, 3) := by decide +kernel
theorem dX6_init_199 : decode cX6_init 199 = .ok (.aload_n 0, 1) := by decide +kernel
theorem dX6_init_200 : decode cX6_init 200 = .ok (.iconst 0, 1) := by decide +kernel
theorem dX6_init_201 : decode cX6_init 201 = .ok (.putfield 84, 3) := by decide +kernel
theorem dX6_init_204 : decode cX6_init 204 = .ok (.aload_n 0, 1) := by decide +kernel
theorem dX6_init_205 : decode cX6_init 205 = .ok (.bipush 60, 2) := by decide +kernel
theorem dX6_init_207 : decode cX6_init 207 = .ok (.putfield 87, 3) := by decide +kernel
theorem dX6_init_210 : decode cX6_init 210 = .ok (.aload_n 0, 1) := by decide +kernel
theorem dX6_init_211 : decode cX6_init 211 = .ok (.sipush 180, 3) := by decide +kernel
theorem dX6_init_214 : decode cX6_init 214 = .ok (.putfield 90, 3) := by decide +kernel
theorem dX6_init_217 : decode cX6_init 217 = .ok (.aload_n 0, 1) := by decide +kernel
theorem dX6_init_218 : decode cX6_init 218 = .ok (.iconst 0, 1) := by decide +kernel
theorem dX6_init_219 : decode cX6_init 219 = .ok (.putfield 93, 3) := by decide +kernel
theorem dX6_init_222 : decode cX6_init 222 = .ok (.aload_n 0, 1) := by decide +kernel
theorem dX6_init_223 : decode cX6_init 223 = .ok (.iconst 0, 1) := by decide +kernel
theorem dX6_init_224 : decode cX6_init 224 = .ok (.putfield 96, 3) := by decide +kernel
theorem dX6_init_227 : decode cX6_init 227 = .ok (.aload_n 0, 1) := by decide +kernel
theorem dX6_init_228 : decode cX6_init 228 = .ok (.iconst 0, 1) := by decide +kernel
theorem dX6_init_229 : decode cX6_init 229 = .ok (.putfield 99, 3) := by decide +kernel
theorem dX6_init_232 : decode cX6_init 232 = .ok (.aload_n 0, 1) := by decide +kernel
theorem dX6_init_233 : decode cX6_init 233 = .ok (.iconst 0, 1) := by decide +kernel
theorem dX6_init_234 : decode cX6_init 234 = .ok (.putfield 102, 3) := by decide +kernel
theorem dX6_init_237 : decode cX6_init 237 = .ok (.aload_n 0, 1) := by decide +kernel
theorem dX6_init_238 : decode cX6_init 238 = .ok (.iconst 0, 1) := by decide +kernel
theorem dX6_init_239 : decode cX6_init 239 = .ok (.putfield 105, 3) := by decide +kernel
theorem dX6_init_242 : decode cX6_init 242 = .ok (.aload_n 0, 1) := by decide +kernel
theorem dX6_init_243 : decode cX6_init 243 = .ok (.iconst 0, 1) := by decide +kernel
theorem dX6_init_244 : decode cX6_init 244 = .ok (.putfield 108, 3) := by decide +kernel
theorem dX6_init_247 : decode cX6_init 247 = .ok (.aload_n 0, 1) := by decide +kernel
theorem dX6_init_248 : decode cX6_init 248 = .ok (.iconst 0, 1) := by decide +kernel
theorem dX6_init_249 : decode cX6_init 249 = .ok (.putfield 111, 3) := by decide +kernel
theorem dX6_init_252 : decode cX6_init 252 = .ok (.aload_n 0, 1) := by decide +kernel
theorem dX6_init_253 : decode cX6_init 253 = .ok (.iconst 0, 1) := by decide +kernel
theorem dX6_init_254 : decode cX6_init 254 = .ok (.putfield 114, 3) := by decide +kernel
theorem dX6_init_257 : decode cX6_init 257 = .ok (.aload_n 0, 1) := by decide +kernel
theorem dX6_init_258 : decode cX6_init 258 = .ok (.iconst 0, 1) := by decide +kernel
theorem dX6_init_259 : decode cX6_init 259 = .ok (.putfield 117, 3) := by decide +kernel
theorem dX6_init_262 : decode cX6_init 262 = .ok (.aload_n 0, 1) := by decide +kernel
theorem dX6_init_263 : decode cX6_init 263 = .ok (.iconst 0, 1) := by decide +kernel
theorem dX6_init_264 : decode cX6_init 264 = .ok (.putfield 120, 3) := by decide +kernel
theorem dX6_init_267 : decode cX6_init 267 = .ok (.return_, 1) := by decide +kernel
theorem dX6_thrown_0 : decode cX6_thrown 0 = .ok (.aload_n 0, 1) := by decide +kernel
theorem dX6_thrown_1 : decode cX6_thrown 1 = .ok (.getfield 80, 3) := by decide +kernel
theorem dX6_thrown_4 : decode cX6_thrown 4 = .ok (.ireturn, 1) := by decide +kernel
theorem dX6_in_0 : decode cX6_in 0 = .ok (.iload_n 0, 1) := by decide +kernel
theorem dX6_in_1 : decode cX6_in 1 = .ok (.iload_n 1, 1) := by decide +kernel
theorem dX6_in_2 : decode cX6_in 2 = .ok (.if_icmp .lt 12, 3) := by decide +kernel
theorem dX6_in_5 : decode cX6_in 5 = .ok (.iload_n 0, 1) := by decide +kernel
theorem dX6_in_6 : decode cX6_in 6 = .ok (.iload_n 2, 1) := by decide +kernel
theorem dX6_in_7 : decode cX6_in 7 = .ok (.if_icmp .gt 7, 3) := by decide +kernel
theorem dX6_in_10 : decode cX6_in 10 = .ok (.iconst 1, 1) := by decide +kernel
theorem dX6_in_11 : decode cX6_in 11 = .ok (.goto 4, 3) := by decide +kernel
theorem dX6_in_14 : decode cX6_in 14 = .ok (.iconst 0, 1) := by decide +kernel
theorem dX6_in_15 : decode cX6_in 15 = .ok (.ireturn, 1) := by decide +kernel
theorem dX6_plain_0 : decode cX6_plain 0 = .ok (.aload_n 0, 1) := by decide +kernel
theorem dX6_plain_1 : decode cX6_plain 1 = .ok (.iconst 0, 1) := by decide +kernel
theorem dX6_plain_2 : decode cX6_plain 2 = .ok (.putfield 80, 3) := by decide +kernel
theorem dX6_plain_5 : decode cX6_plain 5 = .ok (.iload_n 1, 1) := by decide +kernel
theorem dX6_plain_6 : decode cX6_plain 6 = .ok (.ireturn, 1) := by decide +kernel
theorem dX6_checked_0 : decode cX6_checked 0 = .ok (.aload_n 0, 1) := by decide +kernel
theorem dX6_checked_1 : decode cX6_checked 1 = .ok (.iload_n 1, 1) := by decide +kernel
theorem dX6_checked_2 : decode cX6_checked 2 = .ok (.ifCond .eq 7, 3) := by decide +kernel
theorem dX6_checked_5 : decode cX6_checked 5 = .ok (.iconst 0, 1) := by decide +kernel
theorem dX6_checked_6 : decode cX6_checked 6 = .ok (.goto 4, 3) := by decide +kernel
theorem dX6_checked_9 : decode cX6_checked 9 = .ok (.iconst 1, 1) := by decide +kernel
theorem dX6_checked_10 : decode cX6_checked 10 = .ok (.putfield 80, 3) := by decide +kernel
theorem dX6_checked_13 : decode cX6_checked 13 = .ok (.aload_n 0, 1) := by decide +kernel
theorem dX6_checked_14 : decode cX6_checked 14 = .ok (.getfield 80, 3) := by decide +kernel
theorem dX6_checked_17 : decode cX6_checked 17 = .ok (.ireturn, 1) := by decide +kernel
theorem dX6_bits_0 : decode cX6_bits 0 = .ok (.iconst 0, 1) := by decide +kernel
theorem dX6_bits_1 : decode cX6_bits 1 = .ok (.istore_n 2, 1) := by decide +kernel
theorem dX6_bits_2 : decode cX6_bits 2 = .ok (.iconst 0, 1) := by decide +kernel
theorem dX6_bits_3 : decode cX6_bits 3 = .ok (.istore_n 3, 1) := by decide +kernel
theorem dX6_bits_4 : decode cX6_bits 4 = .ok (.iload_n 3, 1) := by decide +kernel
theorem dX6_bits_5 : decode cX6_bits 5 = .ok (.bipush 64, 2) := by decide +kernel
theorem dX6_bits_7 : decode cX6_bits 7 = .ok (.if_icmp .ge 27, 3) := by decide +kernel
theorem dX6_bits_10 : decode cX6_bits 10 = .ok (.iload_n 2, 1) := by decide +kernel
theorem dX6_bits_11 : decode cX6_bits 11 = .ok (.lload_n 0, 1) := by decide +kernel
theorem dX6_bits_12 : decode cX6_bits 12 = .ok (.iload_n 3, 1) := by decide +kernel
theorem dX6_bits_13 : decode cX6_bits 13 = .ok (.lshr, 1) := by decide +kernel
theorem dX6_bits_14 : decode cX6_bits 14 = .ok (.lconst 1, 1) := by decide +kernel
theorem dX6_bits_15 : decode cX6_bits 15 = .ok (.land, 1) := by decide +kernel
theorem dX6_bits_16 : decode cX6_bits 16 = .ok (.lconst 1, 1) := by decide +kernel
theorem dX6_bits_17 : decode cX6_bits 17 = .ok (.lcmp, 1) := by decide +kernel
theorem dX6_bits_18 : decode cX6_bits 18 = .ok (.ifCond .ne 7, 3) := by decide +kernel
theorem dX6_bits_21 : decode cX6_bits 21 = .ok (.iconst 1, 1) := by decide +kernel
theorem dX6_bits_22 : decode cX6_bits 22 = .ok (.goto 4, 3) := by decide +kernel
theorem dX6_bits_25 : decode cX6_bits 25 = .ok (.iconst 0, 1) := by decide +kernel
theorem dX6_bits_26 : decode cX6_bits 26 = .ok (.iadd, 1) := by decide +kernel
theorem dX6_bits_27 : decode cX6_bits 27 = .ok (.istore_n 2, 1) := by decide +kernel
theorem dX6_bits_28 : decode cX6_bits 28 = .ok (.iinc 3 1, 3) := by decide +kernel
theorem dX6_bits_31 : decode cX6_bits 31 = .ok (.goto (-27), 3) := by decide +kernel
theorem dX6_bits_34 : decode cX6_bits 34 = .ok (.iload_n 2, 1) := by decide +kernel
theorem dX6_bits_35 : decode cX6_bits 35 = .ok (.ireturn, 1) := by decide +kernel
theorem dX6_likenessOf_0 : decode cX6_likenessOf 0 = .ok (.bipush 100, 2) := by decide +kernel
theorem dX6_likenessOf_2 : decode cX6_likenessOf 2 = .ok (.lload_n 0, 1) := by decide +kernel
theorem dX6_likenessOf_3 : decode cX6_likenessOf 3 = .ok (.lload_n 2, 1) := by decide +kernel
theorem dX6_likenessOf_4 : decode cX6_likenessOf 4 = .ok (.land, 1) := by decide +kernel
theorem dX6_likenessOf_5 : decode cX6_likenessOf 5 = .ok (.invokestatic 124, 3) := by decide +kernel
theorem dX6_likenessOf_8 : decode cX6_likenessOf 8 = .ok (.imul, 1) := by decide +kernel
theorem dX6_likenessOf_9 : decode cX6_likenessOf 9 = .ok (.lload_n 0, 1) := by decide +kernel
theorem dX6_likenessOf_10 : decode cX6_likenessOf 10 = .ok (.lload_n 2, 1) := by decide +kernel
theorem dX6_likenessOf_11 : decode cX6_likenessOf 11 = .ok (.lor, 1) := by decide +kernel
theorem dX6_likenessOf_12 : decode cX6_likenessOf 12 = .ok (.invokestatic 124, 3) := by decide +kernel
theorem dX6_likenessOf_15 : decode cX6_likenessOf 15 = .ok (.idiv, 1) := by decide +kernel
theorem dX6_likenessOf_16 : decode cX6_likenessOf 16 = .ok (.ireturn, 1) := by decide +kernel
theorem dX6_pass_0 : decode cX6_pass 0 = .ok (.aload_n 0, 1) := by decide +kernel
theorem dX6_pass_1 : decode cX6_pass 1 = .ok (.iload_n 1, 1) := by decide +kernel
theorem dX6_pass_2 : decode cX6_pass 2 = .ok (.iconst 1, 1) := by decide +kernel
theorem dX6_pass_3 : decode cX6_pass 3 = .ok (.sipush 2000, 3) := by decide +kernel
theorem dX6_pass_6 : decode cX6_pass 6 = .ok (.invokestatic 128, 3) := by decide +kernel
theorem dX6_pass_9 : decode cX6_pass 9 = .ok (.ifCond .ne 7, 3) := by decide +kernel
theorem dX6_pass_12 : decode cX6_pass 12 = .ok (.iconst 1, 1) := by decide +kernel
theorem dX6_pass_13 : decode cX6_pass 13 = .ok (.goto 19, 3) := by decide +kernel
theorem dX6_pass_16 : decode cX6_pass 16 = .ok (.aload_n 0, 1) := by decide +kernel
theorem dX6_pass_17 : decode cX6_pass 17 = .ok (.getfield 84, 3) := by decide +kernel
theorem dX6_pass_20 : decode cX6_pass 20 = .ok (.iload_n 1, 1) := by decide +kernel
theorem dX6_pass_21 : decode cX6_pass 21 = .ok (.iadd, 1) := by decide +kernel
theorem dX6_pass_22 : decode cX6_pass 22 = .ok (.ldc 132, 2) := by decide +kernel
theorem dX6_pass_24 : decode cX6_pass 24 = .ok (.if_icmp .le 7, 3) := by decide +kernel
theorem dX6_pass_27 : decode cX6_pass 27 = .ok (.iconst 2, 1) := by decide +kernel
theorem dX6_pass_28 : decode cX6_pass 28 = .ok (.goto 4, 3) := by decide +kernel
theorem dX6_pass_31 : decode cX6_pass 31 = .ok (.iconst 0, 1) := by decide +kernel
theorem dX6_pass_32 : decode cX6_pass 32 = .ok (.putfield 80, 3) := by decide +kernel
theorem dX6_pass_35 : decode cX6_pass 35 = .ok (.aload_n 0, 1) := by decide +kernel
theorem dX6_pass_36 : decode cX6_pass 36 = .ok (.getfield 80, 3) := by decide +kernel
theorem dX6_pass_39 : decode cX6_pass 39 = .ok (.ifCond .le 5, 3) := by decide +kernel
theorem dX6_pass_42 : decode cX6_pass 42 = .ok (.iconst 0, 1) := by decide +kernel
theorem dX6_pass_43 : decode cX6_pass 43 = .ok (.ireturn, 1) := by decide +kernel
theorem dX6_pass_44 : decode cX6_pass 44 = .ok (.aload_n 0, 1) := by decide +kernel
theorem dX6_pass_45 : decode cX6_pass 45 = .ok (.dup, 1) := by decide +kernel
theorem dX6_pass_46 : decode cX6_pass 46 = .ok (.getfield 84, 3) := by decide +kernel
theorem dX6_pass_49 : decode cX6_pass 49 = .ok (.iload_n 1, 1) := by decide +kernel
theorem dX6_pass_50 : decode cX6_pass 50 = .ok (.iadd, 1) := by decide +kernel
theorem dX6_pass_51 : decode cX6_pass 51 = .ok (.putfield 84, 3) := by decide +kernel
theorem dX6_pass_54 : decode cX6_pass 54 = .ok (.aload_n 0, 1) := by decide +kernel
theorem dX6_pass_55 : decode cX6_pass 55 = .ok (.getfield 84, 3) := by decide +kernel
theorem dX6_pass_58 : decode cX6_pass 58 = .ok (.ireturn, 1) := by decide +kernel
theorem dX6_now_0 : decode cX6_now 0 = .ok (.aload_n 0, 1) := by decide +kernel
theorem dX6_now_1 : decode cX6_now 1 = .ok (.aload_n 0, 1) := by decide +kernel
theorem dX6_now_2 : decode cX6_now 2 = .ok (.getfield 84, 3) := by decide +kernel
theorem dX6_now_5 : decode cX6_now 5 = .ok (.invokevirtual 133, 3) := by decide +kernel
theorem dX6_now_8 : decode cX6_now 8 = .ok (.ireturn, 1) := by decide +kernel
theorem dX6_setThreshold_0 : decode cX6_setThreshold 0 = .ok (.aload_n 0, 1) := by decide +kernel
theorem dX6_setThreshold_1 : decode cX6_setThreshold 1 = .ok (.iload_n 1, 1) := by decide +kernel
theorem dX6_setThreshold_2 : decode cX6_setThreshold 2 = .ok (.iconst 1, 1) := by decide +kernel
theorem dX6_setThreshold_3 : decode cX6_setThreshold 3 = .ok (.bipush 100, 2) := by decide +kernel
theorem dX6_setThreshold_5 : decode cX6_setThreshold 5 = .ok (.invokestatic 128, 3) := by decide +kernel
theorem dX6_setThreshold_8 : decode cX6_setThreshold 8 = .ok (.invokevirtual 137, 3) := by decide +kernel
theorem dX6_setThreshold_11 : decode cX6_setThreshold 11 = .ok (.ifCond .le 5, 3) := by decide +kernel
theorem dX6_setThreshold_14 : decode cX6_setThreshold 14 = .ok (.iconst 0, 1) := by decide +kernel
theorem dX6_setThreshold_15 : decode cX6_setThreshold 15 = .ok (.ireturn, 1) := by decide +kernel
theorem dX6_setThreshold_16 : decode cX6_setThreshold 16 = .ok (.aload_n 0, 1) := by decide +kernel
theorem dX6_setThreshold_17 : decode cX6_setThreshold 17 = .ok (.getfield 87, 3) := by decide +kernel
theorem dX6_setThreshold_20 : decode cX6_setThreshold 20 = .ok (.istore_n 2, 1) := by decide +kernel
theorem dX6_setThreshold_21 : decode cX6_setThreshold 21 = .ok (.aload_n 0, 1) := by decide +kernel
theorem dX6_setThreshold_22 : decode cX6_setThreshold 22 = .ok (.iload_n 1, 1) := by decide +kernel
theorem dX6_setThreshold_23 : decode cX6_setThreshold 23 = .ok (.putfield 87, 3) := by decide +kernel
theorem dX6_setThreshold_26 : decode cX6_setThreshold 26 = .ok (.iload_n 2, 1) := by decide +kernel
theorem dX6_setThreshold_27 : decode cX6_setThreshold 27 = .ok (.ireturn, 1) := by decide +kernel
theorem dX6_setWindow_0 : decode cX6_setWindow 0 = .ok (.aload_n 0, 1) := by decide +kernel
theorem dX6_setWindow_1 : decode cX6_setWindow 1 = .ok (.iload_n 1, 1) := by decide +kernel
theorem dX6_setWindow_2 : decode cX6_setWindow 2 = .ok (.iconst 0, 1) := by decide +kernel
theorem dX6_setWindow_3 : decode cX6_setWindow 3 = .ok (.sipush 1440, 3) := by decide +kernel
theorem dX6_setWindow_6 : decode cX6_setWindow 6 = .ok (.invokestatic 128, 3) := by decide +kernel
theorem dX6_setWindow_9 : decode cX6_setWindow 9 = .ok (.invokevirtual 137, 3) := by decide +kernel
theorem dX6_setWindow_12 : decode cX6_setWindow 12 = .ok (.ifCond .le 5, 3) := by decide +kernel
theorem dX6_setWindow_15 : decode cX6_setWindow 15 = .ok (.iconst 0, 1) := by decide +kernel
theorem dX6_setWindow_16 : decode cX6_setWindow 16 = .ok (.ireturn, 1) := by decide +kernel
theorem dX6_setWindow_17 : decode cX6_setWindow 17 = .ok (.aload_n 0, 1) := by decide +kernel
theorem dX6_setWindow_18 : decode cX6_setWindow 18 = .ok (.getfield 90, 3) := by decide +kernel
theorem dX6_setWindow_21 : decode cX6_setWindow 21 = .ok (.istore_n 2, 1) := by decide +kernel
theorem dX6_setWindow_22 : decode cX6_setWindow 22 = .ok (.aload_n 0, 1) := by decide +kernel
theorem dX6_setWindow_23 : decode cX6_setWindow 23 = .ok (.iload_n 1, 1) := by decide +kernel
theorem dX6_setWindow_24 : decode cX6_setWindow 24 = .ok (.putfield 90, 3) := by decide +kernel
theorem dX6_setWindow_27 : decode cX6_setWindow 27 = .ok (.iload_n 2, 1) := by decide +kernel
theorem dX6_setWindow_28 : decode cX6_setWindow 28 = .ok (.ireturn, 1) := by decide +kernel
theorem dX6_likeness_0 : decode cX6_likeness 0 = .ok (.aload_n 0, 1) := by decide +kernel
theorem dX6_likeness_1 : decode cX6_likeness 1 = .ok (.lload_n 1, 1) := by decide +kernel
theorem dX6_likeness_2 : decode cX6_likeness 2 = .ok (.lconst 0, 1) := by decide +kernel
theorem dX6_likeness_3 : decode cX6_likeness 3 = .ok (.lcmp, 1) := by decide +kernel
theorem dX6_likeness_4 : decode cX6_likeness 4 = .ok (.ifCond .eq 13, 3) := by decide +kernel
theorem dX6_likeness_7 : decode cX6_likeness 7 = .ok (.lload_n 3, 1) := by decide +kernel
theorem dX6_likeness_8 : decode cX6_likeness 8 = .ok (.lconst 0, 1) := by decide +kernel
theorem dX6_likeness_9 : decode cX6_likeness 9 = .ok (.lcmp, 1) := by decide +kernel
theorem dX6_likeness_10 : decode cX6_likeness 10 = .ok (.ifCond .eq 7, 3) := by decide +kernel
theorem dX6_likeness_13 : decode cX6_likeness 13 = .ok (.iconst 1, 1) := by decide +kernel
theorem dX6_likeness_14 : decode cX6_likeness 14 = .ok (.goto 4, 3) := by decide +kernel
theorem dX6_likeness_17 : decode cX6_likeness 17 = .ok (.iconst 0, 1) := by decide +kernel
theorem dX6_likeness_18 : decode cX6_likeness 18 = .ok (.invokevirtual 137, 3) := by decide +kernel
theorem dX6_likeness_21 : decode cX6_likeness 21 = .ok (.ifCond .le 7, 3) := by decide +kernel
theorem dX6_likeness_24 : decode cX6_likeness 24 = .ok (.iconst 0, 1) := by decide +kernel
theorem dX6_likeness_25 : decode cX6_likeness 25 = .ok (.goto 8, 3) := by decide +kernel
theorem dX6_likeness_28 : decode cX6_likeness 28 = .ok (.lload_n 1, 1) := by decide +kernel
theorem dX6_likeness_29 : decode cX6_likeness 29 = .ok (.lload_n 3, 1) := by decide +kernel
theorem dX6_likeness_30 : decode cX6_likeness 30 = .ok (.invokestatic 141, 3) := by decide +kernel
theorem dX6_likeness_33 : decode cX6_likeness 33 = .ok (.ireturn, 1) := by decide +kernel
theorem dX6_addSource_0 : decode cX6_addSource 0 = .ok (.aload_n 0, 1) := by decide +kernel
theorem dX6_addSource_1 : decode cX6_addSource 1 = .ok (.aload_n 0, 1) := by decide +kernel
theorem dX6_addSource_2 : decode cX6_addSource 2 = .ok (.getfield 93, 3) := by decide +kernel
theorem dX6_addSource_5 : decode cX6_addSource 5 = .ok (.bipush 6, 2) := by decide +kernel
theorem dX6_addSource_7 : decode cX6_addSource 7 = .ok (.if_icmp .ge 7, 3) := by decide +kernel
theorem dX6_addSource_10 : decode cX6_addSource 10 = .ok (.iconst 1, 1) := by decide +kernel
theorem dX6_addSource_11 : decode cX6_addSource 11 = .ok (.goto 4, 3) := by decide +kernel
theorem dX6_addSource_14 : decode cX6_addSource 14 = .ok (.iconst 0, 1) := by decide +kernel
theorem dX6_addSource_15 : decode cX6_addSource 15 = .ok (.invokevirtual 137, 3) := by decide +kernel
theorem dX6_addSource_18 : decode cX6_addSource 18 = .ok (.ifCond .le 5, 3) := by decide +kernel
theorem dX6_addSource_21 : decode cX6_addSource 21 = .ok (.iconst 0, 1) := by decide +kernel
theorem dX6_addSource_22 : decode cX6_addSource 22 = .ok (.ireturn, 1) := by decide +kernel
theorem dX6_addSource_23 : decode cX6_addSource 23 = .ok (.aload_n 0, 1) := by decide +kernel
theorem dX6_addSource_24 : decode cX6_addSource 24 = .ok (.dup, 1) := by decide +kernel
theorem dX6_addSource_25 : decode cX6_addSource 25 = .ok (.getfield 93, 3) := by decide +kernel
theorem dX6_addSource_28 : decode cX6_addSource 28 = .ok (.iconst 1, 1) := by decide +kernel
theorem dX6_addSource_29 : decode cX6_addSource 29 = .ok (.iadd, 1) := by decide +kernel
theorem dX6_addSource_30 : decode cX6_addSource 30 = .ok (.putfield 93, 3) := by decide +kernel
theorem dX6_addSource_33 : decode cX6_addSource 33 = .ok (.aload_n 0, 1) := by decide +kernel
theorem dX6_addSource_34 : decode cX6_addSource 34 = .ok (.getfield 93, 3) := by decide +kernel
theorem dX6_addSource_37 : decode cX6_addSource 37 = .ok (.iconst 1, 1) := by decide +kernel
theorem dX6_addSource_38 : decode cX6_addSource 38 = .ok (.isub, 1) := by decide +kernel
theorem dX6_addSource_39 : decode cX6_addSource 39 = .ok (.ireturn, 1) := by decide +kernel
theorem dX6_pairAt_0 : decode cX6_pairAt 0 = .ok (.iconst 0, 1) := by decide +kernel
theorem dX6_pairAt_1 : decode cX6_pairAt 1 = .ok (.istore_n 3, 1) := by decide +kernel
theorem dX6_pairAt_2 : decode cX6_pairAt 2 = .ok (.iload_n 3, 1) := by decide +kernel
theorem dX6_pairAt_3 : decode cX6_pairAt 3 = .ok (.aload_n 0, 1) := by decide +kernel
theorem dX6_pairAt_4 : decode cX6_pairAt 4 = .ok (.getfield 99, 3) := by decide +kernel
theorem dX6_pairAt_7 : decode cX6_pairAt 7 = .ok (.if_icmp .ge 36, 3) := by decide +kernel
theorem dX6_pairAt_10 : decode cX6_pairAt 10 = .ok (.aload_n 0, 1) := by decide +kernel
theorem dX6_pairAt_11 : decode cX6_pairAt 11 = .ok (.getfield 35, 3) := by decide +kernel
theorem dX6_pairAt_14 : decode cX6_pairAt 14 = .ok (.iload_n 3, 1) := by decide +kernel
theorem dX6_pairAt_15 : decode cX6_pairAt 15 = .ok (.iaload, 1) := by decide +kernel
theorem dX6_pairAt_16 : decode cX6_pairAt 16 = .ok (.iload_n 1, 1) := by decide +kernel
theorem dX6_pairAt_17 : decode cX6_pairAt 17 = .ok (.if_icmp .ne 20, 3) := by decide +kernel
theorem dX6_pairAt_20 : decode cX6_pairAt 20 = .ok (.aload_n 0, 1) := by decide +kernel
theorem dX6_pairAt_21 : decode cX6_pairAt 21 = .ok (.getfield 38, 3) := by decide +kernel
theorem dX6_pairAt_24 : decode cX6_pairAt 24 = .ok (.iload_n 3, 1) := by decide +kernel
theorem dX6_pairAt_25 : decode cX6_pairAt 25 = .ok (.iaload, 1) := by decide +kernel
theorem dX6_pairAt_26 : decode cX6_pairAt 26 = .ok (.iload_n 2, 1) := by decide +kernel
theorem dX6_pairAt_27 : decode cX6_pairAt 27 = .ok (.if_icmp .ne 10, 3) := by decide +kernel
theorem dX6_pairAt_30 : decode cX6_pairAt 30 = .ok (.aload_n 0, 1) := by decide +kernel
theorem dX6_pairAt_31 : decode cX6_pairAt 31 = .ok (.getfield 41, 3) := by decide +kernel
theorem dX6_pairAt_34 : decode cX6_pairAt 34 = .ok (.iload_n 3, 1) := by decide +kernel
theorem dX6_pairAt_35 : decode cX6_pairAt 35 = .ok (.iaload, 1) := by decide +kernel
theorem dX6_pairAt_36 : decode cX6_pairAt 36 = .ok (.ireturn, 1) := by decide +kernel
theorem dX6_pairAt_37 : decode cX6_pairAt 37 = .ok (.iinc 3 1, 3) := by decide +kernel
theorem dX6_pairAt_40 : decode cX6_pairAt 40 = .ok (.goto (-38), 3) := by decide +kernel
theorem dX6_pairAt_43 : decode cX6_pairAt 43 = .ok (.iconst (-1), 1) := by decide +kernel
theorem dX6_pairAt_44 : decode cX6_pairAt 44 = .ok (.ireturn, 1) := by decide +kernel
theorem dX6_linkAt_0 : decode cX6_linkAt 0 = .ok (.iconst 0, 1) := by decide +kernel
theorem dX6_linkAt_1 : decode cX6_linkAt 1 = .ok (.istore_n 2, 1) := by decide +kernel
theorem dX6_linkAt_2 : decode cX6_linkAt 2 = .ok (.iload_n 2, 1) := by decide +kernel
theorem dX6_linkAt_3 : decode cX6_linkAt 3 = .ok (.aload_n 0, 1) := by decide +kernel
theorem dX6_linkAt_4 : decode cX6_linkAt 4 = .ok (.getfield 102, 3) := by decide +kernel
theorem dX6_linkAt_7 : decode cX6_linkAt 7 = .ok (.if_icmp .ge 26, 3) := by decide +kernel
theorem dX6_linkAt_10 : decode cX6_linkAt 10 = .ok (.aload_n 0, 1) := by decide +kernel
theorem dX6_linkAt_11 : decode cX6_linkAt 11 = .ok (.getfield 44, 3) := by decide +kernel
theorem dX6_linkAt_14 : decode cX6_linkAt 14 = .ok (.iload_n 2, 1) := by decide +kernel
theorem dX6_linkAt_15 : decode cX6_linkAt 15 = .ok (.iaload, 1) := by decide +kernel
theorem dX6_linkAt_16 : decode cX6_linkAt 16 = .ok (.iload_n 1, 1) := by decide +kernel
theorem dX6_linkAt_17 : decode cX6_linkAt 17 = .ok (.if_icmp .ne 10, 3) := by decide +kernel
theorem dX6_linkAt_20 : decode cX6_linkAt 20 = .ok (.aload_n 0, 1) := by decide +kernel
theorem dX6_linkAt_21 : decode cX6_linkAt 21 = .ok (.getfield 47, 3) := by decide +kernel
theorem dX6_linkAt_24 : decode cX6_linkAt 24 = .ok (.iload_n 2, 1) := by decide +kernel
theorem dX6_linkAt_25 : decode cX6_linkAt 25 = .ok (.iaload, 1) := by decide +kernel
theorem dX6_linkAt_26 : decode cX6_linkAt 26 = .ok (.ireturn, 1) := by decide +kernel
theorem dX6_linkAt_27 : decode cX6_linkAt 27 = .ok (.iinc 2 1, 3) := by decide +kernel
theorem dX6_linkAt_30 : decode cX6_linkAt 30 = .ok (.goto (-28), 3) := by decide +kernel
theorem dX6_linkAt_33 : decode cX6_linkAt 33 = .ok (.iconst (-1), 1) := by decide +kernel
theorem dX6_linkAt_34 : decode cX6_linkAt 34 = .ok (.ireturn, 1) := by decide +kernel
theorem dX6_latest_0 : decode cX6_latest 0 = .ok (.aload_n 0, 1) := by decide +kernel
theorem dX6_latest_1 : decode cX6_latest 1 = .ok (.getfield 7, 3) := by decide +kernel
theorem dX6_latest_4 : decode cX6_latest 4 = .ok (.iconst 4, 1) := by decide +kernel
theorem dX6_latest_5 : decode cX6_latest 5 = .ok (.iload_n 1, 1) := by decide +kernel
theorem dX6_latest_6 : decode cX6_latest 6 = .ok (.imul, 1) := by decide +kernel
theorem dX6_latest_7 : decode cX6_latest 7 = .ok (.aload_n 0, 1) := by decide +kernel
theorem dX6_latest_8 : decode cX6_latest 8 = .ok (.getfield 29, 3) := by decide +kernel
theorem dX6_latest_11 : decode cX6_latest 11 = .ok (.iload_n 1, 1) := by decide +kernel
theorem dX6_latest_12 : decode cX6_latest 12 = .ok (.iaload, 1) := by decide +kernel
theorem dX6_latest_13 : decode cX6_latest 13 = .ok (.iconst 1, 1) := by decide +kernel
theorem dX6_latest_14 : decode cX6_latest 14 = .ok (.isub, 1) := by decide +kernel
theorem dX6_latest_15 : decode cX6_latest 15 = .ok (.iconst 4, 1) := by decide +kernel
theorem dX6_latest_16 : decode cX6_latest 16 = .ok (.irem, 1) := by decide +kernel
theorem dX6_latest_17 : decode cX6_latest 17 = .ok (.iadd, 1) := by decide +kernel
theorem dX6_latest_18 : decode cX6_latest 18 = .ok (.laload, 1) := by decide +kernel
theorem dX6_latest_19 : decode cX6_latest 19 = .ok (.lreturn, 1) := by decide +kernel
theorem dX6_likest_0 : decode cX6_likest 0 = .ok (.iconst (-1), 1) := by decide +kernel
theorem dX6_likest_1 : decode cX6_likest 1 = .ok (.istore_n 3, 1) := by decide +kernel
theorem dX6_likest_2 : decode cX6_likest 2 = .ok (.iconst 0, 1) := by decide +kernel
theorem dX6_likest_3 : decode cX6_likest 3 = .ok (.istore 4, 2) := by decide +kernel
theorem dX6_likest_5 : decode cX6_likest 5 = .ok (.iload 4, 2) := by decide +kernel
theorem dX6_likest_7 : decode cX6_likest 7 = .ok (.aload_n 0, 1) := by decide +kernel
theorem dX6_likest_8 : decode cX6_likest 8 = .ok (.getfield 96, 3) := by decide +kernel
theorem dX6_likest_11 : decode cX6_likest 11 = .ok (.if_icmp .ge 73, 3) := by decide +kernel
theorem dX6_likest_14 : decode cX6_likest 14 = .ok (.lload_n 1, 1) := by decide +kernel
theorem dX6_likest_15 : decode cX6_likest 15 = .ok (.aload_n 0, 1) := by decide +kernel
theorem dX6_likest_16 : decode cX6_likest 16 = .ok (.iload 4, 2) := by decide +kernel
theorem dX6_likest_18 : decode cX6_likest 18 = .ok (.invokevirtual 145, 3) := by decide +kernel
theorem dX6_likest_21 : decode cX6_likest 21 = .ok (.invokestatic 141, 3) := by decide +kernel
theorem dX6_likest_24 : decode cX6_likest 24 = .ok (.istore 5, 2) := by decide +kernel
theorem dX6_likest_26 : decode cX6_likest 26 = .ok (.aload_n 0, 1) := by decide +kernel
theorem dX6_likest_27 : decode cX6_likest 27 = .ok (.getfield 84, 3) := by decide +kernel
theorem dX6_likest_30 : decode cX6_likest 30 = .ok (.aload_n 0, 1) := by decide +kernel
theorem dX6_likest_31 : decode cX6_likest 31 = .ok (.getfield 19, 3) := by decide +kernel
theorem dX6_likest_34 : decode cX6_likest 34 = .ok (.iload 4, 2) := by decide +kernel
theorem dX6_likest_36 : decode cX6_likest 36 = .ok (.iaload, 1) := by decide +kernel
theorem dX6_likest_37 : decode cX6_likest 37 = .ok (.isub, 1) := by decide +kernel
theorem dX6_likest_38 : decode cX6_likest 38 = .ok (.aload_n 0, 1) := by decide +kernel
theorem dX6_likest_39 : decode cX6_likest 39 = .ok (.getfield 90, 3) := by decide +kernel
theorem dX6_likest_42 : decode cX6_likest 42 = .ok (.if_icmp .gt 36, 3) := by decide +kernel
theorem dX6_likest_45 : decode cX6_likest 45 = .ok (.iload 5, 2) := by decide +kernel
theorem dX6_likest_47 : decode cX6_likest 47 = .ok (.aload_n 0, 1) := by decide +kernel
theorem dX6_likest_48 : decode cX6_likest 48 = .ok (.getfield 87, 3) := by decide +kernel
theorem dX6_likest_51 : decode cX6_likest 51 = .ok (.if_icmp .ge 6, 3) := by decide +kernel
theorem dX6_likest_54 : decode cX6_likest 54 = .ok (.goto 24, 3) := by decide +kernel
theorem dX6_likest_57 : decode cX6_likest 57 = .ok (.iload_n 3, 1) := by decide +kernel
theorem dX6_likest_58 : decode cX6_likest 58 = .ok (.ifCond .lt 17, 3) := by decide +kernel
theorem dX6_likest_61 : decode cX6_likest 61 = .ok (.iload 5, 2) := by decide +kernel
theorem dX6_likest_63 : decode cX6_likest 63 = .ok (.lload_n 1, 1) := by decide +kernel
theorem dX6_likest_64 : decode cX6_likest 64 = .ok (.aload_n 0, 1) := by decide +kernel
theorem dX6_likest_65 : decode cX6_likest 65 = .ok (.iload_n 3, 1) := by decide +kernel
theorem dX6_likest_66 : decode cX6_likest 66 = .ok (.invokevirtual 145, 3) := by decide +kernel
theorem dX6_likest_69 : decode cX6_likest 69 = .ok (.invokestatic 141, 3) := by decide +kernel
theorem dX6_likest_72 : decode cX6_likest 72 = .ok (.if_icmp .le 6, 3) := by decide +kernel
theorem dX6_likest_75 : decode cX6_likest 75 = .ok (.iload 4, 2) := by decide +kernel
theorem dX6_likest_77 : decode cX6_likest 77 = .ok (.istore_n 3, 1) := by decide +kernel
theorem dX6_likest_78 : decode cX6_likest 78 = .ok (.iinc 4 1, 3) := by decide +kernel
theorem dX6_likest_81 : decode cX6_likest 81 = .ok (.goto (-76), 3) := by decide +kernel
theorem dX6_likest_84 : decode cX6_likest 84 = .ok (.iload_n 3, 1) := by decide +kernel
theorem dX6_likest_85 : decode cX6_likest 85 = .ok (.ireturn, 1) := by decide +kernel
theorem dX6_found_0 : decode cX6_found 0 = .ok (.iload_n 2, 1) := by decide +kernel
theorem dX6_found_1 : decode cX6_found 1 = .ok (.iconst (-1), 1) := by decide +kernel
theorem dX6_found_2 : decode cX6_found 2 = .ok (.if_icmp .ne 7, 3) := by decide +kernel
theorem dX6_found_5 : decode cX6_found 5 = .ok (.iconst (-1), 1) := by decide +kernel
theorem dX6_found_6 : decode cX6_found 6 = .ok (.goto 9, 3) := by decide +kernel
theorem dX6_found_9 : decode cX6_found 9 = .ok (.aload_n 0, 1) := by decide +kernel
theorem dX6_found_10 : decode cX6_found 10 = .ok (.iload_n 1, 1) := by decide +kernel
theorem dX6_found_11 : decode cX6_found 11 = .ok (.iload_n 2, 1) := by decide +kernel
theorem dX6_found_12 : decode cX6_found 12 = .ok (.invokevirtual 149, 3) := by decide +kernel
theorem dX6_found_15 : decode cX6_found 15 = .ok (.istore 6, 2) := by decide +kernel
theorem dX6_found_17 : decode cX6_found 17 = .ok (.iload 6, 2) := by decide +kernel
theorem dX6_found_19 : decode cX6_found 19 = .ok (.ifCond .ge 15, 3) := by decide +kernel
theorem dX6_found_22 : decode cX6_found 22 = .ok (.iload_n 3, 1) := by decide +kernel
theorem dX6_found_23 : decode cX6_found 23 = .ok (.iconst (-1), 1) := by decide +kernel
theorem dX6_found_24 : decode cX6_found 24 = .ok (.if_icmp .eq 10, 3) := by decide +kernel
theorem dX6_found_27 : decode cX6_found 27 = .ok (.aload_n 0, 1) := by decide +kernel
theorem dX6_found_28 : decode cX6_found 28 = .ok (.iload_n 3, 1) := by decide +kernel
theorem dX6_found_29 : decode cX6_found 29 = .ok (.invokevirtual 153, 3) := by decide +kernel
theorem dX6_found_32 : decode cX6_found 32 = .ok (.istore 6, 2) := by decide +kernel
theorem dX6_found_34 : decode cX6_found 34 = .ok (.iload 6, 2) := by decide +kernel
theorem dX6_found_36 : decode cX6_found 36 = .ok (.ifCond .ge 12, 3) := by decide +kernel
theorem dX6_found_39 : decode cX6_found 39 = .ok (.aload_n 0, 1) := by decide +kernel
theorem dX6_found_40 : decode cX6_found 40 = .ok (.lload 4, 2) := by decide +kernel
theorem dX6_found_42 : decode cX6_found 42 = .ok (.invokevirtual 156, 3) := by decide +kernel
theorem dX6_found_45 : decode cX6_found 45 = .ok (.goto 5, 3) := by decide +kernel
theorem dX6_found_48 : decode cX6_found 48 = .ok (.iload 6, 2) := by decide +kernel
theorem dX6_found_50 : decode cX6_found 50 = .ok (.ireturn, 1) := by decide +kernel
theorem dX6_adds_0 : decode cX6_adds 0 = .ok (.aload_n 0, 1) := by decide +kernel
theorem dX6_adds_1 : decode cX6_adds 1 = .ok (.getfield 19, 3) := by decide +kernel
theorem dX6_adds_4 : decode cX6_adds 4 = .ok (.aload_n 0, 1) := by decide +kernel
theorem dX6_adds_5 : decode cX6_adds 5 = .ok (.getfield 96, 3) := by decide +kernel
theorem dX6_adds_8 : decode cX6_adds 8 = .ok (.aload_n 0, 1) := by decide +kernel
theorem dX6_adds_9 : decode cX6_adds 9 = .ok (.getfield 84, 3) := by decide +kernel
theorem dX6_adds_12 : decode cX6_adds 12 = .ok (.iastore, 1) := by decide +kernel
theorem dX6_adds_13 : decode cX6_adds 13 = .ok (.aload_n 0, 1) := by decide +kernel
theorem dX6_adds_14 : decode cX6_adds 14 = .ok (.getfield 23, 3) := by decide +kernel
theorem dX6_adds_17 : decode cX6_adds 17 = .ok (.aload_n 0, 1) := by decide +kernel
theorem dX6_adds_18 : decode cX6_adds 18 = .ok (.getfield 96, 3) := by decide +kernel
theorem dX6_adds_21 : decode cX6_adds 21 = .ok (.iload_n 3, 1) := by decide +kernel
theorem dX6_adds_22 : decode cX6_adds 22 = .ok (.iconst (-1), 1) := by decide +kernel
theorem dX6_adds_23 : decode cX6_adds 23 = .ok (.if_icmp .eq 27, 3) := by decide +kernel
theorem dX6_adds_26 : decode cX6_adds 26 = .ok (.iload_n 3, 1) := by decide +kernel
theorem dX6_adds_27 : decode cX6_adds 27 = .ok (.aload_n 0, 1) := by decide +kernel
theorem dX6_adds_28 : decode cX6_adds 28 = .ok (.getfield 84, 3) := by decide +kernel
theorem dX6_adds_31 : decode cX6_adds 31 = .ok (.if_icmp .gt 19, 3) := by decide +kernel
theorem dX6_adds_34 : decode cX6_adds 34 = .ok (.iload_n 3, 1) := by decide +kernel
theorem dX6_adds_35 : decode cX6_adds 35 = .ok (.aload_n 0, 1) := by decide +kernel
theorem dX6_adds_36 : decode cX6_adds 36 = .ok (.getfield 84, 3) := by decide +kernel
theorem dX6_adds_39 : decode cX6_adds 39 = .ok (.sipush 1440, 3) := by decide +kernel
theorem dX6_adds_42 : decode cX6_adds 42 = .ok (.isub, 1) := by decide +kernel
theorem dX6_adds_43 : decode cX6_adds 43 = .ok (.if_icmp .lt 7, 3) := by decide +kernel
theorem dX6_adds_46 : decode cX6_adds 46 = .ok (.iload_n 3, 1) := by decide +kernel
theorem dX6_adds_47 : decode cX6_adds 47 = .ok (.goto 7, 3) := by decide +kernel
theorem dX6_adds_50 : decode cX6_adds 50 = .ok (.aload_n 0, 1) := by decide +kernel
theorem dX6_adds_51 : decode cX6_adds 51 = .ok (.getfield 84, 3) := by decide +kernel
theorem dX6_adds_54 : decode cX6_adds 54 = .ok (.iastore, 1) := by decide +kernel
theorem dX6_adds_55 : decode cX6_adds 55 = .ok (.aload_n 0, 1) := by decide +kernel
theorem dX6_adds_56 : decode cX6_adds 56 = .ok (.getfield 26, 3) := by decide +kernel
theorem dX6_adds_59 : decode cX6_adds 59 = .ok (.aload_n 0, 1) := by decide +kernel
theorem dX6_adds_60 : decode cX6_adds 60 = .ok (.getfield 96, 3) := by decide +kernel
theorem dX6_adds_63 : decode cX6_adds 63 = .ok (.iconst 0, 1) := by decide +kernel
theorem dX6_adds_64 : decode cX6_adds 64 = .ok (.iastore, 1) := by decide +kernel
theorem dX6_adds_65 : decode cX6_adds 65 = .ok (.aload_n 0, 1) := by decide +kernel
theorem dX6_adds_66 : decode cX6_adds 66 = .ok (.getfield 29, 3) := by decide +kernel
theorem dX6_adds_69 : decode cX6_adds 69 = .ok (.aload_n 0, 1) := by decide +kernel
theorem dX6_adds_70 : decode cX6_adds 70 = .ok (.getfield 96, 3) := by decide +kernel
theorem dX6_adds_73 : decode cX6_adds 73 = .ok (.iconst 1, 1) := by decide +kernel
theorem dX6_adds_74 : decode cX6_adds 74 = .ok (.iastore, 1) := by decide +kernel
theorem dX6_adds_75 : decode cX6_adds 75 = .ok (.aload_n 0, 1) := by decide +kernel
theorem dX6_adds_76 : decode cX6_adds 76 = .ok (.getfield 32, 3) := by decide +kernel
theorem dX6_adds_79 : decode cX6_adds 79 = .ok (.aload_n 0, 1) := by decide +kernel
theorem dX6_adds_80 : decode cX6_adds 80 = .ok (.getfield 96, 3) := by decide +kernel
theorem dX6_adds_83 : decode cX6_adds 83 = .ok (.iconst 0, 1) := by decide +kernel
theorem dX6_adds_84 : decode cX6_adds 84 = .ok (.iastore, 1) := by decide +kernel
theorem dX6_adds_85 : decode cX6_adds 85 = .ok (.aload_n 0, 1) := by decide +kernel
theorem dX6_adds_86 : decode cX6_adds 86 = .ok (.getfield 7, 3) := by decide +kernel
theorem dX6_adds_89 : decode cX6_adds 89 = .ok (.iconst 4, 1) := by decide +kernel
theorem dX6_adds_90 : decode cX6_adds 90 = .ok (.aload_n 0, 1) := by decide +kernel
theorem dX6_adds_91 : decode cX6_adds 91 = .ok (.getfield 96, 3) := by decide +kernel
theorem dX6_adds_94 : decode cX6_adds 94 = .ok (.imul, 1) := by decide +kernel
theorem dX6_adds_95 : decode cX6_adds 95 = .ok (.lload_n 1, 1) := by decide +kernel
theorem dX6_adds_96 : decode cX6_adds 96 = .ok (.lastore, 1) := by decide +kernel
theorem dX6_adds_97 : decode cX6_adds 97 = .ok (.aload_n 0, 1) := by decide +kernel
theorem dX6_adds_98 : decode cX6_adds 98 = .ok (.dup, 1) := by decide +kernel
theorem dX6_adds_99 : decode cX6_adds 99 = .ok (.getfield 96, 3) := by decide +kernel
theorem dX6_adds_102 : decode cX6_adds 102 = .ok (.iconst 1, 1) := by decide +kernel
theorem dX6_adds_103 : decode cX6_adds 103 = .ok (.iadd, 1) := by decide +kernel
theorem dX6_adds_104 : decode cX6_adds 104 = .ok (.putfield 96, 3) := by decide +kernel
theorem dX6_adds_107 : decode cX6_adds 107 = .ok (.return_, 1) := by decide +kernel
theorem dX6_changes_0 : decode cX6_changes 0 = .ok (.aload_n 0, 1) := by decide +kernel
theorem dX6_changes_1 : decode cX6_changes 1 = .ok (.iload_n 1, 1) := by decide +kernel
theorem dX6_changes_2 : decode cX6_changes 2 = .ok (.invokevirtual 145, 3) := by decide +kernel
theorem dX6_changes_5 : decode cX6_changes 5 = .ok (.lload_n 2, 1) := by decide +kernel
theorem dX6_changes_6 : decode cX6_changes 6 = .ok (.lcmp, 1) := by decide +kernel
theorem dX6_changes_7 : decode cX6_changes 7 = .ok (.ifCond .ne 4, 3) := by decide +kernel
theorem dX6_changes_10 : decode cX6_changes 10 = .ok (.return_, 1) := by decide +kernel
theorem dX6_changes_11 : decode cX6_changes 11 = .ok (.aload_n 0, 1) := by decide +kernel
theorem dX6_changes_12 : decode cX6_changes 12 = .ok (.iload_n 1, 1) := by decide +kernel
theorem dX6_changes_13 : decode cX6_changes 13 = .ok (.invokevirtual 145, 3) := by decide +kernel
theorem dX6_changes_16 : decode cX6_changes 16 = .ok (.lload_n 2, 1) := by decide +kernel
theorem dX6_changes_17 : decode cX6_changes 17 = .ok (.invokestatic 141, 3) := by decide +kernel
theorem dX6_changes_20 : decode cX6_changes 20 = .ok (.aload_n 0, 1) := by decide +kernel
theorem dX6_changes_21 : decode cX6_changes 21 = .ok (.getfield 87, 3) := by decide +kernel
theorem dX6_changes_24 : decode cX6_changes 24 = .ok (.if_icmp .ge 15, 3) := by decide +kernel
theorem dX6_changes_27 : decode cX6_changes 27 = .ok (.aload_n 0, 1) := by decide +kernel
theorem dX6_changes_28 : decode cX6_changes 28 = .ok (.getfield 32, 3) := by decide +kernel
theorem dX6_changes_31 : decode cX6_changes 31 = .ok (.iload_n 1, 1) := by decide +kernel
theorem dX6_changes_32 : decode cX6_changes 32 = .ok (.aload_n 0, 1) := by decide +kernel
theorem dX6_changes_33 : decode cX6_changes 33 = .ok (.getfield 29, 3) := by decide +kernel
theorem dX6_changes_36 : decode cX6_changes 36 = .ok (.iload_n 1, 1) := by decide +kernel
theorem dX6_changes_37 : decode cX6_changes 37 = .ok (.iaload, 1) := by decide +kernel
theorem dX6_changes_38 : decode cX6_changes 38 = .ok (.iastore, 1) := by decide +kernel
theorem dX6_changes_39 : decode cX6_changes 39 = .ok (.aload_n 0, 1) := by decide +kernel
theorem dX6_changes_40 : decode cX6_changes 40 = .ok (.getfield 29, 3) := by decide +kernel
theorem dX6_changes_43 : decode cX6_changes 43 = .ok (.iload_n 1, 1) := by decide +kernel
theorem dX6_changes_44 : decode cX6_changes 44 = .ok (.dup2, 1) := by decide +kernel
theorem dX6_changes_45 : decode cX6_changes 45 = .ok (.iaload, 1) := by decide +kernel
theorem dX6_changes_46 : decode cX6_changes 46 = .ok (.iconst 1, 1) := by decide +kernel
theorem dX6_changes_47 : decode cX6_changes 47 = .ok (.iadd, 1) := by decide +kernel
theorem dX6_changes_48 : decode cX6_changes 48 = .ok (.iastore, 1) := by decide +kernel
theorem dX6_changes_49 : decode cX6_changes 49 = .ok (.aload_n 0, 1) := by decide +kernel
theorem dX6_changes_50 : decode cX6_changes 50 = .ok (.getfield 7, 3) := by decide +kernel
theorem dX6_changes_53 : decode cX6_changes 53 = .ok (.iconst 4, 1) := by decide +kernel
theorem dX6_changes_54 : decode cX6_changes 54 = .ok (.iload_n 1, 1) := by decide +kernel
theorem dX6_changes_55 : decode cX6_changes 55 = .ok (.imul, 1) := by decide +kernel
theorem dX6_changes_56 : decode cX6_changes 56 = .ok (.aload_n 0, 1) := by decide +kernel
theorem dX6_changes_57 : decode cX6_changes 57 = .ok (.getfield 29, 3) := by decide +kernel
theorem dX6_changes_60 : decode cX6_changes 60 = .ok (.iload_n 1, 1) := by decide +kernel
theorem dX6_changes_61 : decode cX6_changes 61 = .ok (.iaload, 1) := by decide +kernel
theorem dX6_changes_62 : decode cX6_changes 62 = .ok (.iconst 1, 1) := by decide +kernel
theorem dX6_changes_63 : decode cX6_changes 63 = .ok (.isub, 1) := by decide +kernel
theorem dX6_changes_64 : decode cX6_changes 64 = .ok (.iconst 4, 1) := by decide +kernel
theorem dX6_changes_65 : decode cX6_changes 65 = .ok (.irem, 1) := by decide +kernel
theorem dX6_changes_66 : decode cX6_changes 66 = .ok (.iadd, 1) := by decide +kernel
theorem dX6_changes_67 : decode cX6_changes 67 = .ok (.lload_n 2, 1) := by decide +kernel
theorem dX6_changes_68 : decode cX6_changes 68 = .ok (.lastore, 1) := by decide +kernel
theorem dX6_changes_69 : decode cX6_changes 69 = .ok (.return_, 1) := by decide +kernel
theorem dX6_fetch_0 : decode cX6_fetch 0 = .ok (.aload_n 0, 1) := by decide +kernel
theorem dX6_fetch_1 : decode cX6_fetch 1 = .ok (.iload_n 1, 1) := by decide +kernel
theorem dX6_fetch_2 : decode cX6_fetch 2 = .ok (.iconst 0, 1) := by decide +kernel
theorem dX6_fetch_3 : decode cX6_fetch 3 = .ok (.aload_n 0, 1) := by decide +kernel
theorem dX6_fetch_4 : decode cX6_fetch 4 = .ok (.getfield 93, 3) := by decide +kernel
theorem dX6_fetch_7 : decode cX6_fetch 7 = .ok (.iconst 1, 1) := by decide +kernel
theorem dX6_fetch_8 : decode cX6_fetch 8 = .ok (.isub, 1) := by decide +kernel
theorem dX6_fetch_9 : decode cX6_fetch 9 = .ok (.invokestatic 128, 3) := by decide +kernel
theorem dX6_fetch_12 : decode cX6_fetch 12 = .ok (.ifCond .ne 7, 3) := by decide +kernel
theorem dX6_fetch_15 : decode cX6_fetch 15 = .ok (.iconst 1, 1) := by decide +kernel
theorem dX6_fetch_16 : decode cX6_fetch 16 = .ok (.goto 48, 3) := by decide +kernel
theorem dX6_fetch_19 : decode cX6_fetch 19 = .ok (.iload_n 2, 1) := by decide +kernel
theorem dX6_fetch_20 : decode cX6_fetch 20 = .ok (.iconst (-1), 1) := by decide +kernel
theorem dX6_fetch_21 : decode cX6_fetch 21 = .ok (.sipush 999, 3) := by decide +kernel
theorem dX6_fetch_24 : decode cX6_fetch 24 = .ok (.invokestatic 128, 3) := by decide +kernel
theorem dX6_fetch_27 : decode cX6_fetch 27 = .ok (.ifCond .eq 32, 3) := by decide +kernel
theorem dX6_fetch_30 : decode cX6_fetch 30 = .ok (.iload_n 3, 1) := by decide +kernel
theorem dX6_fetch_31 : decode cX6_fetch 31 = .ok (.iconst (-1), 1) := by decide +kernel
theorem dX6_fetch_32 : decode cX6_fetch 32 = .ok (.sipush 999, 3) := by decide +kernel
theorem dX6_fetch_35 : decode cX6_fetch 35 = .ok (.invokestatic 128, 3) := by decide +kernel
theorem dX6_fetch_38 : decode cX6_fetch 38 = .ok (.ifCond .eq 21, 3) := by decide +kernel
theorem dX6_fetch_41 : decode cX6_fetch 41 = .ok (.iload 6, 2) := by decide +kernel
theorem dX6_fetch_43 : decode cX6_fetch 43 = .ok (.iconst (-1), 1) := by decide +kernel
theorem dX6_fetch_44 : decode cX6_fetch 44 = .ok (.ldc 132, 2) := by decide +kernel
theorem dX6_fetch_46 : decode cX6_fetch 46 = .ok (.invokestatic 128, 3) := by decide +kernel
theorem dX6_fetch_49 : decode cX6_fetch 49 = .ok (.ifCond .eq 10, 3) := by decide +kernel
theorem dX6_fetch_52 : decode cX6_fetch 52 = .ok (.lload 4, 2) := by decide +kernel
theorem dX6_fetch_54 : decode cX6_fetch 54 = .ok (.lconst 0, 1) := by decide +kernel
theorem dX6_fetch_55 : decode cX6_fetch 55 = .ok (.lcmp, 1) := by decide +kernel
theorem dX6_fetch_56 : decode cX6_fetch 56 = .ok (.ifCond .ne 7, 3) := by decide +kernel
theorem dX6_fetch_59 : decode cX6_fetch 59 = .ok (.iconst 2, 1) := by decide +kernel
theorem dX6_fetch_60 : decode cX6_fetch 60 = .ok (.goto 4, 3) := by decide +kernel
theorem dX6_fetch_63 : decode cX6_fetch 63 = .ok (.iconst 0, 1) := by decide +kernel
theorem dX6_fetch_64 : decode cX6_fetch 64 = .ok (.putfield 80, 3) := by decide +kernel
theorem dX6_fetch_67 : decode cX6_fetch 67 = .ok (.aload_n 0, 1) := by decide +kernel
theorem dX6_fetch_68 : decode cX6_fetch 68 = .ok (.getfield 80, 3) := by decide +kernel
theorem dX6_fetch_71 : decode cX6_fetch 71 = .ok (.ifCond .le 5, 3) := by decide +kernel
theorem dX6_fetch_74 : decode cX6_fetch 74 = .ok (.iconst 0, 1) := by decide +kernel
theorem dX6_fetch_75 : decode cX6_fetch 75 = .ok (.ireturn, 1) := by decide +kernel
theorem dX6_fetch_76 : decode cX6_fetch 76 = .ok (.aload_n 0, 1) := by decide +kernel
theorem dX6_fetch_77 : decode cX6_fetch 77 = .ok (.iload_n 1, 1) := by decide +kernel
theorem dX6_fetch_78 : decode cX6_fetch 78 = .ok (.iload_n 2, 1) := by decide +kernel
theorem dX6_fetch_79 : decode cX6_fetch 79 = .ok (.iload_n 3, 1) := by decide +kernel
theorem dX6_fetch_80 : decode cX6_fetch 80 = .ok (.lload 4, 2) := by decide +kernel
theorem dX6_fetch_82 : decode cX6_fetch 82 = .ok (.invokevirtual 159, 3) := by decide +kernel
theorem dX6_fetch_85 : decode cX6_fetch 85 = .ok (.istore 7, 2) := by decide +kernel
theorem dX6_fetch_87 : decode cX6_fetch 87 = .ok (.aload_n 0, 1) := by decide +kernel
theorem dX6_fetch_88 : decode cX6_fetch 88 = .ok (.iload 7, 2) := by decide +kernel
theorem dX6_fetch_90 : decode cX6_fetch 90 = .ok (.ifCond .ge 16, 3) := by decide +kernel
theorem dX6_fetch_93 : decode cX6_fetch 93 = .ok (.aload_n 0, 1) := by decide +kernel
theorem dX6_fetch_94 : decode cX6_fetch 94 = .ok (.getfield 96, 3) := by decide +kernel
theorem dX6_fetch_97 : decode cX6_fetch 97 = .ok (.bipush 30, 2) := by decide +kernel
theorem dX6_fetch_99 : decode cX6_fetch 99 = .ok (.if_icmp .ne 7, 3) := by decide +kernel
theorem dX6_fetch_102 : decode cX6_fetch 102 = .ok (.iconst 3, 1) := by decide +kernel
theorem dX6_fetch_103 : decode cX6_fetch 103 = .ok (.goto 4, 3) := by decide +kernel
theorem dX6_fetch_106 : decode cX6_fetch 106 = .ok (.iconst 0, 1) := by decide +kernel
theorem dX6_fetch_107 : decode cX6_fetch 107 = .ok (.putfield 80, 3) := by decide +kernel
theorem dX6_fetch_110 : decode cX6_fetch 110 = .ok (.aload_n 0, 1) := by decide +kernel
theorem dX6_fetch_111 : decode cX6_fetch 111 = .ok (.getfield 80, 3) := by decide +kernel
theorem dX6_fetch_114 : decode cX6_fetch 114 = .ok (.ifCond .le 5, 3) := by decide +kernel
theorem dX6_fetch_117 : decode cX6_fetch 117 = .ok (.iconst 0, 1) := by decide +kernel
theorem dX6_fetch_118 : decode cX6_fetch 118 = .ok (.ireturn, 1) := by decide +kernel
theorem dX6_fetch_119 : decode cX6_fetch 119 = .ok (.iload 7, 2) := by decide +kernel
theorem dX6_fetch_121 : decode cX6_fetch 121 = .ok (.ifCond .ge 20, 3) := by decide +kernel
theorem dX6_fetch_124 : decode cX6_fetch 124 = .ok (.aload_n 0, 1) := by decide +kernel
theorem dX6_fetch_125 : decode cX6_fetch 125 = .ok (.getfield 96, 3) := by decide +kernel
theorem dX6_fetch_128 : decode cX6_fetch 128 = .ok (.istore 7, 2) := by decide +kernel
theorem dX6_fetch_130 : decode cX6_fetch 130 = .ok (.aload_n 0, 1) := by decide +kernel
theorem dX6_fetch_131 : decode cX6_fetch 131 = .ok (.lload 4, 2) := by decide +kernel
theorem dX6_fetch_133 : decode cX6_fetch 133 = .ok (.iload 6, 2) := by decide +kernel
theorem dX6_fetch_135 : decode cX6_fetch 135 = .ok (.invokevirtual 163, 3) := by decide +kernel
theorem dX6_fetch_138 : decode cX6_fetch 138 = .ok (.goto 11, 3) := by decide +kernel
theorem dX6_fetch_141 : decode cX6_fetch 141 = .ok (.aload_n 0, 1) := by decide +kernel
theorem dX6_fetch_142 : decode cX6_fetch 142 = .ok (.iload 7, 2) := by decide +kernel
theorem dX6_fetch_144 : decode cX6_fetch 144 = .ok (.lload 4, 2) := by decide +kernel
theorem dX6_fetch_146 : decode cX6_fetch 146 = .ok (.invokevirtual 167, 3) := by decide +kernel
theorem dX6_fetch_149 : decode cX6_fetch 149 = .ok (.aload_n 0, 1) := by decide +kernel
theorem dX6_fetch_150 : decode cX6_fetch 150 = .ok (.getfield 26, 3) := by decide +kernel
theorem dX6_fetch_153 : decode cX6_fetch 153 = .ok (.iload 7, 2) := by decide +kernel
theorem dX6_fetch_155 : decode cX6_fetch 155 = .ok (.dup2, 1) := by decide +kernel
theorem dX6_fetch_156 : decode cX6_fetch 156 = .ok (.iaload, 1) := by decide +kernel
theorem dX6_fetch_157 : decode cX6_fetch 157 = .ok (.iconst 1, 1) := by decide +kernel
theorem dX6_fetch_158 : decode cX6_fetch 158 = .ok (.iload_n 1, 1) := by decide +kernel
theorem dX6_fetch_159 : decode cX6_fetch 159 = .ok (.ishl, 1) := by decide +kernel
theorem dX6_fetch_160 : decode cX6_fetch 160 = .ok (.ior, 1) := by decide +kernel
theorem dX6_fetch_161 : decode cX6_fetch 161 = .ok (.iastore, 1) := by decide +kernel
theorem dX6_fetch_162 : decode cX6_fetch 162 = .ok (.iload_n 2, 1) := by decide +kernel
theorem dX6_fetch_163 : decode cX6_fetch 163 = .ok (.iconst (-1), 1) := by decide +kernel
theorem dX6_fetch_164 : decode cX6_fetch 164 = .ok (.if_icmp .eq 53, 3) := by decide +kernel
theorem dX6_fetch_167 : decode cX6_fetch 167 = .ok (.aload_n 0, 1) := by decide +kernel
theorem dX6_fetch_168 : decode cX6_fetch 168 = .ok (.iload_n 1, 1) := by decide +kernel
theorem dX6_fetch_169 : decode cX6_fetch 169 = .ok (.iload_n 2, 1) := by decide +kernel
theorem dX6_fetch_170 : decode cX6_fetch 170 = .ok (.invokevirtual 149, 3) := by decide +kernel
theorem dX6_fetch_173 : decode cX6_fetch 173 = .ok (.ifCond .ge 44, 3) := by decide +kernel
theorem dX6_fetch_176 : decode cX6_fetch 176 = .ok (.aload_n 0, 1) := by decide +kernel
theorem dX6_fetch_177 : decode cX6_fetch 177 = .ok (.getfield 35, 3) := by decide +kernel
theorem dX6_fetch_180 : decode cX6_fetch 180 = .ok (.aload_n 0, 1) := by decide +kernel
theorem dX6_fetch_181 : decode cX6_fetch 181 = .ok (.getfield 99, 3) := by decide +kernel
theorem dX6_fetch_184 : decode cX6_fetch 184 = .ok (.iload_n 1, 1) := by decide +kernel
theorem dX6_fetch_185 : decode cX6_fetch 185 = .ok (.iastore, 1) := by decide +kernel
theorem dX6_fetch_186 : decode cX6_fetch 186 = .ok (.aload_n 0, 1) := by decide +kernel
theorem dX6_fetch_187 : decode cX6_fetch 187 = .ok (.getfield 38, 3) := by decide +kernel
theorem dX6_fetch_190 : decode cX6_fetch 190 = .ok (.aload_n 0, 1) := by decide +kernel
theorem dX6_fetch_191 : decode cX6_fetch 191 = .ok (.getfield 99, 3) := by decide +kernel
theorem dX6_fetch_194 : decode cX6_fetch 194 = .ok (.iload_n 2, 1) := by decide +kernel
theorem dX6_fetch_195 : decode cX6_fetch 195 = .ok (.iastore, 1) := by decide +kernel
theorem dX6_fetch_196 : decode cX6_fetch 196 = .ok (.aload_n 0, 1) := by decide +kernel
theorem dX6_fetch_197 : decode cX6_fetch 197 = .ok (.getfield 41, 3) := by decide +kernel
theorem dX6_fetch_200 : decode cX6_fetch 200 = .ok (.aload_n 0, 1) := by decide +kernel
theorem dX6_fetch_201 : decode cX6_fetch 201 = .ok (.getfield 99, 3) := by decide +kernel
theorem dX6_fetch_204 : decode cX6_fetch 204 = .ok (.iload 7, 2) := by decide +kernel
theorem dX6_fetch_206 : decode cX6_fetch 206 = .ok (.iastore, 1) := by decide +kernel
theorem dX6_fetch_207 : decode cX6_fetch 207 = .ok (.aload_n 0, 1) := by decide +kernel
theorem dX6_fetch_208 : decode cX6_fetch 208 = .ok (.dup, 1) := by decide +kernel
theorem dX6_fetch_209 : decode cX6_fetch 209 = .ok (.getfield 99, 3) := by decide +kernel
theorem dX6_fetch_212 : decode cX6_fetch 212 = .ok (.iconst 1, 1) := by decide +kernel
theorem dX6_fetch_213 : decode cX6_fetch 213 = .ok (.iadd, 1) := by decide +kernel
theorem dX6_fetch_214 : decode cX6_fetch 214 = .ok (.putfield 99, 3) := by decide +kernel
theorem dX6_fetch_217 : decode cX6_fetch 217 = .ok (.iload_n 3, 1) := by decide +kernel
theorem dX6_fetch_218 : decode cX6_fetch 218 = .ok (.iconst (-1), 1) := by decide +kernel
theorem dX6_fetch_219 : decode cX6_fetch 219 = .ok (.if_icmp .eq 42, 3) := by decide +kernel
theorem dX6_fetch_222 : decode cX6_fetch 222 = .ok (.aload_n 0, 1) := by decide +kernel
theorem dX6_fetch_223 : decode cX6_fetch 223 = .ok (.iload_n 3, 1) := by decide +kernel
theorem dX6_fetch_224 : decode cX6_fetch 224 = .ok (.invokevirtual 153, 3) := by decide +kernel
theorem dX6_fetch_227 : decode cX6_fetch 227 = .ok (.ifCond .ge 34, 3) := by decide +kernel
theorem dX6_fetch_230 : decode cX6_fetch 230 = .ok (.aload_n 0, 1) := by decide +kernel
theorem dX6_fetch_231 : decode cX6_fetch 231 = .ok (.getfield 44, 3) := by decide +kernel
theorem dX6_fetch_234 : decode cX6_fetch 234 = .ok (.aload_n 0, 1) := by decide +kernel
theorem dX6_fetch_235 : decode cX6_fetch 235 = .ok (.getfield 102, 3) := by decide +kernel
theorem dX6_fetch_238 : decode cX6_fetch 238 = .ok (.iload_n 3, 1) := by decide +kernel
theorem dX6_fetch_239 : decode cX6_fetch 239 = .ok (.iastore, 1) := by decide +kernel
theorem dX6_fetch_240 : decode cX6_fetch 240 = .ok (.aload_n 0, 1) := by decide +kernel
theorem dX6_fetch_241 : decode cX6_fetch 241 = .ok (.getfield 47, 3) := by decide +kernel
theorem dX6_fetch_244 : decode cX6_fetch 244 = .ok (.aload_n 0, 1) := by decide +kernel
theorem dX6_fetch_245 : decode cX6_fetch 245 = .ok (.getfield 102, 3) := by decide +kernel
theorem dX6_fetch_248 : decode cX6_fetch 248 = .ok (.iload 7, 2) := by decide +kernel
theorem dX6_fetch_250 : decode cX6_fetch 250 = .ok (.iastore, 1) := by decide +kernel
theorem dX6_fetch_251 : decode cX6_fetch 251 = .ok (.aload_n 0, 1) := by decide +kernel
theorem dX6_fetch_252 : decode cX6_fetch 252 = .ok (.dup, 1) := by decide +kernel
theorem dX6_fetch_253 : decode cX6_fetch 253 = .ok (.getfield 102, 3) := by decide +kernel
theorem dX6_fetch_256 : decode cX6_fetch 256 = .ok (.iconst 1, 1) := by decide +kernel
theorem dX6_fetch_257 : decode cX6_fetch 257 = .ok (.iadd, 1) := by decide +kernel
theorem dX6_fetch_258 : decode cX6_fetch 258 = .ok (.putfield 102, 3) := by decide +kernel
theorem dX6_fetch_261 : decode cX6_fetch 261 = .ok (.iload 7, 2) := by decide +kernel
theorem dX6_fetch_263 : decode cX6_fetch 263 = .ok (.ireturn, 1) := by decide +kernel
theorem dX6_items_0 : decode cX6_items 0 = .ok (.aload_n 0, 1) := by decide +kernel
theorem dX6_items_1 : decode cX6_items 1 = .ok (.aload_n 0, 1) := by decide +kernel
theorem dX6_items_2 : decode cX6_items 2 = .ok (.getfield 96, 3) := by decide +kernel
theorem dX6_items_5 : decode cX6_items 5 = .ok (.invokevirtual 133, 3) := by decide +kernel
theorem dX6_items_8 : decode cX6_items 8 = .ok (.ireturn, 1) := by decide +kernel
theorem dX6_withIdentifier_0 : decode cX6_withIdentifier 0 = .ok (.aload_n 0, 1) := by decide +kernel
theorem dX6_withIdentifier_1 : decode cX6_withIdentifier 1 = .ok (.aload_n 0, 1) := by decide +kernel
theorem dX6_withIdentifier_2 : decode cX6_withIdentifier 2 = .ok (.iload_n 1, 1) := by decide +kernel
theorem dX6_withIdentifier_3 : decode cX6_withIdentifier 3 = .ok (.iload_n 2, 1) := by decide +kernel
theorem dX6_withIdentifier_4 : decode cX6_withIdentifier 4 = .ok (.invokevirtual 149, 3) := by decide +kernel
theorem dX6_withIdentifier_7 : decode cX6_withIdentifier 7 = .ok (.ifCond .lt 7, 3) := by decide +kernel
theorem dX6_withIdentifier_10 : decode cX6_withIdentifier 10 = .ok (.iconst 1, 1) := by decide +kernel
theorem dX6_withIdentifier_11 : decode cX6_withIdentifier 11 = .ok (.goto 4, 3) := by decide +kernel
theorem dX6_withIdentifier_14 : decode cX6_withIdentifier 14 = .ok (.iconst 0, 1) := by decide +kernel
theorem dX6_withIdentifier_15 : decode cX6_withIdentifier 15 = .ok (.invokevirtual 137, 3) := by decide +kernel
theorem dX6_withIdentifier_18 : decode cX6_withIdentifier 18 = .ok (.ifCond .le 7, 3) := by decide +kernel
theorem dX6_withIdentifier_21 : decode cX6_withIdentifier 21 = .ok (.iconst 0, 1) := by decide +kernel
theorem dX6_withIdentifier_22 : decode cX6_withIdentifier 22 = .ok (.goto 9, 3) := by decide +kernel
theorem dX6_withIdentifier_25 : decode cX6_withIdentifier 25 = .ok (.aload_n 0, 1) := by decide +kernel
theorem dX6_withIdentifier_26 : decode cX6_withIdentifier 26 = .ok (.iload_n 1, 1) := by decide +kernel
theorem dX6_withIdentifier_27 : decode cX6_withIdentifier 27 = .ok (.iload_n 2, 1) := by decide +kernel
theorem dX6_withIdentifier_28 : decode cX6_withIdentifier 28 = .ok (.invokevirtual 149, 3) := by decide +kernel
theorem dX6_withIdentifier_31 : decode cX6_withIdentifier 31 = .ok (.ireturn, 1) := by decide +kernel
theorem dX6_withLink_0 : decode cX6_withLink 0 = .ok (.aload_n 0, 1) := by decide +kernel
theorem dX6_withLink_1 : decode cX6_withLink 1 = .ok (.aload_n 0, 1) := by decide +kernel
theorem dX6_withLink_2 : decode cX6_withLink 2 = .ok (.iload_n 1, 1) := by decide +kernel
theorem dX6_withLink_3 : decode cX6_withLink 3 = .ok (.invokevirtual 153, 3) := by decide +kernel
theorem dX6_withLink_6 : decode cX6_withLink 6 = .ok (.ifCond .lt 7, 3) := by decide +kernel
theorem dX6_withLink_9 : decode cX6_withLink 9 = .ok (.iconst 1, 1) := by decide +kernel
theorem dX6_withLink_10 : decode cX6_withLink 10 = .ok (.goto 4, 3) := by decide +kernel
theorem dX6_withLink_13 : decode cX6_withLink 13 = .ok (.iconst 0, 1) := by decide +kernel
theorem dX6_withLink_14 : decode cX6_withLink 14 = .ok (.invokevirtual 137, 3) := by decide +kernel
theorem dX6_withLink_17 : decode cX6_withLink 17 = .ok (.ifCond .le 7, 3) := by decide +kernel
theorem dX6_withLink_20 : decode cX6_withLink 20 = .ok (.iconst 0, 1) := by decide +kernel
theorem dX6_withLink_21 : decode cX6_withLink 21 = .ok (.goto 8, 3) := by decide +kernel
theorem dX6_withLink_24 : decode cX6_withLink 24 = .ok (.aload_n 0, 1) := by decide +kernel
theorem dX6_withLink_25 : decode cX6_withLink 25 = .ok (.iload_n 1, 1) := by decide +kernel
theorem dX6_withLink_26 : decode cX6_withLink 26 = .ok (.invokevirtual 153, 3) := by decide +kernel
theorem dX6_withLink_29 : decode cX6_withLink 29 = .ok (.ireturn, 1) := by decide +kernel
theorem dX6_isItem_0 : decode cX6_isItem 0 = .ok (.iload_n 1, 1) := by decide +kernel
theorem dX6_isItem_1 : decode cX6_isItem 1 = .ok (.iconst 0, 1) := by decide +kernel
theorem dX6_isItem_2 : decode cX6_isItem 2 = .ok (.aload_n 0, 1) := by decide +kernel
theorem dX6_isItem_3 : decode cX6_isItem 3 = .ok (.getfield 96, 3) := by decide +kernel
theorem dX6_isItem_6 : decode cX6_isItem 6 = .ok (.iconst 1, 1) := by decide +kernel
theorem dX6_isItem_7 : decode cX6_isItem 7 = .ok (.isub, 1) := by decide +kernel
theorem dX6_isItem_8 : decode cX6_isItem 8 = .ok (.invokestatic 128, 3) := by decide +kernel
theorem dX6_isItem_11 : decode cX6_isItem 11 = .ok (.ireturn, 1) := by decide +kernel
theorem dX6_title_0 : decode cX6_title 0 = .ok (.aload_n 0, 1) := by decide +kernel
theorem dX6_title_1 : decode cX6_title 1 = .ok (.aload_n 0, 1) := by decide +kernel
theorem dX6_title_2 : decode cX6_title 2 = .ok (.iload_n 1, 1) := by decide +kernel
theorem dX6_title_3 : decode cX6_title 3 = .ok (.invokevirtual 171, 3) := by decide +kernel
theorem dX6_title_6 : decode cX6_title 6 = .ok (.ifCond .ne 7, 3) := by decide +kernel
theorem dX6_title_9 : decode cX6_title 9 = .ok (.iconst 1, 1) := by decide +kernel
theorem dX6_title_10 : decode cX6_title 10 = .ok (.goto 36, 3) := by decide +kernel
theorem dX6_title_13 : decode cX6_title 13 = .ok (.iload_n 2, 1) := by decide +kernel
theorem dX6_title_14 : decode cX6_title 14 = .ok (.iconst 0, 1) := by decide +kernel
theorem dX6_title_15 : decode cX6_title 15 = .ok (.aload_n 0, 1) := by decide +kernel
theorem dX6_title_16 : decode cX6_title 16 = .ok (.getfield 29, 3) := by decide +kernel
theorem dX6_title_19 : decode cX6_title 19 = .ok (.iload_n 1, 1) := by decide +kernel
theorem dX6_title_20 : decode cX6_title 20 = .ok (.iaload, 1) := by decide +kernel
theorem dX6_title_21 : decode cX6_title 21 = .ok (.iconst 1, 1) := by decide +kernel
theorem dX6_title_22 : decode cX6_title 22 = .ok (.isub, 1) := by decide +kernel
theorem dX6_title_23 : decode cX6_title 23 = .ok (.invokestatic 128, 3) := by decide +kernel
theorem dX6_title_26 : decode cX6_title 26 = .ok (.ifCond .eq 15, 3) := by decide +kernel
theorem dX6_title_29 : decode cX6_title 29 = .ok (.iload_n 2, 1) := by decide +kernel
theorem dX6_title_30 : decode cX6_title 30 = .ok (.aload_n 0, 1) := by decide +kernel
theorem dX6_title_31 : decode cX6_title 31 = .ok (.getfield 29, 3) := by decide +kernel
theorem dX6_title_34 : decode cX6_title 34 = .ok (.iload_n 1, 1) := by decide +kernel
theorem dX6_title_35 : decode cX6_title 35 = .ok (.iaload, 1) := by decide +kernel
theorem dX6_title_36 : decode cX6_title 36 = .ok (.iconst 4, 1) := by decide +kernel
theorem dX6_title_37 : decode cX6_title 37 = .ok (.isub, 1) := by decide +kernel
theorem dX6_title_38 : decode cX6_title 38 = .ok (.if_icmp .ge 7, 3) := by decide +kernel
theorem dX6_title_41 : decode cX6_title 41 = .ok (.iconst 2, 1) := by decide +kernel
theorem dX6_title_42 : decode cX6_title 42 = .ok (.goto 4, 3) := by decide +kernel
theorem dX6_title_45 : decode cX6_title 45 = .ok (.iconst 0, 1) := by decide +kernel
theorem dX6_title_46 : decode cX6_title 46 = .ok (.putfield 80, 3) := by decide +kernel
theorem dX6_title_49 : decode cX6_title 49 = .ok (.aload_n 0, 1) := by decide +kernel
theorem dX6_title_50 : decode cX6_title 50 = .ok (.getfield 80, 3) := by decide +kernel
theorem dX6_title_53 : decode cX6_title 53 = .ok (.ifCond .le 7, 3) := by decide +kernel
theorem dX6_title_56 : decode cX6_title 56 = .ok (.lconst 0, 1) := by decide +kernel
theorem dX6_title_57 : decode cX6_title 57 = .ok (.goto 15, 3) := by decide +kernel
theorem dX6_title_60 : decode cX6_title 60 = .ok (.aload_n 0, 1) := by decide +kernel
theorem dX6_title_61 : decode cX6_title 61 = .ok (.getfield 7, 3) := by decide +kernel
theorem dX6_title_64 : decode cX6_title 64 = .ok (.iconst 4, 1) := by decide +kernel
theorem dX6_title_65 : decode cX6_title 65 = .ok (.iload_n 1, 1) := by decide +kernel
theorem dX6_title_66 : decode cX6_title 66 = .ok (.imul, 1) := by decide +kernel
theorem dX6_title_67 : decode cX6_title 67 = .ok (.iload_n 2, 1) := by decide +kernel
theorem dX6_title_68 : decode cX6_title 68 = .ok (.iconst 4, 1) := by decide +kernel
theorem dX6_title_69 : decode cX6_title 69 = .ok (.irem, 1) := by decide +kernel
theorem dX6_title_70 : decode cX6_title 70 = .ok (.iadd, 1) := by decide +kernel
theorem dX6_title_71 : decode cX6_title 71 = .ok (.laload, 1) := by decide +kernel
theorem dX6_title_72 : decode cX6_title 72 = .ok (.lreturn, 1) := by decide +kernel
theorem dX6_versions_0 : decode cX6_versions 0 = .ok (.aload_n 0, 1) := by decide +kernel
theorem dX6_versions_1 : decode cX6_versions 1 = .ok (.aload_n 0, 1) := by decide +kernel
theorem dX6_versions_2 : decode cX6_versions 2 = .ok (.iload_n 1, 1) := by decide +kernel
theorem dX6_versions_3 : decode cX6_versions 3 = .ok (.invokevirtual 171, 3) := by decide +kernel
theorem dX6_versions_6 : decode cX6_versions 6 = .ok (.invokevirtual 137, 3) := by decide +kernel
theorem dX6_versions_9 : decode cX6_versions 9 = .ok (.ifCond .le 7, 3) := by decide +kernel
theorem dX6_versions_12 : decode cX6_versions 12 = .ok (.iconst 0, 1) := by decide +kernel
theorem dX6_versions_13 : decode cX6_versions 13 = .ok (.goto 9, 3) := by decide +kernel
theorem dX6_versions_16 : decode cX6_versions 16 = .ok (.aload_n 0, 1) := by decide +kernel
theorem dX6_versions_17 : decode cX6_versions 17 = .ok (.getfield 29, 3) := by decide +kernel
theorem dX6_versions_20 : decode cX6_versions 20 = .ok (.iload_n 1, 1) := by decide +kernel
theorem dX6_versions_21 : decode cX6_versions 21 = .ok (.iaload, 1) := by decide +kernel
theorem dX6_versions_22 : decode cX6_versions 22 = .ok (.ireturn, 1) := by decide +kernel
theorem dX6_latestMajor_0 : decode cX6_latestMajor 0 = .ok (.aload_n 0, 1) := by decide +kernel
theorem dX6_latestMajor_1 : decode cX6_latestMajor 1 = .ok (.aload_n 0, 1) := by decide +kernel
theorem dX6_latestMajor_2 : decode cX6_latestMajor 2 = .ok (.iload_n 1, 1) := by decide +kernel
theorem dX6_latestMajor_3 : decode cX6_latestMajor 3 = .ok (.invokevirtual 171, 3) := by decide +kernel
theorem dX6_latestMajor_6 : decode cX6_latestMajor 6 = .ok (.invokevirtual 137, 3) := by decide +kernel
theorem dX6_latestMajor_9 : decode cX6_latestMajor 9 = .ok (.ifCond .le 7, 3) := by decide +kernel
theorem dX6_latestMajor_12 : decode cX6_latestMajor 12 = .ok (.iconst 0, 1) := by decide +kernel
theorem dX6_latestMajor_13 : decode cX6_latestMajor 13 = .ok (.goto 9, 3) := by decide +kernel
theorem dX6_latestMajor_16 : decode cX6_latestMajor 16 = .ok (.aload_n 0, 1) := by decide +kernel
theorem dX6_latestMajor_17 : decode cX6_latestMajor 17 = .ok (.getfield 32, 3) := by decide +kernel
theorem dX6_latestMajor_20 : decode cX6_latestMajor 20 = .ok (.iload_n 1, 1) := by decide +kernel
theorem dX6_latestMajor_21 : decode cX6_latestMajor 21 = .ok (.iaload, 1) := by decide +kernel
theorem dX6_latestMajor_22 : decode cX6_latestMajor 22 = .ok (.ireturn, 1) := by decide +kernel
theorem dX6_sourcesOf_0 : decode cX6_sourcesOf 0 = .ok (.aload_n 0, 1) := by decide +kernel
theorem dX6_sourcesOf_1 : decode cX6_sourcesOf 1 = .ok (.aload_n 0, 1) := by decide +kernel
theorem dX6_sourcesOf_2 : decode cX6_sourcesOf 2 = .ok (.iload_n 1, 1) := by decide +kernel
theorem dX6_sourcesOf_3 : decode cX6_sourcesOf 3 = .ok (.invokevirtual 171, 3) := by decide +kernel
theorem dX6_sourcesOf_6 : decode cX6_sourcesOf 6 = .ok (.invokevirtual 137, 3) := by decide +kernel
theorem dX6_sourcesOf_9 : decode cX6_sourcesOf 9 = .ok (.ifCond .le 7, 3) := by decide +kernel
theorem dX6_sourcesOf_12 : decode cX6_sourcesOf 12 = .ok (.iconst 0, 1) := by decide +kernel
theorem dX6_sourcesOf_13 : decode cX6_sourcesOf 13 = .ok (.goto 9, 3) := by decide +kernel
theorem dX6_sourcesOf_16 : decode cX6_sourcesOf 16 = .ok (.aload_n 0, 1) := by decide +kernel
theorem dX6_sourcesOf_17 : decode cX6_sourcesOf 17 = .ok (.getfield 26, 3) := by decide +kernel
theorem dX6_sourcesOf_20 : decode cX6_sourcesOf 20 = .ok (.iload_n 1, 1) := by decide +kernel
theorem dX6_sourcesOf_21 : decode cX6_sourcesOf 21 = .ok (.iaload, 1) := by decide +kernel
theorem dX6_sourcesOf_22 : decode cX6_sourcesOf 22 = .ok (.ireturn, 1) := by decide +kernel
theorem dX6_timeOf_0 : decode cX6_timeOf 0 = .ok (.aload_n 0, 1) := by decide +kernel
theorem dX6_timeOf_1 : decode cX6_timeOf 1 = .ok (.aload_n 0, 1) := by decide +kernel
theorem dX6_timeOf_2 : decode cX6_timeOf 2 = .ok (.iload_n 1, 1) := by decide +kernel
theorem dX6_timeOf_3 : decode cX6_timeOf 3 = .ok (.invokevirtual 171, 3) := by decide +kernel
theorem dX6_timeOf_6 : decode cX6_timeOf 6 = .ok (.invokevirtual 137, 3) := by decide +kernel
theorem dX6_timeOf_9 : decode cX6_timeOf 9 = .ok (.ifCond .le 7, 3) := by decide +kernel
theorem dX6_timeOf_12 : decode cX6_timeOf 12 = .ok (.iconst 0, 1) := by decide +kernel
theorem dX6_timeOf_13 : decode cX6_timeOf 13 = .ok (.goto 9, 3) := by decide +kernel
theorem dX6_timeOf_16 : decode cX6_timeOf 16 = .ok (.aload_n 0, 1) := by decide +kernel
theorem dX6_timeOf_17 : decode cX6_timeOf 17 = .ok (.getfield 23, 3) := by decide +kernel
theorem dX6_timeOf_20 : decode cX6_timeOf 20 = .ok (.iload_n 1, 1) := by decide +kernel
theorem dX6_timeOf_21 : decode cX6_timeOf 21 = .ok (.iaload, 1) := by decide +kernel
theorem dX6_timeOf_22 : decode cX6_timeOf 22 = .ok (.ireturn, 1) := by decide +kernel
theorem dX6_addRule_0 : decode cX6_addRule 0 = .ok (.aload_n 0, 1) := by decide +kernel
theorem dX6_addRule_1 : decode cX6_addRule 1 = .ok (.iload 5, 2) := by decide +kernel
theorem dX6_addRule_3 : decode cX6_addRule 3 = .ok (.iconst 0, 1) := by decide +kernel
theorem dX6_addRule_4 : decode cX6_addRule 4 = .ok (.bipush 63, 2) := by decide +kernel
theorem dX6_addRule_6 : decode cX6_addRule 6 = .ok (.invokestatic 128, 3) := by decide +kernel
theorem dX6_addRule_9 : decode cX6_addRule 9 = .ok (.ifCond .eq 25, 3) := by decide +kernel
theorem dX6_addRule_12 : decode cX6_addRule 12 = .ok (.iload 6, 2) := by decide +kernel
theorem dX6_addRule_14 : decode cX6_addRule 14 = .ok (.iconst (-1), 1) := by decide +kernel
theorem dX6_addRule_15 : decode cX6_addRule 15 = .ok (.bipush 7, 2) := by decide +kernel
theorem dX6_addRule_17 : decode cX6_addRule 17 = .ok (.invokestatic 128, 3) := by decide +kernel
theorem dX6_addRule_20 : decode cX6_addRule 20 = .ok (.ifCond .eq 14, 3) := by decide +kernel
theorem dX6_addRule_23 : decode cX6_addRule 23 = .ok (.iload 7, 2) := by decide +kernel
theorem dX6_addRule_25 : decode cX6_addRule 25 = .ok (.iconst 0, 1) := by decide +kernel
theorem dX6_addRule_26 : decode cX6_addRule 26 = .ok (.bipush 9, 2) := by decide +kernel
theorem dX6_addRule_28 : decode cX6_addRule 28 = .ok (.invokestatic 128, 3) := by decide +kernel
theorem dX6_addRule_31 : decode cX6_addRule 31 = .ok (.ifCond .ne 7, 3) := by decide +kernel
theorem dX6_addRule_34 : decode cX6_addRule 34 = .ok (.iconst 1, 1) := by decide +kernel
theorem dX6_addRule_35 : decode cX6_addRule 35 = .ok (.goto 17, 3) := by decide +kernel
theorem dX6_addRule_38 : decode cX6_addRule 38 = .ok (.aload_n 0, 1) := by decide +kernel
theorem dX6_addRule_39 : decode cX6_addRule 39 = .ok (.getfield 105, 3) := by decide +kernel
theorem dX6_addRule_42 : decode cX6_addRule 42 = .ok (.bipush 6, 2) := by decide +kernel
theorem dX6_addRule_44 : decode cX6_addRule 44 = .ok (.if_icmp .ne 7, 3) := by decide +kernel
theorem dX6_addRule_47 : decode cX6_addRule 47 = .ok (.iconst 2, 1) := by decide +kernel
theorem dX6_addRule_48 : decode cX6_addRule 48 = .ok (.goto 4, 3) := by decide +kernel
theorem dX6_addRule_51 : decode cX6_addRule 51 = .ok (.iconst 0, 1) := by decide +kernel
theorem dX6_addRule_52 : decode cX6_addRule 52 = .ok (.putfield 80, 3) := by decide +kernel
theorem dX6_addRule_55 : decode cX6_addRule 55 = .ok (.aload_n 0, 1) := by decide +kernel
theorem dX6_addRule_56 : decode cX6_addRule 56 = .ok (.getfield 80, 3) := by decide +kernel
theorem dX6_addRule_59 : decode cX6_addRule 59 = .ok (.ifCond .le 5, 3) := by decide +kernel
theorem dX6_addRule_62 : decode cX6_addRule 62 = .ok (.iconst 0, 1) := by decide +kernel
theorem dX6_addRule_63 : decode cX6_addRule 63 = .ok (.ireturn, 1) := by decide +kernel
theorem dX6_addRule_64 : decode cX6_addRule 64 = .ok (.aload_n 0, 1) := by decide +kernel
theorem dX6_addRule_65 : decode cX6_addRule 65 = .ok (.getfield 13, 3) := by decide +kernel
theorem dX6_addRule_68 : decode cX6_addRule 68 = .ok (.aload_n 0, 1) := by decide +kernel
theorem dX6_addRule_69 : decode cX6_addRule 69 = .ok (.getfield 105, 3) := by decide +kernel
theorem dX6_addRule_72 : decode cX6_addRule 72 = .ok (.lload_n 1, 1) := by decide +kernel
theorem dX6_addRule_73 : decode cX6_addRule 73 = .ok (.lastore, 1) := by decide +kernel
theorem dX6_addRule_74 : decode cX6_addRule 74 = .ok (.aload_n 0, 1) := by decide +kernel
theorem dX6_addRule_75 : decode cX6_addRule 75 = .ok (.getfield 16, 3) := by decide +kernel
theorem dX6_addRule_78 : decode cX6_addRule 78 = .ok (.aload_n 0, 1) := by decide +kernel
theorem dX6_addRule_79 : decode cX6_addRule 79 = .ok (.getfield 105, 3) := by decide +kernel
theorem dX6_addRule_82 : decode cX6_addRule 82 = .ok (.lload_n 3, 1) := by decide +kernel
theorem dX6_addRule_83 : decode cX6_addRule 83 = .ok (.lastore, 1) := by decide +kernel
theorem dX6_addRule_84 : decode cX6_addRule 84 = .ok (.aload_n 0, 1) := by decide +kernel
theorem dX6_addRule_85 : decode cX6_addRule 85 = .ok (.getfield 50, 3) := by decide +kernel
theorem dX6_addRule_88 : decode cX6_addRule 88 = .ok (.aload_n 0, 1) := by decide +kernel
theorem dX6_addRule_89 : decode cX6_addRule 89 = .ok (.getfield 105, 3) := by decide +kernel
theorem dX6_addRule_92 : decode cX6_addRule 92 = .ok (.iload 5, 2) := by decide +kernel
theorem dX6_addRule_94 : decode cX6_addRule 94 = .ok (.iastore, 1) := by decide +kernel
theorem dX6_addRule_95 : decode cX6_addRule 95 = .ok (.aload_n 0, 1) := by decide +kernel
theorem dX6_addRule_96 : decode cX6_addRule 96 = .ok (.getfield 53, 3) := by decide +kernel
theorem dX6_addRule_99 : decode cX6_addRule 99 = .ok (.aload_n 0, 1) := by decide +kernel
theorem dX6_addRule_100 : decode cX6_addRule 100 = .ok (.getfield 105, 3) := by decide +kernel
theorem dX6_addRule_103 : decode cX6_addRule 103 = .ok (.iload 6, 2) := by decide +kernel
theorem dX6_addRule_105 : decode cX6_addRule 105 = .ok (.iastore, 1) := by decide +kernel
theorem dX6_addRule_106 : decode cX6_addRule 106 = .ok (.aload_n 0, 1) := by decide +kernel
theorem dX6_addRule_107 : decode cX6_addRule 107 = .ok (.getfield 56, 3) := by decide +kernel
theorem dX6_addRule_110 : decode cX6_addRule 110 = .ok (.aload_n 0, 1) := by decide +kernel
theorem dX6_addRule_111 : decode cX6_addRule 111 = .ok (.getfield 105, 3) := by decide +kernel
theorem dX6_addRule_114 : decode cX6_addRule 114 = .ok (.iload 7, 2) := by decide +kernel
theorem dX6_addRule_116 : decode cX6_addRule 116 = .ok (.iastore, 1) := by decide +kernel
theorem dX6_addRule_117 : decode cX6_addRule 117 = .ok (.aload_n 0, 1) := by decide +kernel
theorem dX6_addRule_118 : decode cX6_addRule 118 = .ok (.dup, 1) := by decide +kernel
theorem dX6_addRule_119 : decode cX6_addRule 119 = .ok (.getfield 105, 3) := by decide +kernel
theorem dX6_addRule_122 : decode cX6_addRule 122 = .ok (.iconst 1, 1) := by decide +kernel
theorem dX6_addRule_123 : decode cX6_addRule 123 = .ok (.iadd, 1) := by decide +kernel
theorem dX6_addRule_124 : decode cX6_addRule 124 = .ok (.putfield 105, 3) := by decide +kernel
theorem dX6_addRule_127 : decode cX6_addRule 127 = .ok (.aload_n 0, 1) := by decide +kernel
theorem dX6_addRule_128 : decode cX6_addRule 128 = .ok (.getfield 105, 3) := by decide +kernel
theorem dX6_addRule_131 : decode cX6_addRule 131 = .ok (.iconst 1, 1) := by decide +kernel
theorem dX6_addRule_132 : decode cX6_addRule 132 = .ok (.isub, 1) := by decide +kernel
theorem dX6_addRule_133 : decode cX6_addRule 133 = .ok (.ireturn, 1) := by decide +kernel
theorem dX6_dropRule_0 : decode cX6_dropRule 0 = .ok (.aload_n 0, 1) := by decide +kernel
theorem dX6_dropRule_1 : decode cX6_dropRule 1 = .ok (.iload_n 1, 1) := by decide +kernel
theorem dX6_dropRule_2 : decode cX6_dropRule 2 = .ok (.iconst 0, 1) := by decide +kernel
theorem dX6_dropRule_3 : decode cX6_dropRule 3 = .ok (.aload_n 0, 1) := by decide +kernel
theorem dX6_dropRule_4 : decode cX6_dropRule 4 = .ok (.getfield 105, 3) := by decide +kernel
theorem dX6_dropRule_7 : decode cX6_dropRule 7 = .ok (.iconst 1, 1) := by decide +kernel
theorem dX6_dropRule_8 : decode cX6_dropRule 8 = .ok (.isub, 1) := by decide +kernel
theorem dX6_dropRule_9 : decode cX6_dropRule 9 = .ok (.invokestatic 128, 3) := by decide +kernel
theorem dX6_dropRule_12 : decode cX6_dropRule 12 = .ok (.invokevirtual 137, 3) := by decide +kernel
theorem dX6_dropRule_15 : decode cX6_dropRule 15 = .ok (.ifCond .le 5, 3) := by decide +kernel
theorem dX6_dropRule_18 : decode cX6_dropRule 18 = .ok (.iconst 0, 1) := by decide +kernel
theorem dX6_dropRule_19 : decode cX6_dropRule 19 = .ok (.ireturn, 1) := by decide +kernel
theorem dX6_dropRule_20 : decode cX6_dropRule 20 = .ok (.aload_n 0, 1) := by decide +kernel
theorem dX6_dropRule_21 : decode cX6_dropRule 21 = .ok (.dup, 1) := by decide +kernel
theorem dX6_dropRule_22 : decode cX6_dropRule 22 = .ok (.getfield 105, 3) := by decide +kernel
theorem dX6_dropRule_25 : decode cX6_dropRule 25 = .ok (.iconst 1, 1) := by decide +kernel
theorem dX6_dropRule_26 : decode cX6_dropRule 26 = .ok (.isub, 1) := by decide +kernel
theorem dX6_dropRule_27 : decode cX6_dropRule 27 = .ok (.putfield 105, 3) := by decide +kernel
theorem dX6_dropRule_30 : decode cX6_dropRule 30 = .ok (.iload_n 1, 1) := by decide +kernel
theorem dX6_dropRule_31 : decode cX6_dropRule 31 = .ok (.istore_n 2, 1) := by decide +kernel
theorem dX6_dropRule_32 : decode cX6_dropRule 32 = .ok (.iload_n 2, 1) := by decide +kernel
theorem dX6_dropRule_33 : decode cX6_dropRule 33 = .ok (.aload_n 0, 1) := by decide +kernel
theorem dX6_dropRule_34 : decode cX6_dropRule 34 = .ok (.getfield 105, 3) := by decide +kernel
theorem dX6_dropRule_37 : decode cX6_dropRule 37 = .ok (.if_icmp .ge 79, 3) := by decide +kernel
theorem dX6_dropRule_40 : decode cX6_dropRule 40 = .ok (.aload_n 0, 1) := by decide +kernel
theorem dX6_dropRule_41 : decode cX6_dropRule 41 = .ok (.getfield 13, 3) := by decide +kernel
theorem dX6_dropRule_44 : decode cX6_dropRule 44 = .ok (.iload_n 2, 1) := by decide +kernel
theorem dX6_dropRule_45 : decode cX6_dropRule 45 = .ok (.aload_n 0, 1) := by decide +kernel
theorem dX6_dropRule_46 : decode cX6_dropRule 46 = .ok (.getfield 13, 3) := by decide +kernel
theorem dX6_dropRule_49 : decode cX6_dropRule 49 = .ok (.iload_n 2, 1) := by decide +kernel
theorem dX6_dropRule_50 : decode cX6_dropRule 50 = .ok (.iconst 1, 1) := by decide +kernel
theorem dX6_dropRule_51 : decode cX6_dropRule 51 = .ok (.iadd, 1) := by decide +kernel
theorem dX6_dropRule_52 : decode cX6_dropRule 52 = .ok (.laload, 1) := by decide +kernel
theorem dX6_dropRule_53 : decode cX6_dropRule 53 = .ok (.lastore, 1) := by decide +kernel
theorem dX6_dropRule_54 : decode cX6_dropRule 54 = .ok (.aload_n 0, 1) := by decide +kernel
theorem dX6_dropRule_55 : decode cX6_dropRule 55 = .ok (.getfield 16, 3) := by decide +kernel
theorem dX6_dropRule_58 : decode cX6_dropRule 58 = .ok (.iload_n 2, 1) := by decide +kernel
theorem dX6_dropRule_59 : decode cX6_dropRule 59 = .ok (.aload_n 0, 1) := by decide +kernel
theorem dX6_dropRule_60 : decode cX6_dropRule 60 = .ok (.getfield 16, 3) := by decide +kernel
theorem dX6_dropRule_63 : decode cX6_dropRule 63 = .ok (.iload_n 2, 1) := by decide +kernel
theorem dX6_dropRule_64 : decode cX6_dropRule 64 = .ok (.iconst 1, 1) := by decide +kernel
theorem dX6_dropRule_65 : decode cX6_dropRule 65 = .ok (.iadd, 1) := by decide +kernel
theorem dX6_dropRule_66 : decode cX6_dropRule 66 = .ok (.laload, 1) := by decide +kernel
theorem dX6_dropRule_67 : decode cX6_dropRule 67 = .ok (.lastore, 1) := by decide +kernel
theorem dX6_dropRule_68 : decode cX6_dropRule 68 = .ok (.aload_n 0, 1) := by decide +kernel
theorem dX6_dropRule_69 : decode cX6_dropRule 69 = .ok (.getfield 50, 3) := by decide +kernel
theorem dX6_dropRule_72 : decode cX6_dropRule 72 = .ok (.iload_n 2, 1) := by decide +kernel
theorem dX6_dropRule_73 : decode cX6_dropRule 73 = .ok (.aload_n 0, 1) := by decide +kernel
theorem dX6_dropRule_74 : decode cX6_dropRule 74 = .ok (.getfield 50, 3) := by decide +kernel
theorem dX6_dropRule_77 : decode cX6_dropRule 77 = .ok (.iload_n 2, 1) := by decide +kernel
theorem dX6_dropRule_78 : decode cX6_dropRule 78 = .ok (.iconst 1, 1) := by decide +kernel
theorem dX6_dropRule_79 : decode cX6_dropRule 79 = .ok (.iadd, 1) := by decide +kernel
theorem dX6_dropRule_80 : decode cX6_dropRule 80 = .ok (.iaload, 1) := by decide +kernel
theorem dX6_dropRule_81 : decode cX6_dropRule 81 = .ok (.iastore, 1) := by decide +kernel
theorem dX6_dropRule_82 : decode cX6_dropRule 82 = .ok (.aload_n 0, 1) := by decide +kernel
theorem dX6_dropRule_83 : decode cX6_dropRule 83 = .ok (.getfield 53, 3) := by decide +kernel
theorem dX6_dropRule_86 : decode cX6_dropRule 86 = .ok (.iload_n 2, 1) := by decide +kernel
theorem dX6_dropRule_87 : decode cX6_dropRule 87 = .ok (.aload_n 0, 1) := by decide +kernel
theorem dX6_dropRule_88 : decode cX6_dropRule 88 = .ok (.getfield 53, 3) := by decide +kernel
theorem dX6_dropRule_91 : decode cX6_dropRule 91 = .ok (.iload_n 2, 1) := by decide +kernel
theorem dX6_dropRule_92 : decode cX6_dropRule 92 = .ok (.iconst 1, 1) := by decide +kernel
theorem dX6_dropRule_93 : decode cX6_dropRule 93 = .ok (.iadd, 1) := by decide +kernel
theorem dX6_dropRule_94 : decode cX6_dropRule 94 = .ok (.iaload, 1) := by decide +kernel
theorem dX6_dropRule_95 : decode cX6_dropRule 95 = .ok (.iastore, 1) := by decide +kernel
theorem dX6_dropRule_96 : decode cX6_dropRule 96 = .ok (.aload_n 0, 1) := by decide +kernel
theorem dX6_dropRule_97 : decode cX6_dropRule 97 = .ok (.getfield 56, 3) := by decide +kernel
theorem dX6_dropRule_100 : decode cX6_dropRule 100 = .ok (.iload_n 2, 1) := by decide +kernel
theorem dX6_dropRule_101 : decode cX6_dropRule 101 = .ok (.aload_n 0, 1) := by decide +kernel
theorem dX6_dropRule_102 : decode cX6_dropRule 102 = .ok (.getfield 56, 3) := by decide +kernel
theorem dX6_dropRule_105 : decode cX6_dropRule 105 = .ok (.iload_n 2, 1) := by decide +kernel
theorem dX6_dropRule_106 : decode cX6_dropRule 106 = .ok (.iconst 1, 1) := by decide +kernel
theorem dX6_dropRule_107 : decode cX6_dropRule 107 = .ok (.iadd, 1) := by decide +kernel
theorem dX6_dropRule_108 : decode cX6_dropRule 108 = .ok (.iaload, 1) := by decide +kernel
theorem dX6_dropRule_109 : decode cX6_dropRule 109 = .ok (.iastore, 1) := by decide +kernel
theorem dX6_dropRule_110 : decode cX6_dropRule 110 = .ok (.iinc 2 1, 3) := by decide +kernel
theorem dX6_dropRule_113 : decode cX6_dropRule 113 = .ok (.goto (-81), 3) := by decide +kernel
theorem dX6_dropRule_116 : decode cX6_dropRule 116 = .ok (.aload_n 0, 1) := by decide +kernel
theorem dX6_dropRule_117 : decode cX6_dropRule 117 = .ok (.getfield 105, 3) := by decide +kernel
theorem dX6_dropRule_120 : decode cX6_dropRule 120 = .ok (.ireturn, 1) := by decide +kernel
theorem dX6_holds_0 : decode cX6_holds 0 = .ok (.aload_n 0, 1) := by decide +kernel
theorem dX6_holds_1 : decode cX6_holds 1 = .ok (.iload_n 2, 1) := by decide +kernel
theorem dX6_holds_2 : decode cX6_holds 2 = .ok (.invokevirtual 145, 3) := by decide +kernel
theorem dX6_holds_5 : decode cX6_holds 5 = .ok (.lstore_n 3, 1) := by decide +kernel
theorem dX6_holds_6 : decode cX6_holds 6 = .ok (.lload_n 3, 1) := by decide +kernel
theorem dX6_holds_7 : decode cX6_holds 7 = .ok (.aload_n 0, 1) := by decide +kernel
theorem dX6_holds_8 : decode cX6_holds 8 = .ok (.getfield 13, 3) := by decide +kernel
theorem dX6_holds_11 : decode cX6_holds 11 = .ok (.iload_n 1, 1) := by decide +kernel
theorem dX6_holds_12 : decode cX6_holds 12 = .ok (.laload, 1) := by decide +kernel
theorem dX6_holds_13 : decode cX6_holds 13 = .ok (.land, 1) := by decide +kernel
theorem dX6_holds_14 : decode cX6_holds 14 = .ok (.aload_n 0, 1) := by decide +kernel
theorem dX6_holds_15 : decode cX6_holds 15 = .ok (.getfield 13, 3) := by decide +kernel
theorem dX6_holds_18 : decode cX6_holds 18 = .ok (.iload_n 1, 1) := by decide +kernel
theorem dX6_holds_19 : decode cX6_holds 19 = .ok (.laload, 1) := by decide +kernel
theorem dX6_holds_20 : decode cX6_holds 20 = .ok (.lcmp, 1) := by decide +kernel
theorem dX6_holds_21 : decode cX6_holds 21 = .ok (.ifCond .ne 31, 3) := by decide +kernel
theorem dX6_holds_24 : decode cX6_holds 24 = .ok (.aload_n 0, 1) := by decide +kernel
theorem dX6_holds_25 : decode cX6_holds 25 = .ok (.getfield 16, 3) := by decide +kernel
theorem dX6_holds_28 : decode cX6_holds 28 = .ok (.iload_n 1, 1) := by decide +kernel
theorem dX6_holds_29 : decode cX6_holds 29 = .ok (.laload, 1) := by decide +kernel
theorem dX6_holds_30 : decode cX6_holds 30 = .ok (.lconst 0, 1) := by decide +kernel
theorem dX6_holds_31 : decode cX6_holds 31 = .ok (.lcmp, 1) := by decide +kernel
theorem dX6_holds_32 : decode cX6_holds 32 = .ok (.ifCond .eq 16, 3) := by decide +kernel
theorem dX6_holds_35 : decode cX6_holds 35 = .ok (.lload_n 3, 1) := by decide +kernel
theorem dX6_holds_36 : decode cX6_holds 36 = .ok (.aload_n 0, 1) := by decide +kernel
theorem dX6_holds_37 : decode cX6_holds 37 = .ok (.getfield 16, 3) := by decide +kernel
theorem dX6_holds_40 : decode cX6_holds 40 = .ok (.iload_n 1, 1) := by decide +kernel
theorem dX6_holds_41 : decode cX6_holds 41 = .ok (.laload, 1) := by decide +kernel
theorem dX6_holds_42 : decode cX6_holds 42 = .ok (.land, 1) := by decide +kernel
theorem dX6_holds_43 : decode cX6_holds 43 = .ok (.lconst 0, 1) := by decide +kernel
theorem dX6_holds_44 : decode cX6_holds 44 = .ok (.lcmp, 1) := by decide +kernel
theorem dX6_holds_45 : decode cX6_holds 45 = .ok (.ifCond .eq 7, 3) := by decide +kernel
theorem dX6_holds_48 : decode cX6_holds 48 = .ok (.iconst 1, 1) := by decide +kernel
theorem dX6_holds_49 : decode cX6_holds 49 = .ok (.goto 4, 3) := by decide +kernel
theorem dX6_holds_52 : decode cX6_holds 52 = .ok (.iconst 0, 1) := by decide +kernel
theorem dX6_holds_53 : decode cX6_holds 53 = .ok (.istore 5, 2) := by decide +kernel
theorem dX6_holds_55 : decode cX6_holds 55 = .ok (.aload_n 0, 1) := by decide +kernel
theorem dX6_holds_56 : decode cX6_holds 56 = .ok (.getfield 50, 3) := by decide +kernel
theorem dX6_holds_59 : decode cX6_holds 59 = .ok (.iload_n 1, 1) := by decide +kernel
theorem dX6_holds_60 : decode cX6_holds 60 = .ok (.iaload, 1) := by decide +kernel
theorem dX6_holds_61 : decode cX6_holds 61 = .ok (.ifCond .eq 19, 3) := by decide +kernel
theorem dX6_holds_64 : decode cX6_holds 64 = .ok (.aload_n 0, 1) := by decide +kernel
theorem dX6_holds_65 : decode cX6_holds 65 = .ok (.getfield 26, 3) := by decide +kernel
theorem dX6_holds_68 : decode cX6_holds 68 = .ok (.iload_n 2, 1) := by decide +kernel
theorem dX6_holds_69 : decode cX6_holds 69 = .ok (.iaload, 1) := by decide +kernel
theorem dX6_holds_70 : decode cX6_holds 70 = .ok (.aload_n 0, 1) := by decide +kernel
theorem dX6_holds_71 : decode cX6_holds 71 = .ok (.getfield 50, 3) := by decide +kernel
theorem dX6_holds_74 : decode cX6_holds 74 = .ok (.iload_n 1, 1) := by decide +kernel
theorem dX6_holds_75 : decode cX6_holds 75 = .ok (.iaload, 1) := by decide +kernel
theorem dX6_holds_76 : decode cX6_holds 76 = .ok (.iand, 1) := by decide +kernel
theorem dX6_holds_77 : decode cX6_holds 77 = .ok (.ifCond .eq 7, 3) := by decide +kernel
theorem dX6_holds_80 : decode cX6_holds 80 = .ok (.iconst 1, 1) := by decide +kernel
theorem dX6_holds_81 : decode cX6_holds 81 = .ok (.goto 4, 3) := by decide +kernel
theorem dX6_holds_84 : decode cX6_holds 84 = .ok (.iconst 0, 1) := by decide +kernel
theorem dX6_holds_85 : decode cX6_holds 85 = .ok (.istore 6, 2) := by decide +kernel
theorem dX6_holds_87 : decode cX6_holds 87 = .ok (.iload 5, 2) := by decide +kernel
theorem dX6_holds_89 : decode cX6_holds 89 = .ok (.ifCond .eq 39, 3) := by decide +kernel
theorem dX6_holds_92 : decode cX6_holds 92 = .ok (.iload 6, 2) := by decide +kernel
theorem dX6_holds_94 : decode cX6_holds 94 = .ok (.ifCond .eq 34, 3) := by decide +kernel
theorem dX6_holds_97 : decode cX6_holds 97 = .ok (.aload_n 0, 1) := by decide +kernel
theorem dX6_holds_98 : decode cX6_holds 98 = .ok (.getfield 53, 3) := by decide +kernel
theorem dX6_holds_101 : decode cX6_holds 101 = .ok (.iload_n 1, 1) := by decide +kernel
theorem dX6_holds_102 : decode cX6_holds 102 = .ok (.iaload, 1) := by decide +kernel
theorem dX6_holds_103 : decode cX6_holds 103 = .ok (.iconst (-1), 1) := by decide +kernel
theorem dX6_holds_104 : decode cX6_holds 104 = .ok (.if_icmp .eq 20, 3) := by decide +kernel
theorem dX6_holds_107 : decode cX6_holds 107 = .ok (.aload_n 0, 1) := by decide +kernel
theorem dX6_holds_108 : decode cX6_holds 108 = .ok (.getfield 114, 3) := by decide +kernel
theorem dX6_holds_111 : decode cX6_holds 111 = .ok (.aload_n 0, 1) := by decide +kernel
theorem dX6_holds_112 : decode cX6_holds 112 = .ok (.getfield 53, 3) := by decide +kernel
theorem dX6_holds_115 : decode cX6_holds 115 = .ok (.iload_n 1, 1) := by decide +kernel
theorem dX6_holds_116 : decode cX6_holds 116 = .ok (.iaload, 1) := by decide +kernel
theorem dX6_holds_117 : decode cX6_holds 117 = .ok (.ishr, 1) := by decide +kernel
theorem dX6_holds_118 : decode cX6_holds 118 = .ok (.iconst 1, 1) := by decide +kernel
theorem dX6_holds_119 : decode cX6_holds 119 = .ok (.iand, 1) := by decide +kernel
theorem dX6_holds_120 : decode cX6_holds 120 = .ok (.iconst 1, 1) := by decide +kernel
theorem dX6_holds_121 : decode cX6_holds 121 = .ok (.if_icmp .ne 7, 3) := by decide +kernel
theorem dX6_holds_124 : decode cX6_holds 124 = .ok (.iconst 1, 1) := by decide +kernel
theorem dX6_holds_125 : decode cX6_holds 125 = .ok (.goto 4, 3) := by decide +kernel
theorem dX6_holds_128 : decode cX6_holds 128 = .ok (.iconst 0, 1) := by decide +kernel
theorem dX6_holds_129 : decode cX6_holds 129 = .ok (.ireturn, 1) := by decide +kernel
theorem dX6_goes_0 : decode cX6_goes 0 = .ok (.aload_n 0, 1) := by decide +kernel
theorem dX6_goes_1 : decode cX6_goes 1 = .ok (.iconst 0, 1) := by decide +kernel
theorem dX6_goes_2 : decode cX6_goes 2 = .ok (.putfield 114, 3) := by decide +kernel
theorem dX6_goes_5 : decode cX6_goes 5 = .ok (.aload_n 0, 1) := by decide +kernel
theorem dX6_goes_6 : decode cX6_goes 6 = .ok (.iconst 0, 1) := by decide +kernel
theorem dX6_goes_7 : decode cX6_goes 7 = .ok (.putfield 120, 3) := by decide +kernel
theorem dX6_goes_10 : decode cX6_goes 10 = .ok (.aload_n 0, 1) := by decide +kernel
theorem dX6_goes_11 : decode cX6_goes 11 = .ok (.iconst 0, 1) := by decide +kernel
theorem dX6_goes_12 : decode cX6_goes 12 = .ok (.putfield 117, 3) := by decide +kernel
theorem dX6_goes_15 : decode cX6_goes 15 = .ok (.iconst 0, 1) := by decide +kernel
theorem dX6_goes_16 : decode cX6_goes 16 = .ok (.istore_n 2, 1) := by decide +kernel
theorem dX6_goes_17 : decode cX6_goes 17 = .ok (.iload_n 2, 1) := by decide +kernel
theorem dX6_goes_18 : decode cX6_goes 18 = .ok (.aload_n 0, 1) := by decide +kernel
theorem dX6_goes_19 : decode cX6_goes 19 = .ok (.getfield 105, 3) := by decide +kernel
theorem dX6_goes_22 : decode cX6_goes 22 = .ok (.if_icmp .ge 84, 3) := by decide +kernel
theorem dX6_goes_25 : decode cX6_goes 25 = .ok (.aload_n 0, 1) := by decide +kernel
theorem dX6_goes_26 : decode cX6_goes 26 = .ok (.iload_n 2, 1) := by decide +kernel
theorem dX6_goes_27 : decode cX6_goes 27 = .ok (.iload_n 1, 1) := by decide +kernel
theorem dX6_goes_28 : decode cX6_goes 28 = .ok (.invokevirtual 175, 3) := by decide +kernel
theorem dX6_goes_31 : decode cX6_goes 31 = .ok (.ifCond .ne 6, 3) := by decide +kernel
theorem dX6_goes_34 : decode cX6_goes 34 = .ok (.goto 66, 3) := by decide +kernel
theorem dX6_goes_37 : decode cX6_goes 37 = .ok (.aload_n 0, 1) := by decide +kernel
theorem dX6_goes_38 : decode cX6_goes 38 = .ok (.dup, 1) := by decide +kernel
theorem dX6_goes_39 : decode cX6_goes 39 = .ok (.getfield 117, 3) := by decide +kernel
theorem dX6_goes_42 : decode cX6_goes 42 = .ok (.iconst 1, 1) := by decide +kernel
theorem dX6_goes_43 : decode cX6_goes 43 = .ok (.iload_n 2, 1) := by decide +kernel
theorem dX6_goes_44 : decode cX6_goes 44 = .ok (.ishl, 1) := by decide +kernel
theorem dX6_goes_45 : decode cX6_goes 45 = .ok (.ior, 1) := by decide +kernel
theorem dX6_goes_46 : decode cX6_goes 46 = .ok (.putfield 117, 3) := by decide +kernel
theorem dX6_goes_49 : decode cX6_goes 49 = .ok (.aload_n 0, 1) := by decide +kernel
theorem dX6_goes_50 : decode cX6_goes 50 = .ok (.getfield 56, 3) := by decide +kernel
theorem dX6_goes_53 : decode cX6_goes 53 = .ok (.iload_n 2, 1) := by decide +kernel
theorem dX6_goes_54 : decode cX6_goes 54 = .ok (.iaload, 1) := by decide +kernel
theorem dX6_goes_55 : decode cX6_goes 55 = .ok (.bipush 8, 2) := by decide +kernel
theorem dX6_goes_57 : decode cX6_goes 57 = .ok (.if_icmp .ge 23, 3) := by decide +kernel
theorem dX6_goes_60 : decode cX6_goes 60 = .ok (.aload_n 0, 1) := by decide +kernel
theorem dX6_goes_61 : decode cX6_goes 61 = .ok (.dup, 1) := by decide +kernel
theorem dX6_goes_62 : decode cX6_goes 62 = .ok (.getfield 114, 3) := by decide +kernel
theorem dX6_goes_65 : decode cX6_goes 65 = .ok (.iconst 1, 1) := by decide +kernel
theorem dX6_goes_66 : decode cX6_goes 66 = .ok (.aload_n 0, 1) := by decide +kernel
theorem dX6_goes_67 : decode cX6_goes 67 = .ok (.getfield 56, 3) := by decide +kernel
theorem dX6_goes_70 : decode cX6_goes 70 = .ok (.iload_n 2, 1) := by decide +kernel
theorem dX6_goes_71 : decode cX6_goes 71 = .ok (.iaload, 1) := by decide +kernel
theorem dX6_goes_72 : decode cX6_goes 72 = .ok (.ishl, 1) := by decide +kernel
theorem dX6_goes_73 : decode cX6_goes 73 = .ok (.ior, 1) := by decide +kernel
theorem dX6_goes_74 : decode cX6_goes 74 = .ok (.putfield 114, 3) := by decide +kernel
theorem dX6_goes_77 : decode cX6_goes 77 = .ok (.goto 23, 3) := by decide +kernel
theorem dX6_goes_80 : decode cX6_goes 80 = .ok (.aload_n 0, 1) := by decide +kernel
theorem dX6_goes_81 : decode cX6_goes 81 = .ok (.aload_n 0, 1) := by decide +kernel
theorem dX6_goes_82 : decode cX6_goes 82 = .ok (.getfield 56, 3) := by decide +kernel
theorem dX6_goes_85 : decode cX6_goes 85 = .ok (.iload_n 2, 1) := by decide +kernel
theorem dX6_goes_86 : decode cX6_goes 86 = .ok (.iaload, 1) := by decide +kernel
theorem dX6_goes_87 : decode cX6_goes 87 = .ok (.bipush 8, 2) := by decide +kernel
theorem dX6_goes_89 : decode cX6_goes 89 = .ok (.if_icmp .ne 7, 3) := by decide +kernel
theorem dX6_goes_92 : decode cX6_goes 92 = .ok (.iconst 1, 1) := by decide +kernel
theorem dX6_goes_93 : decode cX6_goes 93 = .ok (.goto 4, 3) := by decide +kernel
theorem dX6_goes_96 : decode cX6_goes 96 = .ok (.iconst 0, 1) := by decide +kernel
theorem dX6_goes_97 : decode cX6_goes 97 = .ok (.putfield 120, 3) := by decide +kernel
theorem dX6_goes_100 : decode cX6_goes 100 = .ok (.iinc 2 1, 3) := by decide +kernel
theorem dX6_goes_103 : decode cX6_goes 103 = .ok (.goto (-86), 3) := by decide +kernel
theorem dX6_goes_106 : decode cX6_goes 106 = .ok (.return_, 1) := by decide +kernel
theorem dX6_tagsOf_0 : decode cX6_tagsOf 0 = .ok (.aload_n 0, 1) := by decide +kernel
theorem dX6_tagsOf_1 : decode cX6_tagsOf 1 = .ok (.aload_n 0, 1) := by decide +kernel
theorem dX6_tagsOf_2 : decode cX6_tagsOf 2 = .ok (.iload_n 1, 1) := by decide +kernel
theorem dX6_tagsOf_3 : decode cX6_tagsOf 3 = .ok (.invokevirtual 171, 3) := by decide +kernel
theorem dX6_tagsOf_6 : decode cX6_tagsOf 6 = .ok (.invokevirtual 137, 3) := by decide +kernel
theorem dX6_tagsOf_9 : decode cX6_tagsOf 9 = .ok (.ifCond .le 5, 3) := by decide +kernel
theorem dX6_tagsOf_12 : decode cX6_tagsOf 12 = .ok (.iconst 0, 1) := by decide +kernel
theorem dX6_tagsOf_13 : decode cX6_tagsOf 13 = .ok (.ireturn, 1) := by decide +kernel
theorem dX6_tagsOf_14 : decode cX6_tagsOf 14 = .ok (.aload_n 0, 1) := by decide +kernel
theorem dX6_tagsOf_15 : decode cX6_tagsOf 15 = .ok (.iload_n 1, 1) := by decide +kernel
theorem dX6_tagsOf_16 : decode cX6_tagsOf 16 = .ok (.invokevirtual 179, 3) := by decide +kernel
theorem dX6_tagsOf_19 : decode cX6_tagsOf 19 = .ok (.aload_n 0, 1) := by decide +kernel
theorem dX6_tagsOf_20 : decode cX6_tagsOf 20 = .ok (.getfield 114, 3) := by decide +kernel
theorem dX6_tagsOf_23 : decode cX6_tagsOf 23 = .ok (.ireturn, 1) := by decide +kernel
theorem dX6_isHidden_0 : decode cX6_isHidden 0 = .ok (.aload_n 0, 1) := by decide +kernel
theorem dX6_isHidden_1 : decode cX6_isHidden 1 = .ok (.aload_n 0, 1) := by decide +kernel
theorem dX6_isHidden_2 : decode cX6_isHidden 2 = .ok (.iload_n 1, 1) := by decide +kernel
theorem dX6_isHidden_3 : decode cX6_isHidden 3 = .ok (.invokevirtual 171, 3) := by decide +kernel
theorem dX6_isHidden_6 : decode cX6_isHidden 6 = .ok (.invokevirtual 137, 3) := by decide +kernel
theorem dX6_isHidden_9 : decode cX6_isHidden 9 = .ok (.ifCond .le 5, 3) := by decide +kernel
theorem dX6_isHidden_12 : decode cX6_isHidden 12 = .ok (.iconst 0, 1) := by decide +kernel
theorem dX6_isHidden_13 : decode cX6_isHidden 13 = .ok (.ireturn, 1) := by decide +kernel
theorem dX6_isHidden_14 : decode cX6_isHidden 14 = .ok (.aload_n 0, 1) := by decide +kernel
theorem dX6_isHidden_15 : decode cX6_isHidden 15 = .ok (.iload_n 1, 1) := by decide +kernel
theorem dX6_isHidden_16 : decode cX6_isHidden 16 = .ok (.invokevirtual 179, 3) := by decide +kernel
theorem dX6_isHidden_19 : decode cX6_isHidden 19 = .ok (.aload_n 0, 1) := by decide +kernel
theorem dX6_isHidden_20 : decode cX6_isHidden 20 = .ok (.getfield 120, 3) := by decide +kernel
theorem dX6_isHidden_23 : decode cX6_isHidden 23 = .ok (.ireturn, 1) := by decide +kernel
theorem dX6_matches_0 : decode cX6_matches 0 = .ok (.aload_n 0, 1) := by decide +kernel
theorem dX6_matches_1 : decode cX6_matches 1 = .ok (.iload_n 1, 1) := by decide +kernel
theorem dX6_matches_2 : decode cX6_matches 2 = .ok (.iconst 0, 1) := by decide +kernel
theorem dX6_matches_3 : decode cX6_matches 3 = .ok (.aload_n 0, 1) := by decide +kernel
theorem dX6_matches_4 : decode cX6_matches 4 = .ok (.getfield 105, 3) := by decide +kernel
theorem dX6_matches_7 : decode cX6_matches 7 = .ok (.iconst 1, 1) := by decide +kernel
theorem dX6_matches_8 : decode cX6_matches 8 = .ok (.isub, 1) := by decide +kernel
theorem dX6_matches_9 : decode cX6_matches 9 = .ok (.invokestatic 128, 3) := by decide +kernel
theorem dX6_matches_12 : decode cX6_matches 12 = .ok (.invokevirtual 137, 3) := by decide +kernel
theorem dX6_matches_15 : decode cX6_matches 15 = .ok (.ifCond .le 5, 3) := by decide +kernel
theorem dX6_matches_18 : decode cX6_matches 18 = .ok (.iconst 0, 1) := by decide +kernel
theorem dX6_matches_19 : decode cX6_matches 19 = .ok (.ireturn, 1) := by decide +kernel
theorem dX6_matches_20 : decode cX6_matches 20 = .ok (.iconst 0, 1) := by decide +kernel
theorem dX6_matches_21 : decode cX6_matches 21 = .ok (.istore_n 2, 1) := by decide +kernel
theorem dX6_matches_22 : decode cX6_matches 22 = .ok (.iconst 0, 1) := by decide +kernel
theorem dX6_matches_23 : decode cX6_matches 23 = .ok (.istore_n 3, 1) := by decide +kernel
theorem dX6_matches_24 : decode cX6_matches 24 = .ok (.iload_n 3, 1) := by decide +kernel
theorem dX6_matches_25 : decode cX6_matches 25 = .ok (.aload_n 0, 1) := by decide +kernel
theorem dX6_matches_26 : decode cX6_matches 26 = .ok (.getfield 96, 3) := by decide +kernel
theorem dX6_matches_29 : decode cX6_matches 29 = .ok (.if_icmp .ge 25, 3) := by decide +kernel
theorem dX6_matches_32 : decode cX6_matches 32 = .ok (.aload_n 0, 1) := by decide +kernel
theorem dX6_matches_33 : decode cX6_matches 33 = .ok (.iload_n 3, 1) := by decide +kernel
theorem dX6_matches_34 : decode cX6_matches 34 = .ok (.invokevirtual 179, 3) := by decide +kernel
theorem dX6_matches_37 : decode cX6_matches 37 = .ok (.iload_n 2, 1) := by decide +kernel
theorem dX6_matches_38 : decode cX6_matches 38 = .ok (.aload_n 0, 1) := by decide +kernel
theorem dX6_matches_39 : decode cX6_matches 39 = .ok (.getfield 117, 3) := by decide +kernel
theorem dX6_matches_42 : decode cX6_matches 42 = .ok (.iload_n 1, 1) := by decide +kernel
theorem dX6_matches_43 : decode cX6_matches 43 = .ok (.ishr, 1) := by decide +kernel
theorem dX6_matches_44 : decode cX6_matches 44 = .ok (.iconst 1, 1) := by decide +kernel
theorem dX6_matches_45 : decode cX6_matches 45 = .ok (.iand, 1) := by decide +kernel
theorem dX6_matches_46 : decode cX6_matches 46 = .ok (.iadd, 1) := by decide +kernel
theorem dX6_matches_47 : decode cX6_matches 47 = .ok (.istore_n 2, 1) := by decide +kernel
theorem dX6_matches_48 : decode cX6_matches 48 = .ok (.iinc 3 1, 3) := by decide +kernel
theorem dX6_matches_51 : decode cX6_matches 51 = .ok (.goto (-27), 3) := by decide +kernel
theorem dX6_matches_54 : decode cX6_matches 54 = .ok (.iload_n 2, 1) := by decide +kernel
theorem dX6_matches_55 : decode cX6_matches 55 = .ok (.ireturn, 1) := by decide +kernel
theorem dX6_addRiver_0 : decode cX6_addRiver 0 = .ok (.aload_n 0, 1) := by decide +kernel
theorem dX6_addRiver_1 : decode cX6_addRiver 1 = .ok (.iload_n 1, 1) := by decide +kernel
theorem dX6_addRiver_2 : decode cX6_addRiver 2 = .ok (.iconst 1, 1) := by decide +kernel
theorem dX6_addRiver_3 : decode cX6_addRiver 3 = .ok (.bipush 63, 2) := by decide +kernel
theorem dX6_addRiver_5 : decode cX6_addRiver 5 = .ok (.invokestatic 128, 3) := by decide +kernel
theorem dX6_addRiver_8 : decode cX6_addRiver 8 = .ok (.ifCond .eq 13, 3) := by decide +kernel
theorem dX6_addRiver_11 : decode cX6_addRiver 11 = .ok (.iload_n 2, 1) := by decide +kernel
theorem dX6_addRiver_12 : decode cX6_addRiver 12 = .ok (.iconst (-1), 1) := by decide +kernel
theorem dX6_addRiver_13 : decode cX6_addRiver 13 = .ok (.bipush 7, 2) := by decide +kernel
theorem dX6_addRiver_15 : decode cX6_addRiver 15 = .ok (.invokestatic 128, 3) := by decide +kernel
theorem dX6_addRiver_18 : decode cX6_addRiver 18 = .ok (.ifCond .ne 7, 3) := by decide +kernel
theorem dX6_addRiver_21 : decode cX6_addRiver 21 = .ok (.iconst 1, 1) := by decide +kernel
theorem dX6_addRiver_22 : decode cX6_addRiver 22 = .ok (.goto 16, 3) := by decide +kernel
theorem dX6_addRiver_25 : decode cX6_addRiver 25 = .ok (.aload_n 0, 1) := by decide +kernel
theorem dX6_addRiver_26 : decode cX6_addRiver 26 = .ok (.getfield 108, 3) := by decide +kernel
theorem dX6_addRiver_29 : decode cX6_addRiver 29 = .ok (.iconst 4, 1) := by decide +kernel
theorem dX6_addRiver_30 : decode cX6_addRiver 30 = .ok (.if_icmp .ne 7, 3) := by decide +kernel
theorem dX6_addRiver_33 : decode cX6_addRiver 33 = .ok (.iconst 2, 1) := by decide +kernel
theorem dX6_addRiver_34 : decode cX6_addRiver 34 = .ok (.goto 4, 3) := by decide +kernel
theorem dX6_addRiver_37 : decode cX6_addRiver 37 = .ok (.iconst 0, 1) := by decide +kernel
theorem dX6_addRiver_38 : decode cX6_addRiver 38 = .ok (.putfield 80, 3) := by decide +kernel
theorem dX6_addRiver_41 : decode cX6_addRiver 41 = .ok (.aload_n 0, 1) := by decide +kernel
theorem dX6_addRiver_42 : decode cX6_addRiver 42 = .ok (.getfield 80, 3) := by decide +kernel
theorem dX6_addRiver_45 : decode cX6_addRiver 45 = .ok (.ifCond .le 5, 3) := by decide +kernel
theorem dX6_addRiver_48 : decode cX6_addRiver 48 = .ok (.iconst 0, 1) := by decide +kernel
theorem dX6_addRiver_49 : decode cX6_addRiver 49 = .ok (.ireturn, 1) := by decide +kernel
theorem dX6_addRiver_50 : decode cX6_addRiver 50 = .ok (.aload_n 0, 1) := by decide +kernel
theorem dX6_addRiver_51 : decode cX6_addRiver 51 = .ok (.getfield 59, 3) := by decide +kernel
theorem dX6_addRiver_54 : decode cX6_addRiver 54 = .ok (.aload_n 0, 1) := by decide +kernel
theorem dX6_addRiver_55 : decode cX6_addRiver 55 = .ok (.getfield 108, 3) := by decide +kernel
theorem dX6_addRiver_58 : decode cX6_addRiver 58 = .ok (.iload_n 1, 1) := by decide +kernel
theorem dX6_addRiver_59 : decode cX6_addRiver 59 = .ok (.iastore, 1) := by decide +kernel
theorem dX6_addRiver_60 : decode cX6_addRiver 60 = .ok (.aload_n 0, 1) := by decide +kernel
theorem dX6_addRiver_61 : decode cX6_addRiver 61 = .ok (.getfield 62, 3) := by decide +kernel
theorem dX6_addRiver_64 : decode cX6_addRiver 64 = .ok (.aload_n 0, 1) := by decide +kernel
theorem dX6_addRiver_65 : decode cX6_addRiver 65 = .ok (.getfield 108, 3) := by decide +kernel
theorem dX6_addRiver_68 : decode cX6_addRiver 68 = .ok (.iload_n 2, 1) := by decide +kernel
theorem dX6_addRiver_69 : decode cX6_addRiver 69 = .ok (.iastore, 1) := by decide +kernel
theorem dX6_addRiver_70 : decode cX6_addRiver 70 = .ok (.aload_n 0, 1) := by decide +kernel
theorem dX6_addRiver_71 : decode cX6_addRiver 71 = .ok (.dup, 1) := by decide +kernel
theorem dX6_addRiver_72 : decode cX6_addRiver 72 = .ok (.getfield 108, 3) := by decide +kernel
theorem dX6_addRiver_75 : decode cX6_addRiver 75 = .ok (.iconst 1, 1) := by decide +kernel
theorem dX6_addRiver_76 : decode cX6_addRiver 76 = .ok (.iadd, 1) := by decide +kernel
theorem dX6_addRiver_77 : decode cX6_addRiver 77 = .ok (.putfield 108, 3) := by decide +kernel
theorem dX6_addRiver_80 : decode cX6_addRiver 80 = .ok (.aload_n 0, 1) := by decide +kernel
theorem dX6_addRiver_81 : decode cX6_addRiver 81 = .ok (.getfield 108, 3) := by decide +kernel
theorem dX6_addRiver_84 : decode cX6_addRiver 84 = .ok (.iconst 1, 1) := by decide +kernel
theorem dX6_addRiver_85 : decode cX6_addRiver 85 = .ok (.isub, 1) := by decide +kernel
theorem dX6_addRiver_86 : decode cX6_addRiver 86 = .ok (.ireturn, 1) := by decide +kernel
theorem dX6_isRiver_0 : decode cX6_isRiver 0 = .ok (.iload_n 1, 1) := by decide +kernel
theorem dX6_isRiver_1 : decode cX6_isRiver 1 = .ok (.iconst 0, 1) := by decide +kernel
theorem dX6_isRiver_2 : decode cX6_isRiver 2 = .ok (.aload_n 0, 1) := by decide +kernel
theorem dX6_isRiver_3 : decode cX6_isRiver 3 = .ok (.getfield 108, 3) := by decide +kernel
theorem dX6_isRiver_6 : decode cX6_isRiver 6 = .ok (.iconst 1, 1) := by decide +kernel
theorem dX6_isRiver_7 : decode cX6_isRiver 7 = .ok (.isub, 1) := by decide +kernel
theorem dX6_isRiver_8 : decode cX6_isRiver 8 = .ok (.invokestatic 128, 3) := by decide +kernel
theorem dX6_isRiver_11 : decode cX6_isRiver 11 = .ok (.ireturn, 1) := by decide +kernel
theorem dX6_shows_0 : decode cX6_shows 0 = .ok (.aload_n 0, 1) := by decide +kernel
theorem dX6_shows_1 : decode cX6_shows 1 = .ok (.iload_n 2, 1) := by decide +kernel
theorem dX6_shows_2 : decode cX6_shows 2 = .ok (.invokevirtual 179, 3) := by decide +kernel
theorem dX6_shows_5 : decode cX6_shows 5 = .ok (.aload_n 0, 1) := by decide +kernel
theorem dX6_shows_6 : decode cX6_shows 6 = .ok (.getfield 120, 3) := by decide +kernel
theorem dX6_shows_9 : decode cX6_shows 9 = .ok (.ifCond .ne 50, 3) := by decide +kernel
theorem dX6_shows_12 : decode cX6_shows 12 = .ok (.aload_n 0, 1) := by decide +kernel
theorem dX6_shows_13 : decode cX6_shows 13 = .ok (.getfield 26, 3) := by decide +kernel
theorem dX6_shows_16 : decode cX6_shows 16 = .ok (.iload_n 2, 1) := by decide +kernel
theorem dX6_shows_17 : decode cX6_shows 17 = .ok (.iaload, 1) := by decide +kernel
theorem dX6_shows_18 : decode cX6_shows 18 = .ok (.aload_n 0, 1) := by decide +kernel
theorem dX6_shows_19 : decode cX6_shows 19 = .ok (.getfield 59, 3) := by decide +kernel
theorem dX6_shows_22 : decode cX6_shows 22 = .ok (.iload_n 1, 1) := by decide +kernel
theorem dX6_shows_23 : decode cX6_shows 23 = .ok (.iaload, 1) := by decide +kernel
theorem dX6_shows_24 : decode cX6_shows 24 = .ok (.iand, 1) := by decide +kernel
theorem dX6_shows_25 : decode cX6_shows 25 = .ok (.ifCond .eq 34, 3) := by decide +kernel
theorem dX6_shows_28 : decode cX6_shows 28 = .ok (.aload_n 0, 1) := by decide +kernel
theorem dX6_shows_29 : decode cX6_shows 29 = .ok (.getfield 62, 3) := by decide +kernel
theorem dX6_shows_32 : decode cX6_shows 32 = .ok (.iload_n 1, 1) := by decide +kernel
theorem dX6_shows_33 : decode cX6_shows 33 = .ok (.iaload, 1) := by decide +kernel
theorem dX6_shows_34 : decode cX6_shows 34 = .ok (.iconst (-1), 1) := by decide +kernel
theorem dX6_shows_35 : decode cX6_shows 35 = .ok (.if_icmp .eq 20, 3) := by decide +kernel
theorem dX6_shows_38 : decode cX6_shows 38 = .ok (.aload_n 0, 1) := by decide +kernel
theorem dX6_shows_39 : decode cX6_shows 39 = .ok (.getfield 114, 3) := by decide +kernel
theorem dX6_shows_42 : decode cX6_shows 42 = .ok (.aload_n 0, 1) := by decide +kernel
theorem dX6_shows_43 : decode cX6_shows 43 = .ok (.getfield 62, 3) := by decide +kernel
theorem dX6_shows_46 : decode cX6_shows 46 = .ok (.iload_n 1, 1) := by decide +kernel
theorem dX6_shows_47 : decode cX6_shows 47 = .ok (.iaload, 1) := by decide +kernel
theorem dX6_shows_48 : decode cX6_shows 48 = .ok (.ishr, 1) := by decide +kernel
theorem dX6_shows_49 : decode cX6_shows 49 = .ok (.iconst 1, 1) := by decide +kernel
theorem dX6_shows_50 : decode cX6_shows 50 = .ok (.iand, 1) := by decide +kernel
theorem dX6_shows_51 : decode cX6_shows 51 = .ok (.iconst 1, 1) := by decide +kernel
theorem dX6_shows_52 : decode cX6_shows 52 = .ok (.if_icmp .ne 7, 3) := by decide +kernel
theorem dX6_shows_55 : decode cX6_shows 55 = .ok (.iconst 1, 1) := by decide +kernel
theorem dX6_shows_56 : decode cX6_shows 56 = .ok (.goto 4, 3) := by decide +kernel
theorem dX6_shows_59 : decode cX6_shows 59 = .ok (.iconst 0, 1) := by decide +kernel
theorem dX6_shows_60 : decode cX6_shows 60 = .ok (.ireturn, 1) := by decide +kernel
theorem dX6_sizeOf_0 : decode cX6_sizeOf 0 = .ok (.iconst 0, 1) := by decide +kernel
theorem dX6_sizeOf_1 : decode cX6_sizeOf 1 = .ok (.istore_n 2, 1) := by decide +kernel
theorem dX6_sizeOf_2 : decode cX6_sizeOf 2 = .ok (.iconst 0, 1) := by decide +kernel
theorem dX6_sizeOf_3 : decode cX6_sizeOf 3 = .ok (.istore_n 3, 1) := by decide +kernel
theorem dX6_sizeOf_4 : decode cX6_sizeOf 4 = .ok (.iload_n 3, 1) := by decide +kernel
theorem dX6_sizeOf_5 : decode cX6_sizeOf 5 = .ok (.aload_n 0, 1) := by decide +kernel
theorem dX6_sizeOf_6 : decode cX6_sizeOf 6 = .ok (.getfield 96, 3) := by decide +kernel
theorem dX6_sizeOf_9 : decode cX6_sizeOf 9 = .ok (.if_icmp .ge 26, 3) := by decide +kernel
theorem dX6_sizeOf_12 : decode cX6_sizeOf 12 = .ok (.iload_n 2, 1) := by decide +kernel
theorem dX6_sizeOf_13 : decode cX6_sizeOf 13 = .ok (.aload_n 0, 1) := by decide +kernel
theorem dX6_sizeOf_14 : decode cX6_sizeOf 14 = .ok (.iload_n 1, 1) := by decide +kernel
theorem dX6_sizeOf_15 : decode cX6_sizeOf 15 = .ok (.iload_n 3, 1) := by decide +kernel
theorem dX6_sizeOf_16 : decode cX6_sizeOf 16 = .ok (.invokevirtual 183, 3) := by decide +kernel
theorem dX6_sizeOf_19 : decode cX6_sizeOf 19 = .ok (.ifCond .eq 7, 3) := by decide +kernel
theorem dX6_sizeOf_22 : decode cX6_sizeOf 22 = .ok (.iconst 1, 1) := by decide +kernel
theorem dX6_sizeOf_23 : decode cX6_sizeOf 23 = .ok (.goto 4, 3) := by decide +kernel
theorem dX6_sizeOf_26 : decode cX6_sizeOf 26 = .ok (.iconst 0, 1) := by decide +kernel
theorem dX6_sizeOf_27 : decode cX6_sizeOf 27 = .ok (.iadd, 1) := by decide +kernel
theorem dX6_sizeOf_28 : decode cX6_sizeOf 28 = .ok (.istore_n 2, 1) := by decide +kernel
theorem dX6_sizeOf_29 : decode cX6_sizeOf 29 = .ok (.iinc 3 1, 3) := by decide +kernel
theorem dX6_sizeOf_32 : decode cX6_sizeOf 32 = .ok (.goto (-28), 3) := by decide +kernel
theorem dX6_sizeOf_35 : decode cX6_sizeOf 35 = .ok (.iload_n 2, 1) := by decide +kernel
theorem dX6_sizeOf_36 : decode cX6_sizeOf 36 = .ok (.ireturn, 1) := by decide +kernel
theorem dX6_riverSize_0 : decode cX6_riverSize 0 = .ok (.aload_n 0, 1) := by decide +kernel
theorem dX6_riverSize_1 : decode cX6_riverSize 1 = .ok (.aload_n 0, 1) := by decide +kernel
theorem dX6_riverSize_2 : decode cX6_riverSize 2 = .ok (.iload_n 1, 1) := by decide +kernel
theorem dX6_riverSize_3 : decode cX6_riverSize 3 = .ok (.invokevirtual 186, 3) := by decide +kernel
theorem dX6_riverSize_6 : decode cX6_riverSize 6 = .ok (.invokevirtual 137, 3) := by decide +kernel
theorem dX6_riverSize_9 : decode cX6_riverSize 9 = .ok (.ifCond .le 7, 3) := by decide +kernel
theorem dX6_riverSize_12 : decode cX6_riverSize 12 = .ok (.iconst 0, 1) := by decide +kernel
theorem dX6_riverSize_13 : decode cX6_riverSize 13 = .ok (.goto 8, 3) := by decide +kernel
theorem dX6_riverSize_16 : decode cX6_riverSize 16 = .ok (.aload_n 0, 1) := by decide +kernel
theorem dX6_riverSize_17 : decode cX6_riverSize 17 = .ok (.iload_n 1, 1) := by decide +kernel
theorem dX6_riverSize_18 : decode cX6_riverSize 18 = .ok (.invokevirtual 189, 3) := by decide +kernel
theorem dX6_riverSize_21 : decode cX6_riverSize 21 = .ok (.ireturn, 1) := by decide +kernel
theorem dX6_ahead_0 : decode cX6_ahead 0 = .ok (.iconst 0, 1) := by decide +kernel
theorem dX6_ahead_1 : decode cX6_ahead 1 = .ok (.istore_n 3, 1) := by decide +kernel
theorem dX6_ahead_2 : decode cX6_ahead 2 = .ok (.iconst 0, 1) := by decide +kernel
theorem dX6_ahead_3 : decode cX6_ahead 3 = .ok (.istore 4, 2) := by decide +kernel
theorem dX6_ahead_5 : decode cX6_ahead 5 = .ok (.iload 4, 2) := by decide +kernel
theorem dX6_ahead_7 : decode cX6_ahead 7 = .ok (.aload_n 0, 1) := by decide +kernel
theorem dX6_ahead_8 : decode cX6_ahead 8 = .ok (.getfield 96, 3) := by decide +kernel
theorem dX6_ahead_11 : decode cX6_ahead 11 = .ok (.if_icmp .ge 77, 3) := by decide +kernel
theorem dX6_ahead_14 : decode cX6_ahead 14 = .ok (.aload_n 0, 1) := by decide +kernel
theorem dX6_ahead_15 : decode cX6_ahead 15 = .ok (.getfield 23, 3) := by decide +kernel
theorem dX6_ahead_18 : decode cX6_ahead 18 = .ok (.iload 4, 2) := by decide +kernel
theorem dX6_ahead_20 : decode cX6_ahead 20 = .ok (.iaload, 1) := by decide +kernel
theorem dX6_ahead_21 : decode cX6_ahead 21 = .ok (.aload_n 0, 1) := by decide +kernel
theorem dX6_ahead_22 : decode cX6_ahead 22 = .ok (.getfield 23, 3) := by decide +kernel
theorem dX6_ahead_25 : decode cX6_ahead 25 = .ok (.iload_n 2, 1) := by decide +kernel
theorem dX6_ahead_26 : decode cX6_ahead 26 = .ok (.iaload, 1) := by decide +kernel
theorem dX6_ahead_27 : decode cX6_ahead 27 = .ok (.if_icmp .gt 25, 3) := by decide +kernel
theorem dX6_ahead_30 : decode cX6_ahead 30 = .ok (.aload_n 0, 1) := by decide +kernel
theorem dX6_ahead_31 : decode cX6_ahead 31 = .ok (.getfield 23, 3) := by decide +kernel
theorem dX6_ahead_34 : decode cX6_ahead 34 = .ok (.iload 4, 2) := by decide +kernel
theorem dX6_ahead_36 : decode cX6_ahead 36 = .ok (.iaload, 1) := by decide +kernel
theorem dX6_ahead_37 : decode cX6_ahead 37 = .ok (.aload_n 0, 1) := by decide +kernel
theorem dX6_ahead_38 : decode cX6_ahead 38 = .ok (.getfield 23, 3) := by decide +kernel
theorem dX6_ahead_41 : decode cX6_ahead 41 = .ok (.iload_n 2, 1) := by decide +kernel
theorem dX6_ahead_42 : decode cX6_ahead 42 = .ok (.iaload, 1) := by decide +kernel
theorem dX6_ahead_43 : decode cX6_ahead 43 = .ok (.if_icmp .ne 13, 3) := by decide +kernel
theorem dX6_ahead_46 : decode cX6_ahead 46 = .ok (.iload 4, 2) := by decide +kernel
theorem dX6_ahead_48 : decode cX6_ahead 48 = .ok (.iload_n 2, 1) := by decide +kernel
theorem dX6_ahead_49 : decode cX6_ahead 49 = .ok (.if_icmp .le 7, 3) := by decide +kernel
theorem dX6_ahead_52 : decode cX6_ahead 52 = .ok (.iconst 1, 1) := by decide +kernel
theorem dX6_ahead_53 : decode cX6_ahead 53 = .ok (.goto 4, 3) := by decide +kernel
theorem dX6_ahead_56 : decode cX6_ahead 56 = .ok (.iconst 0, 1) := by decide +kernel
theorem dX6_ahead_57 : decode cX6_ahead 57 = .ok (.istore 5, 2) := by decide +kernel
theorem dX6_ahead_59 : decode cX6_ahead 59 = .ok (.iload_n 3, 1) := by decide +kernel
theorem dX6_ahead_60 : decode cX6_ahead 60 = .ok (.iload 5, 2) := by decide +kernel
theorem dX6_ahead_62 : decode cX6_ahead 62 = .ok (.ifCond .eq 17, 3) := by decide +kernel
theorem dX6_ahead_65 : decode cX6_ahead 65 = .ok (.aload_n 0, 1) := by decide +kernel
theorem dX6_ahead_66 : decode cX6_ahead 66 = .ok (.iload_n 1, 1) := by decide +kernel
theorem dX6_ahead_67 : decode cX6_ahead 67 = .ok (.iload 4, 2) := by decide +kernel
theorem dX6_ahead_69 : decode cX6_ahead 69 = .ok (.invokevirtual 183, 3) := by decide +kernel
theorem dX6_ahead_72 : decode cX6_ahead 72 = .ok (.ifCond .eq 7, 3) := by decide +kernel
theorem dX6_ahead_75 : decode cX6_ahead 75 = .ok (.iconst 1, 1) := by decide +kernel
theorem dX6_ahead_76 : decode cX6_ahead 76 = .ok (.goto 4, 3) := by decide +kernel
theorem dX6_ahead_79 : decode cX6_ahead 79 = .ok (.iconst 0, 1) := by decide +kernel
theorem dX6_ahead_80 : decode cX6_ahead 80 = .ok (.iadd, 1) := by decide +kernel
theorem dX6_ahead_81 : decode cX6_ahead 81 = .ok (.istore_n 3, 1) := by decide +kernel
theorem dX6_ahead_82 : decode cX6_ahead 82 = .ok (.iinc 4 1, 3) := by decide +kernel
theorem dX6_ahead_85 : decode cX6_ahead 85 = .ok (.goto (-80), 3) := by decide +kernel
theorem dX6_ahead_88 : decode cX6_ahead 88 = .ok (.iload_n 3, 1) := by decide +kernel
theorem dX6_ahead_89 : decode cX6_ahead 89 = .ok (.ireturn, 1) := by decide +kernel
theorem dX6_itemAt_0 : decode cX6_itemAt 0 = .ok (.iconst 0, 1) := by decide +kernel
theorem dX6_itemAt_1 : decode cX6_itemAt 1 = .ok (.istore_n 3, 1) := by decide +kernel
theorem dX6_itemAt_2 : decode cX6_itemAt 2 = .ok (.iload_n 3, 1) := by decide +kernel
theorem dX6_itemAt_3 : decode cX6_itemAt 3 = .ok (.aload_n 0, 1) := by decide +kernel
theorem dX6_itemAt_4 : decode cX6_itemAt 4 = .ok (.getfield 96, 3) := by decide +kernel
theorem dX6_itemAt_7 : decode cX6_itemAt 7 = .ok (.if_icmp .ge 30, 3) := by decide +kernel
theorem dX6_itemAt_10 : decode cX6_itemAt 10 = .ok (.aload_n 0, 1) := by decide +kernel
theorem dX6_itemAt_11 : decode cX6_itemAt 11 = .ok (.iload_n 1, 1) := by decide +kernel
theorem dX6_itemAt_12 : decode cX6_itemAt 12 = .ok (.iload_n 3, 1) := by decide +kernel
theorem dX6_itemAt_13 : decode cX6_itemAt 13 = .ok (.invokevirtual 183, 3) := by decide +kernel
theorem dX6_itemAt_16 : decode cX6_itemAt 16 = .ok (.ifCond .eq 15, 3) := by decide +kernel
theorem dX6_itemAt_19 : decode cX6_itemAt 19 = .ok (.aload_n 0, 1) := by decide +kernel
theorem dX6_itemAt_20 : decode cX6_itemAt 20 = .ok (.iload_n 1, 1) := by decide +kernel
theorem dX6_itemAt_21 : decode cX6_itemAt 21 = .ok (.iload_n 3, 1) := by decide +kernel
theorem dX6_itemAt_22 : decode cX6_itemAt 22 = .ok (.invokevirtual 192, 3) := by decide +kernel
theorem dX6_itemAt_25 : decode cX6_itemAt 25 = .ok (.iload_n 2, 1) := by decide +kernel
theorem dX6_itemAt_26 : decode cX6_itemAt 26 = .ok (.if_icmp .ne 5, 3) := by decide +kernel
theorem dX6_itemAt_29 : decode cX6_itemAt 29 = .ok (.iload_n 3, 1) := by decide +kernel
theorem dX6_itemAt_30 : decode cX6_itemAt 30 = .ok (.ireturn, 1) := by decide +kernel
theorem dX6_itemAt_31 : decode cX6_itemAt 31 = .ok (.iinc 3 1, 3) := by decide +kernel
theorem dX6_itemAt_34 : decode cX6_itemAt 34 = .ok (.goto (-32), 3) := by decide +kernel
theorem dX6_itemAt_37 : decode cX6_itemAt 37 = .ok (.iconst (-1), 1) := by decide +kernel
theorem dX6_itemAt_38 : decode cX6_itemAt 38 = .ok (.ireturn, 1) := by decide +kernel
theorem dX6_riverAt_0 : decode cX6_riverAt 0 = .ok (.aload_n 0, 1) := by decide +kernel
theorem dX6_riverAt_1 : decode cX6_riverAt 1 = .ok (.aload_n 0, 1) := by decide +kernel
theorem dX6_riverAt_2 : decode cX6_riverAt 2 = .ok (.iload_n 1, 1) := by decide +kernel
theorem dX6_riverAt_3 : decode cX6_riverAt 3 = .ok (.invokevirtual 186, 3) := by decide +kernel
theorem dX6_riverAt_6 : decode cX6_riverAt 6 = .ok (.ifCond .ne 7, 3) := by decide +kernel
theorem dX6_riverAt_9 : decode cX6_riverAt 9 = .ok (.iconst 1, 1) := by decide +kernel
theorem dX6_riverAt_10 : decode cX6_riverAt 10 = .ok (.goto 17, 3) := by decide +kernel
theorem dX6_riverAt_13 : decode cX6_riverAt 13 = .ok (.aload_n 0, 1) := by decide +kernel
theorem dX6_riverAt_14 : decode cX6_riverAt 14 = .ok (.iload_n 1, 1) := by decide +kernel
theorem dX6_riverAt_15 : decode cX6_riverAt 15 = .ok (.iload_n 2, 1) := by decide +kernel
theorem dX6_riverAt_16 : decode cX6_riverAt 16 = .ok (.invokevirtual 195, 3) := by decide +kernel
theorem dX6_riverAt_19 : decode cX6_riverAt 19 = .ok (.ifCond .ge 7, 3) := by decide +kernel
theorem dX6_riverAt_22 : decode cX6_riverAt 22 = .ok (.iconst 2, 1) := by decide +kernel
theorem dX6_riverAt_23 : decode cX6_riverAt 23 = .ok (.goto 4, 3) := by decide +kernel
theorem dX6_riverAt_26 : decode cX6_riverAt 26 = .ok (.iconst 0, 1) := by decide +kernel
theorem dX6_riverAt_27 : decode cX6_riverAt 27 = .ok (.putfield 80, 3) := by decide +kernel
theorem dX6_riverAt_30 : decode cX6_riverAt 30 = .ok (.aload_n 0, 1) := by decide +kernel
theorem dX6_riverAt_31 : decode cX6_riverAt 31 = .ok (.getfield 80, 3) := by decide +kernel
theorem dX6_riverAt_34 : decode cX6_riverAt 34 = .ok (.ifCond .le 7, 3) := by decide +kernel
theorem dX6_riverAt_37 : decode cX6_riverAt 37 = .ok (.iconst 0, 1) := by decide +kernel
theorem dX6_riverAt_38 : decode cX6_riverAt 38 = .ok (.goto 9, 3) := by decide +kernel
theorem dX6_riverAt_41 : decode cX6_riverAt 41 = .ok (.aload_n 0, 1) := by decide +kernel
theorem dX6_riverAt_42 : decode cX6_riverAt 42 = .ok (.iload_n 1, 1) := by decide +kernel
theorem dX6_riverAt_43 : decode cX6_riverAt 43 = .ok (.iload_n 2, 1) := by decide +kernel
theorem dX6_riverAt_44 : decode cX6_riverAt 44 = .ok (.invokevirtual 195, 3) := by decide +kernel
theorem dX6_riverAt_47 : decode cX6_riverAt 47 = .ok (.ireturn, 1) := by decide +kernel
theorem dX6_riverAtAnew_0 : decode cX6_riverAtAnew 0 = .ok (.aload_n 0, 1) := by decide +kernel
theorem dX6_riverAtAnew_1 : decode cX6_riverAtAnew 1 = .ok (.iload_n 1, 1) := by decide +kernel
theorem dX6_riverAtAnew_2 : decode cX6_riverAtAnew 2 = .ok (.iload_n 2, 1) := by decide +kernel
theorem dX6_riverAtAnew_3 : decode cX6_riverAtAnew 3 = .ok (.invokevirtual 198, 3) := by decide +kernel
theorem dX6_riverAtAnew_6 : decode cX6_riverAtAnew 6 = .ok (.ireturn, 1) := by decide +kernel
theorem dX6_rankOf_0 : decode cX6_rankOf 0 = .ok (.aload_n 0, 1) := by decide +kernel
theorem dX6_rankOf_1 : decode cX6_rankOf 1 = .ok (.aload_n 0, 1) := by decide +kernel
theorem dX6_rankOf_2 : decode cX6_rankOf 2 = .ok (.iload_n 1, 1) := by decide +kernel
theorem dX6_rankOf_3 : decode cX6_rankOf 3 = .ok (.invokevirtual 186, 3) := by decide +kernel
theorem dX6_rankOf_6 : decode cX6_rankOf 6 = .ok (.ifCond .eq 11, 3) := by decide +kernel
theorem dX6_rankOf_9 : decode cX6_rankOf 9 = .ok (.aload_n 0, 1) := by decide +kernel
theorem dX6_rankOf_10 : decode cX6_rankOf 10 = .ok (.iload_n 2, 1) := by decide +kernel
theorem dX6_rankOf_11 : decode cX6_rankOf 11 = .ok (.invokevirtual 171, 3) := by decide +kernel
theorem dX6_rankOf_14 : decode cX6_rankOf 14 = .ok (.ifCond .ne 7, 3) := by decide +kernel
theorem dX6_rankOf_17 : decode cX6_rankOf 17 = .ok (.iconst 1, 1) := by decide +kernel
theorem dX6_rankOf_18 : decode cX6_rankOf 18 = .ok (.goto 17, 3) := by decide +kernel
theorem dX6_rankOf_21 : decode cX6_rankOf 21 = .ok (.aload_n 0, 1) := by decide +kernel
theorem dX6_rankOf_22 : decode cX6_rankOf 22 = .ok (.iload_n 1, 1) := by decide +kernel
theorem dX6_rankOf_23 : decode cX6_rankOf 23 = .ok (.iload_n 2, 1) := by decide +kernel
theorem dX6_rankOf_24 : decode cX6_rankOf 24 = .ok (.invokevirtual 183, 3) := by decide +kernel
theorem dX6_rankOf_27 : decode cX6_rankOf 27 = .ok (.ifCond .ne 7, 3) := by decide +kernel
theorem dX6_rankOf_30 : decode cX6_rankOf 30 = .ok (.iconst 2, 1) := by decide +kernel
theorem dX6_rankOf_31 : decode cX6_rankOf 31 = .ok (.goto 4, 3) := by decide +kernel
theorem dX6_rankOf_34 : decode cX6_rankOf 34 = .ok (.iconst 0, 1) := by decide +kernel
theorem dX6_rankOf_35 : decode cX6_rankOf 35 = .ok (.putfield 80, 3) := by decide +kernel
theorem dX6_rankOf_38 : decode cX6_rankOf 38 = .ok (.aload_n 0, 1) := by decide +kernel
theorem dX6_rankOf_39 : decode cX6_rankOf 39 = .ok (.getfield 80, 3) := by decide +kernel
theorem dX6_rankOf_42 : decode cX6_rankOf 42 = .ok (.ifCond .le 7, 3) := by decide +kernel
theorem dX6_rankOf_45 : decode cX6_rankOf 45 = .ok (.iconst 0, 1) := by decide +kernel
theorem dX6_rankOf_46 : decode cX6_rankOf 46 = .ok (.goto 9, 3) := by decide +kernel
theorem dX6_rankOf_49 : decode cX6_rankOf 49 = .ok (.aload_n 0, 1) := by decide +kernel
theorem dX6_rankOf_50 : decode cX6_rankOf 50 = .ok (.iload_n 1, 1) := by decide +kernel
theorem dX6_rankOf_51 : decode cX6_rankOf 51 = .ok (.iload_n 2, 1) := by decide +kernel
theorem dX6_rankOf_52 : decode cX6_rankOf 52 = .ok (.invokevirtual 192, 3) := by decide +kernel
theorem dX6_rankOf_55 : decode cX6_rankOf 55 = .ok (.ireturn, 1) := by decide +kernel
theorem dX6_isReadBy_0 : decode cX6_isReadBy 0 = .ok (.aload_n 0, 1) := by decide +kernel
theorem dX6_isReadBy_1 : decode cX6_isReadBy 1 = .ok (.getfield 65, 3) := by decide +kernel
theorem dX6_isReadBy_4 : decode cX6_isReadBy 4 = .ok (.bipush 30, 2) := by decide +kernel
theorem dX6_isReadBy_6 : decode cX6_isReadBy 6 = .ok (.iload_n 1, 1) := by decide +kernel
theorem dX6_isReadBy_7 : decode cX6_isReadBy 7 = .ok (.imul, 1) := by decide +kernel
theorem dX6_isReadBy_8 : decode cX6_isReadBy 8 = .ok (.iload_n 2, 1) := by decide +kernel
theorem dX6_isReadBy_9 : decode cX6_isReadBy 9 = .ok (.iadd, 1) := by decide +kernel
theorem dX6_isReadBy_10 : decode cX6_isReadBy 10 = .ok (.iaload, 1) := by decide +kernel
theorem dX6_isReadBy_11 : decode cX6_isReadBy 11 = .ok (.iconst 2, 1) := by decide +kernel
theorem dX6_isReadBy_12 : decode cX6_isReadBy 12 = .ok (.if_icmp .ne 22, 3) := by decide +kernel
theorem dX6_isReadBy_15 : decode cX6_isReadBy 15 = .ok (.aload_n 0, 1) := by decide +kernel
theorem dX6_isReadBy_16 : decode cX6_isReadBy 16 = .ok (.getfield 71, 3) := by decide +kernel
theorem dX6_isReadBy_19 : decode cX6_isReadBy 19 = .ok (.bipush 30, 2) := by decide +kernel
theorem dX6_isReadBy_21 : decode cX6_isReadBy 21 = .ok (.iload_n 1, 1) := by decide +kernel
theorem dX6_isReadBy_22 : decode cX6_isReadBy 22 = .ok (.imul, 1) := by decide +kernel
theorem dX6_isReadBy_23 : decode cX6_isReadBy 23 = .ok (.iload_n 2, 1) := by decide +kernel
theorem dX6_isReadBy_24 : decode cX6_isReadBy 24 = .ok (.iadd, 1) := by decide +kernel
theorem dX6_isReadBy_25 : decode cX6_isReadBy 25 = .ok (.iaload, 1) := by decide +kernel
theorem dX6_isReadBy_26 : decode cX6_isReadBy 26 = .ok (.iload_n 3, 1) := by decide +kernel
theorem dX6_isReadBy_27 : decode cX6_isReadBy 27 = .ok (.if_icmp .lt 7, 3) := by decide +kernel
theorem dX6_isReadBy_30 : decode cX6_isReadBy 30 = .ok (.iconst 1, 1) := by decide +kernel
theorem dX6_isReadBy_31 : decode cX6_isReadBy 31 = .ok (.goto 4, 3) := by decide +kernel
theorem dX6_isReadBy_34 : decode cX6_isReadBy 34 = .ok (.iconst 0, 1) := by decide +kernel
theorem dX6_isReadBy_35 : decode cX6_isReadBy 35 = .ok (.ireturn, 1) := by decide +kernel
theorem dX6_isReadNow_0 : decode cX6_isReadNow 0 = .ok (.aload_n 0, 1) := by decide +kernel
theorem dX6_isReadNow_1 : decode cX6_isReadNow 1 = .ok (.iconst 4, 1) := by decide +kernel
theorem dX6_isReadNow_2 : decode cX6_isReadNow 2 = .ok (.iload_n 1, 1) := by decide +kernel
theorem dX6_isReadNow_3 : decode cX6_isReadNow 3 = .ok (.aload_n 0, 1) := by decide +kernel
theorem dX6_isReadNow_4 : decode cX6_isReadNow 4 = .ok (.getfield 32, 3) := by decide +kernel
theorem dX6_isReadNow_7 : decode cX6_isReadNow 7 = .ok (.iload_n 1, 1) := by decide +kernel
theorem dX6_isReadNow_8 : decode cX6_isReadNow 8 = .ok (.iaload, 1) := by decide +kernel
theorem dX6_isReadNow_9 : decode cX6_isReadNow 9 = .ok (.invokevirtual 201, 3) := by decide +kernel
theorem dX6_isReadNow_12 : decode cX6_isReadNow 12 = .ok (.ireturn, 1) := by decide +kernel
theorem dX6_unreadIn_0 : decode cX6_unreadIn 0 = .ok (.iconst 0, 1) := by decide +kernel
theorem dX6_unreadIn_1 : decode cX6_unreadIn 1 = .ok (.istore_n 2, 1) := by decide +kernel
theorem dX6_unreadIn_2 : decode cX6_unreadIn 2 = .ok (.iconst 0, 1) := by decide +kernel
theorem dX6_unreadIn_3 : decode cX6_unreadIn 3 = .ok (.istore_n 3, 1) := by decide +kernel
theorem dX6_unreadIn_4 : decode cX6_unreadIn 4 = .ok (.iload_n 3, 1) := by decide +kernel
theorem dX6_unreadIn_5 : decode cX6_unreadIn 5 = .ok (.aload_n 0, 1) := by decide +kernel
theorem dX6_unreadIn_6 : decode cX6_unreadIn 6 = .ok (.getfield 96, 3) := by decide +kernel
theorem dX6_unreadIn_9 : decode cX6_unreadIn 9 = .ok (.if_icmp .ge 34, 3) := by decide +kernel
theorem dX6_unreadIn_12 : decode cX6_unreadIn 12 = .ok (.iload_n 2, 1) := by decide +kernel
theorem dX6_unreadIn_13 : decode cX6_unreadIn 13 = .ok (.aload_n 0, 1) := by decide +kernel
theorem dX6_unreadIn_14 : decode cX6_unreadIn 14 = .ok (.iload_n 1, 1) := by decide +kernel
theorem dX6_unreadIn_15 : decode cX6_unreadIn 15 = .ok (.iload_n 3, 1) := by decide +kernel
theorem dX6_unreadIn_16 : decode cX6_unreadIn 16 = .ok (.invokevirtual 183, 3) := by decide +kernel
theorem dX6_unreadIn_19 : decode cX6_unreadIn 19 = .ok (.ifCond .eq 15, 3) := by decide +kernel
theorem dX6_unreadIn_22 : decode cX6_unreadIn 22 = .ok (.aload_n 0, 1) := by decide +kernel
theorem dX6_unreadIn_23 : decode cX6_unreadIn 23 = .ok (.iload_n 3, 1) := by decide +kernel
theorem dX6_unreadIn_24 : decode cX6_unreadIn 24 = .ok (.invokevirtual 204, 3) := by decide +kernel
theorem dX6_unreadIn_27 : decode cX6_unreadIn 27 = .ok (.ifCond .ne 7, 3) := by decide +kernel
theorem dX6_unreadIn_30 : decode cX6_unreadIn 30 = .ok (.iconst 1, 1) := by decide +kernel
theorem dX6_unreadIn_31 : decode cX6_unreadIn 31 = .ok (.goto 4, 3) := by decide +kernel
theorem dX6_unreadIn_34 : decode cX6_unreadIn 34 = .ok (.iconst 0, 1) := by decide +kernel
theorem dX6_unreadIn_35 : decode cX6_unreadIn 35 = .ok (.iadd, 1) := by decide +kernel
theorem dX6_unreadIn_36 : decode cX6_unreadIn 36 = .ok (.istore_n 2, 1) := by decide +kernel
theorem dX6_unreadIn_37 : decode cX6_unreadIn 37 = .ok (.iinc 3 1, 3) := by decide +kernel
theorem dX6_unreadIn_40 : decode cX6_unreadIn 40 = .ok (.goto (-36), 3) := by decide +kernel
theorem dX6_unreadIn_43 : decode cX6_unreadIn 43 = .ok (.iload_n 2, 1) := by decide +kernel
theorem dX6_unreadIn_44 : decode cX6_unreadIn 44 = .ok (.ireturn, 1) := by decide +kernel
theorem dX6_unread_0 : decode cX6_unread 0 = .ok (.aload_n 0, 1) := by decide +kernel
theorem dX6_unread_1 : decode cX6_unread 1 = .ok (.aload_n 0, 1) := by decide +kernel
theorem dX6_unread_2 : decode cX6_unread 2 = .ok (.iload_n 1, 1) := by decide +kernel
theorem dX6_unread_3 : decode cX6_unread 3 = .ok (.invokevirtual 186, 3) := by decide +kernel
theorem dX6_unread_6 : decode cX6_unread 6 = .ok (.invokevirtual 137, 3) := by decide +kernel
theorem dX6_unread_9 : decode cX6_unread 9 = .ok (.ifCond .le 7, 3) := by decide +kernel
theorem dX6_unread_12 : decode cX6_unread 12 = .ok (.iconst 0, 1) := by decide +kernel
theorem dX6_unread_13 : decode cX6_unread 13 = .ok (.goto 8, 3) := by decide +kernel
theorem dX6_unread_16 : decode cX6_unread 16 = .ok (.aload_n 0, 1) := by decide +kernel
theorem dX6_unread_17 : decode cX6_unread 17 = .ok (.iload_n 1, 1) := by decide +kernel
theorem dX6_unread_18 : decode cX6_unread 18 = .ok (.invokevirtual 207, 3) := by decide +kernel
theorem dX6_unread_21 : decode cX6_unread 21 = .ok (.ireturn, 1) := by decide +kernel
theorem dX6_nextUnread_0 : decode cX6_nextUnread 0 = .ok (.aload_n 0, 1) := by decide +kernel
theorem dX6_nextUnread_1 : decode cX6_nextUnread 1 = .ok (.aload_n 0, 1) := by decide +kernel
theorem dX6_nextUnread_2 : decode cX6_nextUnread 2 = .ok (.iload_n 1, 1) := by decide +kernel
theorem dX6_nextUnread_3 : decode cX6_nextUnread 3 = .ok (.invokevirtual 186, 3) := by decide +kernel
theorem dX6_nextUnread_6 : decode cX6_nextUnread 6 = .ok (.ifCond .ne 7, 3) := by decide +kernel
theorem dX6_nextUnread_9 : decode cX6_nextUnread 9 = .ok (.iconst 1, 1) := by decide +kernel
theorem dX6_nextUnread_10 : decode cX6_nextUnread 10 = .ok (.goto 16, 3) := by decide +kernel
theorem dX6_nextUnread_13 : decode cX6_nextUnread 13 = .ok (.aload_n 0, 1) := by decide +kernel
theorem dX6_nextUnread_14 : decode cX6_nextUnread 14 = .ok (.iload_n 1, 1) := by decide +kernel
theorem dX6_nextUnread_15 : decode cX6_nextUnread 15 = .ok (.invokevirtual 207, 3) := by decide +kernel
theorem dX6_nextUnread_18 : decode cX6_nextUnread 18 = .ok (.ifCond .ne 7, 3) := by decide +kernel
theorem dX6_nextUnread_21 : decode cX6_nextUnread 21 = .ok (.iconst 2, 1) := by decide +kernel
theorem dX6_nextUnread_22 : decode cX6_nextUnread 22 = .ok (.goto 4, 3) := by decide +kernel
theorem dX6_nextUnread_25 : decode cX6_nextUnread 25 = .ok (.iconst 0, 1) := by decide +kernel
theorem dX6_nextUnread_26 : decode cX6_nextUnread 26 = .ok (.putfield 80, 3) := by decide +kernel
theorem dX6_nextUnread_29 : decode cX6_nextUnread 29 = .ok (.aload_n 0, 1) := by decide +kernel
theorem dX6_nextUnread_30 : decode cX6_nextUnread 30 = .ok (.getfield 80, 3) := by decide +kernel
theorem dX6_nextUnread_33 : decode cX6_nextUnread 33 = .ok (.ifCond .le 5, 3) := by decide +kernel
theorem dX6_nextUnread_36 : decode cX6_nextUnread 36 = .ok (.iconst 0, 1) := by decide +kernel
theorem dX6_nextUnread_37 : decode cX6_nextUnread 37 = .ok (.ireturn, 1) := by decide +kernel
theorem dX6_nextUnread_38 : decode cX6_nextUnread 38 = .ok (.iconst 0, 1) := by decide +kernel
theorem dX6_nextUnread_39 : decode cX6_nextUnread 39 = .ok (.istore_n 2, 1) := by decide +kernel
theorem dX6_nextUnread_40 : decode cX6_nextUnread 40 = .ok (.aload_n 0, 1) := by decide +kernel
theorem dX6_nextUnread_41 : decode cX6_nextUnread 41 = .ok (.aload_n 0, 1) := by decide +kernel
theorem dX6_nextUnread_42 : decode cX6_nextUnread 42 = .ok (.iload_n 1, 1) := by decide +kernel
theorem dX6_nextUnread_43 : decode cX6_nextUnread 43 = .ok (.iload_n 2, 1) := by decide +kernel
theorem dX6_nextUnread_44 : decode cX6_nextUnread 44 = .ok (.invokevirtual 195, 3) := by decide +kernel
theorem dX6_nextUnread_47 : decode cX6_nextUnread 47 = .ok (.invokevirtual 204, 3) := by decide +kernel
theorem dX6_nextUnread_50 : decode cX6_nextUnread 50 = .ok (.ifCond .eq 9, 3) := by decide +kernel
theorem dX6_nextUnread_53 : decode cX6_nextUnread 53 = .ok (.iinc 2 1, 3) := by decide +kernel
theorem dX6_nextUnread_56 : decode cX6_nextUnread 56 = .ok (.goto (-16), 3) := by decide +kernel
theorem dX6_nextUnread_59 : decode cX6_nextUnread 59 = .ok (.aload_n 0, 1) := by decide +kernel
theorem dX6_nextUnread_60 : decode cX6_nextUnread 60 = .ok (.iload_n 1, 1) := by decide +kernel
theorem dX6_nextUnread_61 : decode cX6_nextUnread 61 = .ok (.iload_n 2, 1) := by decide +kernel
theorem dX6_nextUnread_62 : decode cX6_nextUnread 62 = .ok (.invokevirtual 195, 3) := by decide +kernel
theorem dX6_nextUnread_65 : decode cX6_nextUnread 65 = .ok (.ireturn, 1) := by decide +kernel
theorem dX6_readShare_0 : decode cX6_readShare 0 = .ok (.aload_n 0, 1) := by decide +kernel
theorem dX6_readShare_1 : decode cX6_readShare 1 = .ok (.aload_n 0, 1) := by decide +kernel
theorem dX6_readShare_2 : decode cX6_readShare 2 = .ok (.iload_n 1, 1) := by decide +kernel
theorem dX6_readShare_3 : decode cX6_readShare 3 = .ok (.invokevirtual 186, 3) := by decide +kernel
theorem dX6_readShare_6 : decode cX6_readShare 6 = .ok (.ifCond .ne 7, 3) := by decide +kernel
theorem dX6_readShare_9 : decode cX6_readShare 9 = .ok (.iconst 1, 1) := by decide +kernel
theorem dX6_readShare_10 : decode cX6_readShare 10 = .ok (.goto 16, 3) := by decide +kernel
theorem dX6_readShare_13 : decode cX6_readShare 13 = .ok (.aload_n 0, 1) := by decide +kernel
theorem dX6_readShare_14 : decode cX6_readShare 14 = .ok (.iload_n 1, 1) := by decide +kernel
theorem dX6_readShare_15 : decode cX6_readShare 15 = .ok (.invokevirtual 189, 3) := by decide +kernel
theorem dX6_readShare_18 : decode cX6_readShare 18 = .ok (.ifCond .ne 7, 3) := by decide +kernel
theorem dX6_readShare_21 : decode cX6_readShare 21 = .ok (.iconst 2, 1) := by decide +kernel
theorem dX6_readShare_22 : decode cX6_readShare 22 = .ok (.goto 4, 3) := by decide +kernel
theorem dX6_readShare_25 : decode cX6_readShare 25 = .ok (.iconst 0, 1) := by decide +kernel
theorem dX6_readShare_26 : decode cX6_readShare 26 = .ok (.putfield 80, 3) := by decide +kernel
theorem dX6_readShare_29 : decode cX6_readShare 29 = .ok (.aload_n 0, 1) := by decide +kernel
theorem dX6_readShare_30 : decode cX6_readShare 30 = .ok (.getfield 80, 3) := by decide +kernel
theorem dX6_readShare_33 : decode cX6_readShare 33 = .ok (.ifCond .le 7, 3) := by decide +kernel
theorem dX6_readShare_36 : decode cX6_readShare 36 = .ok (.fconst 0, 1) := by decide +kernel
theorem dX6_readShare_37 : decode cX6_readShare 37 = .ok (.goto 22, 3) := by decide +kernel
theorem dX6_readShare_40 : decode cX6_readShare 40 = .ok (.aload_n 0, 1) := by decide +kernel
theorem dX6_readShare_41 : decode cX6_readShare 41 = .ok (.iload_n 1, 1) := by decide +kernel
theorem dX6_readShare_42 : decode cX6_readShare 42 = .ok (.invokevirtual 189, 3) := by decide +kernel
theorem dX6_readShare_45 : decode cX6_readShare 45 = .ok (.aload_n 0, 1) := by decide +kernel
theorem dX6_readShare_46 : decode cX6_readShare 46 = .ok (.iload_n 1, 1) := by decide +kernel
theorem dX6_readShare_47 : decode cX6_readShare 47 = .ok (.invokevirtual 207, 3) := by decide +kernel
theorem dX6_readShare_50 : decode cX6_readShare 50 = .ok (.isub, 1) := by decide +kernel
theorem dX6_readShare_51 : decode cX6_readShare 51 = .ok (.i2f, 1) := by decide +kernel
theorem dX6_readShare_52 : decode cX6_readShare 52 = .ok (.aload_n 0, 1) := by decide +kernel
theorem dX6_readShare_53 : decode cX6_readShare 53 = .ok (.iload_n 1, 1) := by decide +kernel
theorem dX6_readShare_54 : decode cX6_readShare 54 = .ok (.invokevirtual 189, 3) := by decide +kernel
theorem dX6_readShare_57 : decode cX6_readShare 57 = .ok (.i2f, 1) := by decide +kernel
theorem dX6_readShare_58 : decode cX6_readShare 58 = .ok (.fdiv, 1) := by decide +kernel
theorem dX6_readShare_59 : decode cX6_readShare 59 = .ok (.freturn, 1) := by decide +kernel
theorem dX6_copies_0 : decode cX6_copies 0 = .ok (.aload_n 0, 1) := by decide +kernel
theorem dX6_copies_1 : decode cX6_copies 1 = .ok (.getfield 65, 3) := by decide +kernel
theorem dX6_copies_4 : decode cX6_copies 4 = .ok (.bipush 30, 2) := by decide +kernel
theorem dX6_copies_6 : decode cX6_copies 6 = .ok (.iload_n 2, 1) := by decide +kernel
theorem dX6_copies_7 : decode cX6_copies 7 = .ok (.imul, 1) := by decide +kernel
theorem dX6_copies_8 : decode cX6_copies 8 = .ok (.iload_n 3, 1) := by decide +kernel
theorem dX6_copies_9 : decode cX6_copies 9 = .ok (.iadd, 1) := by decide +kernel
theorem dX6_copies_10 : decode cX6_copies 10 = .ok (.aload_n 0, 1) := by decide +kernel
theorem dX6_copies_11 : decode cX6_copies 11 = .ok (.getfield 65, 3) := by decide +kernel
theorem dX6_copies_14 : decode cX6_copies 14 = .ok (.bipush 30, 2) := by decide +kernel
theorem dX6_copies_16 : decode cX6_copies 16 = .ok (.iload_n 1, 1) := by decide +kernel
theorem dX6_copies_17 : decode cX6_copies 17 = .ok (.imul, 1) := by decide +kernel
theorem dX6_copies_18 : decode cX6_copies 18 = .ok (.iload_n 3, 1) := by decide +kernel
theorem dX6_copies_19 : decode cX6_copies 19 = .ok (.iadd, 1) := by decide +kernel
theorem dX6_copies_20 : decode cX6_copies 20 = .ok (.iaload, 1) := by decide +kernel
theorem dX6_copies_21 : decode cX6_copies 21 = .ok (.iastore, 1) := by decide +kernel
theorem dX6_copies_22 : decode cX6_copies 22 = .ok (.aload_n 0, 1) := by decide +kernel
theorem dX6_copies_23 : decode cX6_copies 23 = .ok (.getfield 68, 3) := by decide +kernel
theorem dX6_copies_26 : decode cX6_copies 26 = .ok (.bipush 30, 2) := by decide +kernel
theorem dX6_copies_28 : decode cX6_copies 28 = .ok (.iload_n 2, 1) := by decide +kernel
theorem dX6_copies_29 : decode cX6_copies 29 = .ok (.imul, 1) := by decide +kernel
theorem dX6_copies_30 : decode cX6_copies 30 = .ok (.iload_n 3, 1) := by decide +kernel
theorem dX6_copies_31 : decode cX6_copies 31 = .ok (.iadd, 1) := by decide +kernel
theorem dX6_copies_32 : decode cX6_copies 32 = .ok (.aload_n 0, 1) := by decide +kernel
theorem dX6_copies_33 : decode cX6_copies 33 = .ok (.getfield 68, 3) := by decide +kernel
theorem dX6_copies_36 : decode cX6_copies 36 = .ok (.bipush 30, 2) := by decide +kernel
theorem dX6_copies_38 : decode cX6_copies 38 = .ok (.iload_n 1, 1) := by decide +kernel
theorem dX6_copies_39 : decode cX6_copies 39 = .ok (.imul, 1) := by decide +kernel
theorem dX6_copies_40 : decode cX6_copies 40 = .ok (.iload_n 3, 1) := by decide +kernel
theorem dX6_copies_41 : decode cX6_copies 41 = .ok (.iadd, 1) := by decide +kernel
theorem dX6_copies_42 : decode cX6_copies 42 = .ok (.iaload, 1) := by decide +kernel
theorem dX6_copies_43 : decode cX6_copies 43 = .ok (.iastore, 1) := by decide +kernel
theorem dX6_copies_44 : decode cX6_copies 44 = .ok (.aload_n 0, 1) := by decide +kernel
theorem dX6_copies_45 : decode cX6_copies 45 = .ok (.getfield 71, 3) := by decide +kernel
theorem dX6_copies_48 : decode cX6_copies 48 = .ok (.bipush 30, 2) := by decide +kernel
theorem dX6_copies_50 : decode cX6_copies 50 = .ok (.iload_n 2, 1) := by decide +kernel
theorem dX6_copies_51 : decode cX6_copies 51 = .ok (.imul, 1) := by decide +kernel
theorem dX6_copies_52 : decode cX6_copies 52 = .ok (.iload_n 3, 1) := by decide +kernel
theorem dX6_copies_53 : decode cX6_copies 53 = .ok (.iadd, 1) := by decide +kernel
theorem dX6_copies_54 : decode cX6_copies 54 = .ok (.aload_n 0, 1) := by decide +kernel
theorem dX6_copies_55 : decode cX6_copies 55 = .ok (.getfield 71, 3) := by decide +kernel
theorem dX6_copies_58 : decode cX6_copies 58 = .ok (.bipush 30, 2) := by decide +kernel
theorem dX6_copies_60 : decode cX6_copies 60 = .ok (.iload_n 1, 1) := by decide +kernel
theorem dX6_copies_61 : decode cX6_copies 61 = .ok (.imul, 1) := by decide +kernel
theorem dX6_copies_62 : decode cX6_copies 62 = .ok (.iload_n 3, 1) := by decide +kernel
theorem dX6_copies_63 : decode cX6_copies 63 = .ok (.iadd, 1) := by decide +kernel
theorem dX6_copies_64 : decode cX6_copies 64 = .ok (.iaload, 1) := by decide +kernel
theorem dX6_copies_65 : decode cX6_copies 65 = .ok (.iastore, 1) := by decide +kernel
theorem dX6_copies_66 : decode cX6_copies 66 = .ok (.return_, 1) := by decide +kernel
theorem dX6_learns_0 : decode cX6_learns 0 = .ok (.iconst 0, 1) := by decide +kernel
theorem dX6_learns_1 : decode cX6_learns 1 = .ok (.istore_n 2, 1) := by decide +kernel
theorem dX6_learns_2 : decode cX6_learns 2 = .ok (.iload_n 2, 1) := by decide +kernel
theorem dX6_learns_3 : decode cX6_learns 3 = .ok (.aload_n 0, 1) := by decide +kernel
theorem dX6_learns_4 : decode cX6_learns 4 = .ok (.getfield 96, 3) := by decide +kernel
theorem dX6_learns_7 : decode cX6_learns 7 = .ok (.if_icmp .ge 43, 3) := by decide +kernel
theorem dX6_learns_10 : decode cX6_learns 10 = .ok (.aload_n 0, 1) := by decide +kernel
theorem dX6_learns_11 : decode cX6_learns 11 = .ok (.getfield 74, 3) := by decide +kernel
theorem dX6_learns_14 : decode cX6_learns 14 = .ok (.bipush 30, 2) := by decide +kernel
theorem dX6_learns_16 : decode cX6_learns 16 = .ok (.iload_n 1, 1) := by decide +kernel
theorem dX6_learns_17 : decode cX6_learns 17 = .ok (.imul, 1) := by decide +kernel
theorem dX6_learns_18 : decode cX6_learns 18 = .ok (.iload_n 2, 1) := by decide +kernel
theorem dX6_learns_19 : decode cX6_learns 19 = .ok (.iadd, 1) := by decide +kernel
theorem dX6_learns_20 : decode cX6_learns 20 = .ok (.aload_n 0, 1) := by decide +kernel
theorem dX6_learns_21 : decode cX6_learns 21 = .ok (.getfield 29, 3) := by decide +kernel
theorem dX6_learns_24 : decode cX6_learns 24 = .ok (.iload_n 2, 1) := by decide +kernel
theorem dX6_learns_25 : decode cX6_learns 25 = .ok (.iaload, 1) := by decide +kernel
theorem dX6_learns_26 : decode cX6_learns 26 = .ok (.iastore, 1) := by decide +kernel
theorem dX6_learns_27 : decode cX6_learns 27 = .ok (.aload_n 0, 1) := by decide +kernel
theorem dX6_learns_28 : decode cX6_learns 28 = .ok (.getfield 77, 3) := by decide +kernel
theorem dX6_learns_31 : decode cX6_learns 31 = .ok (.bipush 30, 2) := by decide +kernel
theorem dX6_learns_33 : decode cX6_learns 33 = .ok (.iload_n 1, 1) := by decide +kernel
theorem dX6_learns_34 : decode cX6_learns 34 = .ok (.imul, 1) := by decide +kernel
theorem dX6_learns_35 : decode cX6_learns 35 = .ok (.iload_n 2, 1) := by decide +kernel
theorem dX6_learns_36 : decode cX6_learns 36 = .ok (.iadd, 1) := by decide +kernel
theorem dX6_learns_37 : decode cX6_learns 37 = .ok (.aload_n 0, 1) := by decide +kernel
theorem dX6_learns_38 : decode cX6_learns 38 = .ok (.getfield 32, 3) := by decide +kernel
theorem dX6_learns_41 : decode cX6_learns 41 = .ok (.iload_n 2, 1) := by decide +kernel
theorem dX6_learns_42 : decode cX6_learns 42 = .ok (.iaload, 1) := by decide +kernel
theorem dX6_learns_43 : decode cX6_learns 43 = .ok (.iastore, 1) := by decide +kernel
theorem dX6_learns_44 : decode cX6_learns 44 = .ok (.iinc 2 1, 3) := by decide +kernel
theorem dX6_learns_47 : decode cX6_learns 47 = .ok (.goto (-45), 3) := by decide +kernel
theorem dX6_learns_50 : decode cX6_learns 50 = .ok (.return_, 1) := by decide +kernel
theorem dX6_addDevice_0 : decode cX6_addDevice 0 = .ok (.aload_n 0, 1) := by decide +kernel
theorem dX6_addDevice_1 : decode cX6_addDevice 1 = .ok (.aload_n 0, 1) := by decide +kernel
theorem dX6_addDevice_2 : decode cX6_addDevice 2 = .ok (.getfield 111, 3) := by decide +kernel
theorem dX6_addDevice_5 : decode cX6_addDevice 5 = .ok (.iconst 4, 1) := by decide +kernel
theorem dX6_addDevice_6 : decode cX6_addDevice 6 = .ok (.if_icmp .ge 7, 3) := by decide +kernel
theorem dX6_addDevice_9 : decode cX6_addDevice 9 = .ok (.iconst 1, 1) := by decide +kernel
theorem dX6_addDevice_10 : decode cX6_addDevice 10 = .ok (.goto 4, 3) := by decide +kernel
theorem dX6_addDevice_13 : decode cX6_addDevice 13 = .ok (.iconst 0, 1) := by decide +kernel
theorem dX6_addDevice_14 : decode cX6_addDevice 14 = .ok (.invokevirtual 137, 3) := by decide +kernel
theorem dX6_addDevice_17 : decode cX6_addDevice 17 = .ok (.ifCond .le 5, 3) := by decide +kernel
theorem dX6_addDevice_20 : decode cX6_addDevice 20 = .ok (.iconst 0, 1) := by decide +kernel
theorem dX6_addDevice_21 : decode cX6_addDevice 21 = .ok (.ireturn, 1) := by decide +kernel
theorem dX6_addDevice_22 : decode cX6_addDevice 22 = .ok (.iconst 0, 1) := by decide +kernel
theorem dX6_addDevice_23 : decode cX6_addDevice 23 = .ok (.istore_n 1, 1) := by decide +kernel
theorem dX6_addDevice_24 : decode cX6_addDevice 24 = .ok (.iload_n 1, 1) := by decide +kernel
theorem dX6_addDevice_25 : decode cX6_addDevice 25 = .ok (.aload_n 0, 1) := by decide +kernel
theorem dX6_addDevice_26 : decode cX6_addDevice 26 = .ok (.getfield 96, 3) := by decide +kernel
theorem dX6_addDevice_29 : decode cX6_addDevice 29 = .ok (.if_icmp .ge 19, 3) := by decide +kernel
theorem dX6_addDevice_32 : decode cX6_addDevice 32 = .ok (.aload_n 0, 1) := by decide +kernel
theorem dX6_addDevice_33 : decode cX6_addDevice 33 = .ok (.iconst 4, 1) := by decide +kernel
theorem dX6_addDevice_34 : decode cX6_addDevice 34 = .ok (.aload_n 0, 1) := by decide +kernel
theorem dX6_addDevice_35 : decode cX6_addDevice 35 = .ok (.getfield 111, 3) := by decide +kernel
theorem dX6_addDevice_38 : decode cX6_addDevice 38 = .ok (.iload_n 1, 1) := by decide +kernel
theorem dX6_addDevice_39 : decode cX6_addDevice 39 = .ok (.invokevirtual 210, 3) := by decide +kernel
theorem dX6_addDevice_42 : decode cX6_addDevice 42 = .ok (.iinc 1 1, 3) := by decide +kernel
theorem dX6_addDevice_45 : decode cX6_addDevice 45 = .ok (.goto (-21), 3) := by decide +kernel
theorem dX6_addDevice_48 : decode cX6_addDevice 48 = .ok (.aload_n 0, 1) := by decide +kernel
theorem dX6_addDevice_49 : decode cX6_addDevice 49 = .ok (.aload_n 0, 1) := by decide +kernel
theorem dX6_addDevice_50 : decode cX6_addDevice 50 = .ok (.getfield 111, 3) := by decide +kernel
theorem dX6_addDevice_53 : decode cX6_addDevice 53 = .ok (.invokevirtual 214, 3) := by decide +kernel
theorem dX6_addDevice_56 : decode cX6_addDevice 56 = .ok (.aload_n 0, 1) := by decide +kernel
theorem dX6_addDevice_57 : decode cX6_addDevice 57 = .ok (.dup, 1) := by decide +kernel
theorem dX6_addDevice_58 : decode cX6_addDevice 58 = .ok (.getfield 111, 3) := by decide +kernel
theorem dX6_addDevice_61 : decode cX6_addDevice 61 = .ok (.iconst 1, 1) := by decide +kernel
theorem dX6_addDevice_62 : decode cX6_addDevice 62 = .ok (.iadd, 1) := by decide +kernel
theorem dX6_addDevice_63 : decode cX6_addDevice 63 = .ok (.putfield 111, 3) := by decide +kernel
theorem dX6_addDevice_66 : decode cX6_addDevice 66 = .ok (.aload_n 0, 1) := by decide +kernel
theorem dX6_addDevice_67 : decode cX6_addDevice 67 = .ok (.getfield 111, 3) := by decide +kernel
theorem dX6_addDevice_70 : decode cX6_addDevice 70 = .ok (.iconst 1, 1) := by decide +kernel
theorem dX6_addDevice_71 : decode cX6_addDevice 71 = .ok (.isub, 1) := by decide +kernel
theorem dX6_addDevice_72 : decode cX6_addDevice 72 = .ok (.ireturn, 1) := by decide +kernel
theorem dX6_isDevice_0 : decode cX6_isDevice 0 = .ok (.iload_n 1, 1) := by decide +kernel
theorem dX6_isDevice_1 : decode cX6_isDevice 1 = .ok (.iconst 0, 1) := by decide +kernel
theorem dX6_isDevice_2 : decode cX6_isDevice 2 = .ok (.aload_n 0, 1) := by decide +kernel
theorem dX6_isDevice_3 : decode cX6_isDevice 3 = .ok (.getfield 111, 3) := by decide +kernel
theorem dX6_isDevice_6 : decode cX6_isDevice 6 = .ok (.iconst 1, 1) := by decide +kernel
theorem dX6_isDevice_7 : decode cX6_isDevice 7 = .ok (.isub, 1) := by decide +kernel
theorem dX6_isDevice_8 : decode cX6_isDevice 8 = .ok (.invokestatic 128, 3) := by decide +kernel
theorem dX6_isDevice_11 : decode cX6_isDevice 11 = .ok (.ireturn, 1) := by decide +kernel
theorem dX6_knows_0 : decode cX6_knows 0 = .ok (.aload_n 0, 1) := by decide +kernel
theorem dX6_knows_1 : decode cX6_knows 1 = .ok (.getfield 74, 3) := by decide +kernel
theorem dX6_knows_4 : decode cX6_knows 4 = .ok (.bipush 30, 2) := by decide +kernel
theorem dX6_knows_6 : decode cX6_knows 6 = .ok (.iload_n 1, 1) := by decide +kernel
theorem dX6_knows_7 : decode cX6_knows 7 = .ok (.imul, 1) := by decide +kernel
theorem dX6_knows_8 : decode cX6_knows 8 = .ok (.iload_n 2, 1) := by decide +kernel
theorem dX6_knows_9 : decode cX6_knows 9 = .ok (.iadd, 1) := by decide +kernel
theorem dX6_knows_10 : decode cX6_knows 10 = .ok (.iaload, 1) := by decide +kernel
theorem dX6_knows_11 : decode cX6_knows 11 = .ok (.ifCond .le 7, 3) := by decide +kernel
theorem dX6_knows_14 : decode cX6_knows 14 = .ok (.iconst 1, 1) := by decide +kernel
theorem dX6_knows_15 : decode cX6_knows 15 = .ok (.goto 4, 3) := by decide +kernel
theorem dX6_knows_18 : decode cX6_knows 18 = .ok (.iconst 0, 1) := by decide +kernel
theorem dX6_knows_19 : decode cX6_knows 19 = .ok (.ireturn, 1) := by decide +kernel
theorem dX6_isReadAt_0 : decode cX6_isReadAt 0 = .ok (.aload_n 0, 1) := by decide +kernel
theorem dX6_isReadAt_1 : decode cX6_isReadAt 1 = .ok (.iload_n 1, 1) := by decide +kernel
theorem dX6_isReadAt_2 : decode cX6_isReadAt 2 = .ok (.iload_n 2, 1) := by decide +kernel
theorem dX6_isReadAt_3 : decode cX6_isReadAt 3 = .ok (.aload_n 0, 1) := by decide +kernel
theorem dX6_isReadAt_4 : decode cX6_isReadAt 4 = .ok (.getfield 77, 3) := by decide +kernel
theorem dX6_isReadAt_7 : decode cX6_isReadAt 7 = .ok (.bipush 30, 2) := by decide +kernel
theorem dX6_isReadAt_9 : decode cX6_isReadAt 9 = .ok (.iload_n 1, 1) := by decide +kernel
theorem dX6_isReadAt_10 : decode cX6_isReadAt 10 = .ok (.imul, 1) := by decide +kernel
theorem dX6_isReadAt_11 : decode cX6_isReadAt 11 = .ok (.iload_n 2, 1) := by decide +kernel
theorem dX6_isReadAt_12 : decode cX6_isReadAt 12 = .ok (.iadd, 1) := by decide +kernel
theorem dX6_isReadAt_13 : decode cX6_isReadAt 13 = .ok (.iaload, 1) := by decide +kernel
theorem dX6_isReadAt_14 : decode cX6_isReadAt 14 = .ok (.invokevirtual 201, 3) := by decide +kernel
theorem dX6_isReadAt_17 : decode cX6_isReadAt 17 = .ok (.ireturn, 1) := by decide +kernel
theorem dX6_marks_0 : decode cX6_marks 0 = .ok (.aload_n 0, 1) := by decide +kernel
theorem dX6_marks_1 : decode cX6_marks 1 = .ok (.getfield 65, 3) := by decide +kernel
theorem dX6_marks_4 : decode cX6_marks 4 = .ok (.bipush 30, 2) := by decide +kernel
theorem dX6_marks_6 : decode cX6_marks 6 = .ok (.iload_n 1, 1) := by decide +kernel
theorem dX6_marks_7 : decode cX6_marks 7 = .ok (.imul, 1) := by decide +kernel
theorem dX6_marks_8 : decode cX6_marks 8 = .ok (.iload_n 2, 1) := by decide +kernel
theorem dX6_marks_9 : decode cX6_marks 9 = .ok (.iadd, 1) := by decide +kernel
theorem dX6_marks_10 : decode cX6_marks 10 = .ok (.iload_n 3, 1) := by decide +kernel
theorem dX6_marks_11 : decode cX6_marks 11 = .ok (.ifCond .eq 7, 3) := by decide +kernel
theorem dX6_marks_14 : decode cX6_marks 14 = .ok (.iconst 2, 1) := by decide +kernel
theorem dX6_marks_15 : decode cX6_marks 15 = .ok (.goto 4, 3) := by decide +kernel
theorem dX6_marks_18 : decode cX6_marks 18 = .ok (.iconst 1, 1) := by decide +kernel
theorem dX6_marks_19 : decode cX6_marks 19 = .ok (.iastore, 1) := by decide +kernel
theorem dX6_marks_20 : decode cX6_marks 20 = .ok (.aload_n 0, 1) := by decide +kernel
theorem dX6_marks_21 : decode cX6_marks 21 = .ok (.getfield 68, 3) := by decide +kernel
theorem dX6_marks_24 : decode cX6_marks 24 = .ok (.bipush 30, 2) := by decide +kernel
theorem dX6_marks_26 : decode cX6_marks 26 = .ok (.iload_n 1, 1) := by decide +kernel
theorem dX6_marks_27 : decode cX6_marks 27 = .ok (.imul, 1) := by decide +kernel
theorem dX6_marks_28 : decode cX6_marks 28 = .ok (.iload_n 2, 1) := by decide +kernel
theorem dX6_marks_29 : decode cX6_marks 29 = .ok (.iadd, 1) := by decide +kernel
theorem dX6_marks_30 : decode cX6_marks 30 = .ok (.aload_n 0, 1) := by decide +kernel
theorem dX6_marks_31 : decode cX6_marks 31 = .ok (.getfield 84, 3) := by decide +kernel
theorem dX6_marks_34 : decode cX6_marks 34 = .ok (.iastore, 1) := by decide +kernel
theorem dX6_marks_35 : decode cX6_marks 35 = .ok (.aload_n 0, 1) := by decide +kernel
theorem dX6_marks_36 : decode cX6_marks 36 = .ok (.getfield 71, 3) := by decide +kernel
theorem dX6_marks_39 : decode cX6_marks 39 = .ok (.bipush 30, 2) := by decide +kernel
theorem dX6_marks_41 : decode cX6_marks 41 = .ok (.iload_n 1, 1) := by decide +kernel
theorem dX6_marks_42 : decode cX6_marks 42 = .ok (.imul, 1) := by decide +kernel
theorem dX6_marks_43 : decode cX6_marks 43 = .ok (.iload_n 2, 1) := by decide +kernel
theorem dX6_marks_44 : decode cX6_marks 44 = .ok (.iadd, 1) := by decide +kernel
theorem dX6_marks_45 : decode cX6_marks 45 = .ok (.aload_n 0, 1) := by decide +kernel
theorem dX6_marks_46 : decode cX6_marks 46 = .ok (.getfield 74, 3) := by decide +kernel
theorem dX6_marks_49 : decode cX6_marks 49 = .ok (.bipush 30, 2) := by decide +kernel
theorem dX6_marks_51 : decode cX6_marks 51 = .ok (.iload_n 1, 1) := by decide +kernel
theorem dX6_marks_52 : decode cX6_marks 52 = .ok (.imul, 1) := by decide +kernel
theorem dX6_marks_53 : decode cX6_marks 53 = .ok (.iload_n 2, 1) := by decide +kernel
theorem dX6_marks_54 : decode cX6_marks 54 = .ok (.iadd, 1) := by decide +kernel
theorem dX6_marks_55 : decode cX6_marks 55 = .ok (.iaload, 1) := by decide +kernel
theorem dX6_marks_56 : decode cX6_marks 56 = .ok (.iconst 1, 1) := by decide +kernel
theorem dX6_marks_57 : decode cX6_marks 57 = .ok (.isub, 1) := by decide +kernel
theorem dX6_marks_58 : decode cX6_marks 58 = .ok (.iastore, 1) := by decide +kernel
theorem dX6_marks_59 : decode cX6_marks 59 = .ok (.return_, 1) := by decide +kernel
theorem dX6_mark_0 : decode cX6_mark 0 = .ok (.aload_n 0, 1) := by decide +kernel
theorem dX6_mark_1 : decode cX6_mark 1 = .ok (.aload_n 0, 1) := by decide +kernel
theorem dX6_mark_2 : decode cX6_mark 2 = .ok (.iload_n 1, 1) := by decide +kernel
theorem dX6_mark_3 : decode cX6_mark 3 = .ok (.invokevirtual 217, 3) := by decide +kernel
theorem dX6_mark_6 : decode cX6_mark 6 = .ok (.ifCond .eq 11, 3) := by decide +kernel
theorem dX6_mark_9 : decode cX6_mark 9 = .ok (.aload_n 0, 1) := by decide +kernel
theorem dX6_mark_10 : decode cX6_mark 10 = .ok (.iload_n 2, 1) := by decide +kernel
theorem dX6_mark_11 : decode cX6_mark 11 = .ok (.invokevirtual 171, 3) := by decide +kernel
theorem dX6_mark_14 : decode cX6_mark 14 = .ok (.ifCond .ne 7, 3) := by decide +kernel
theorem dX6_mark_17 : decode cX6_mark 17 = .ok (.iconst 1, 1) := by decide +kernel
theorem dX6_mark_18 : decode cX6_mark 18 = .ok (.goto 17, 3) := by decide +kernel
theorem dX6_mark_21 : decode cX6_mark 21 = .ok (.aload_n 0, 1) := by decide +kernel
theorem dX6_mark_22 : decode cX6_mark 22 = .ok (.iload_n 1, 1) := by decide +kernel
theorem dX6_mark_23 : decode cX6_mark 23 = .ok (.iload_n 2, 1) := by decide +kernel
theorem dX6_mark_24 : decode cX6_mark 24 = .ok (.invokevirtual 220, 3) := by decide +kernel
theorem dX6_mark_27 : decode cX6_mark 27 = .ok (.ifCond .ne 7, 3) := by decide +kernel
theorem dX6_mark_30 : decode cX6_mark 30 = .ok (.iconst 2, 1) := by decide +kernel
theorem dX6_mark_31 : decode cX6_mark 31 = .ok (.goto 4, 3) := by decide +kernel
theorem dX6_mark_34 : decode cX6_mark 34 = .ok (.iconst 0, 1) := by decide +kernel
theorem dX6_mark_35 : decode cX6_mark 35 = .ok (.putfield 80, 3) := by decide +kernel
theorem dX6_mark_38 : decode cX6_mark 38 = .ok (.aload_n 0, 1) := by decide +kernel
theorem dX6_mark_39 : decode cX6_mark 39 = .ok (.getfield 80, 3) := by decide +kernel
theorem dX6_mark_42 : decode cX6_mark 42 = .ok (.ifCond .le 5, 3) := by decide +kernel
theorem dX6_mark_45 : decode cX6_mark 45 = .ok (.iconst 0, 1) := by decide +kernel
theorem dX6_mark_46 : decode cX6_mark 46 = .ok (.ireturn, 1) := by decide +kernel
theorem dX6_mark_47 : decode cX6_mark 47 = .ok (.aload_n 0, 1) := by decide +kernel
theorem dX6_mark_48 : decode cX6_mark 48 = .ok (.iload_n 1, 1) := by decide +kernel
theorem dX6_mark_49 : decode cX6_mark 49 = .ok (.iload_n 2, 1) := by decide +kernel
theorem dX6_mark_50 : decode cX6_mark 50 = .ok (.invokevirtual 223, 3) := by decide +kernel
theorem dX6_mark_53 : decode cX6_mark 53 = .ok (.istore 4, 2) := by decide +kernel
theorem dX6_mark_55 : decode cX6_mark 55 = .ok (.aload_n 0, 1) := by decide +kernel
theorem dX6_mark_56 : decode cX6_mark 56 = .ok (.iload_n 1, 1) := by decide +kernel
theorem dX6_mark_57 : decode cX6_mark 57 = .ok (.iload_n 2, 1) := by decide +kernel
theorem dX6_mark_58 : decode cX6_mark 58 = .ok (.iload_n 3, 1) := by decide +kernel
theorem dX6_mark_59 : decode cX6_mark 59 = .ok (.invokevirtual 226, 3) := by decide +kernel
theorem dX6_mark_62 : decode cX6_mark 62 = .ok (.iload 4, 2) := by decide +kernel
theorem dX6_mark_64 : decode cX6_mark 64 = .ok (.ireturn, 1) := by decide +kernel
theorem dX6_markRiver_0 : decode cX6_markRiver 0 = .ok (.aload_n 0, 1) := by decide +kernel
theorem dX6_markRiver_1 : decode cX6_markRiver 1 = .ok (.aload_n 0, 1) := by decide +kernel
theorem dX6_markRiver_2 : decode cX6_markRiver 2 = .ok (.iload_n 1, 1) := by decide +kernel
theorem dX6_markRiver_3 : decode cX6_markRiver 3 = .ok (.invokevirtual 217, 3) := by decide +kernel
theorem dX6_markRiver_6 : decode cX6_markRiver 6 = .ok (.ifCond .eq 15, 3) := by decide +kernel
theorem dX6_markRiver_9 : decode cX6_markRiver 9 = .ok (.aload_n 0, 1) := by decide +kernel
theorem dX6_markRiver_10 : decode cX6_markRiver 10 = .ok (.iload_n 2, 1) := by decide +kernel
theorem dX6_markRiver_11 : decode cX6_markRiver 11 = .ok (.invokevirtual 186, 3) := by decide +kernel
theorem dX6_markRiver_14 : decode cX6_markRiver 14 = .ok (.ifCond .eq 7, 3) := by decide +kernel
theorem dX6_markRiver_17 : decode cX6_markRiver 17 = .ok (.iconst 1, 1) := by decide +kernel
theorem dX6_markRiver_18 : decode cX6_markRiver 18 = .ok (.goto 4, 3) := by decide +kernel
theorem dX6_markRiver_21 : decode cX6_markRiver 21 = .ok (.iconst 0, 1) := by decide +kernel
theorem dX6_markRiver_22 : decode cX6_markRiver 22 = .ok (.invokevirtual 137, 3) := by decide +kernel
theorem dX6_markRiver_25 : decode cX6_markRiver 25 = .ok (.ifCond .le 5, 3) := by decide +kernel
theorem dX6_markRiver_28 : decode cX6_markRiver 28 = .ok (.iconst 0, 1) := by decide +kernel
theorem dX6_markRiver_29 : decode cX6_markRiver 29 = .ok (.ireturn, 1) := by decide +kernel
theorem dX6_markRiver_30 : decode cX6_markRiver 30 = .ok (.iconst 0, 1) := by decide +kernel
theorem dX6_markRiver_31 : decode cX6_markRiver 31 = .ok (.istore_n 3, 1) := by decide +kernel
theorem dX6_markRiver_32 : decode cX6_markRiver 32 = .ok (.iconst 0, 1) := by decide +kernel
theorem dX6_markRiver_33 : decode cX6_markRiver 33 = .ok (.istore 4, 2) := by decide +kernel
theorem dX6_markRiver_35 : decode cX6_markRiver 35 = .ok (.iload 4, 2) := by decide +kernel
theorem dX6_markRiver_37 : decode cX6_markRiver 37 = .ok (.aload_n 0, 1) := by decide +kernel
theorem dX6_markRiver_38 : decode cX6_markRiver 38 = .ok (.getfield 96, 3) := by decide +kernel
theorem dX6_markRiver_41 : decode cX6_markRiver 41 = .ok (.if_icmp .ge 58, 3) := by decide +kernel
theorem dX6_markRiver_44 : decode cX6_markRiver 44 = .ok (.aload_n 0, 1) := by decide +kernel
theorem dX6_markRiver_45 : decode cX6_markRiver 45 = .ok (.iload_n 2, 1) := by decide +kernel
theorem dX6_markRiver_46 : decode cX6_markRiver 46 = .ok (.iload 4, 2) := by decide +kernel
theorem dX6_markRiver_48 : decode cX6_markRiver 48 = .ok (.invokevirtual 183, 3) := by decide +kernel
theorem dX6_markRiver_51 : decode cX6_markRiver 51 = .ok (.ifCond .eq 42, 3) := by decide +kernel
theorem dX6_markRiver_54 : decode cX6_markRiver 54 = .ok (.aload_n 0, 1) := by decide +kernel
theorem dX6_markRiver_55 : decode cX6_markRiver 55 = .ok (.iload_n 1, 1) := by decide +kernel
theorem dX6_markRiver_56 : decode cX6_markRiver 56 = .ok (.iload 4, 2) := by decide +kernel
theorem dX6_markRiver_58 : decode cX6_markRiver 58 = .ok (.invokevirtual 220, 3) := by decide +kernel
theorem dX6_markRiver_61 : decode cX6_markRiver 61 = .ok (.ifCond .ne 6, 3) := by decide +kernel
theorem dX6_markRiver_64 : decode cX6_markRiver 64 = .ok (.goto 29, 3) := by decide +kernel
theorem dX6_markRiver_67 : decode cX6_markRiver 67 = .ok (.iload_n 3, 1) := by decide +kernel
theorem dX6_markRiver_68 : decode cX6_markRiver 68 = .ok (.aload_n 0, 1) := by decide +kernel
theorem dX6_markRiver_69 : decode cX6_markRiver 69 = .ok (.iload_n 1, 1) := by decide +kernel
theorem dX6_markRiver_70 : decode cX6_markRiver 70 = .ok (.iload 4, 2) := by decide +kernel
theorem dX6_markRiver_72 : decode cX6_markRiver 72 = .ok (.invokevirtual 223, 3) := by decide +kernel
theorem dX6_markRiver_75 : decode cX6_markRiver 75 = .ok (.ifCond .eq 7, 3) := by decide +kernel
theorem dX6_markRiver_78 : decode cX6_markRiver 78 = .ok (.iconst 0, 1) := by decide +kernel
theorem dX6_markRiver_79 : decode cX6_markRiver 79 = .ok (.goto 4, 3) := by decide +kernel
theorem dX6_markRiver_82 : decode cX6_markRiver 82 = .ok (.iconst 1, 1) := by decide +kernel
theorem dX6_markRiver_83 : decode cX6_markRiver 83 = .ok (.iadd, 1) := by decide +kernel
theorem dX6_markRiver_84 : decode cX6_markRiver 84 = .ok (.istore_n 3, 1) := by decide +kernel
theorem dX6_markRiver_85 : decode cX6_markRiver 85 = .ok (.aload_n 0, 1) := by decide +kernel
theorem dX6_markRiver_86 : decode cX6_markRiver 86 = .ok (.iload_n 1, 1) := by decide +kernel
theorem dX6_markRiver_87 : decode cX6_markRiver 87 = .ok (.iload 4, 2) := by decide +kernel
theorem dX6_markRiver_89 : decode cX6_markRiver 89 = .ok (.iconst 1, 1) := by decide +kernel
theorem dX6_markRiver_90 : decode cX6_markRiver 90 = .ok (.invokevirtual 226, 3) := by decide +kernel
theorem dX6_markRiver_93 : decode cX6_markRiver 93 = .ok (.iinc 4 1, 3) := by decide +kernel
theorem dX6_markRiver_96 : decode cX6_markRiver 96 = .ok (.goto (-61), 3) := by decide +kernel
theorem dX6_markRiver_99 : decode cX6_markRiver 99 = .ok (.iload_n 3, 1) := by decide +kernel
theorem dX6_markRiver_100 : decode cX6_markRiver 100 = .ok (.ireturn, 1) := by decide +kernel
theorem dX6_wins_0 : decode cX6_wins 0 = .ok (.bipush 30, 2) := by decide +kernel
theorem dX6_wins_2 : decode cX6_wins 2 = .ok (.iload_n 1, 1) := by decide +kernel
theorem dX6_wins_3 : decode cX6_wins 3 = .ok (.imul, 1) := by decide +kernel
theorem dX6_wins_4 : decode cX6_wins 4 = .ok (.iload_n 2, 1) := by decide +kernel
theorem dX6_wins_5 : decode cX6_wins 5 = .ok (.iadd, 1) := by decide +kernel
theorem dX6_wins_6 : decode cX6_wins 6 = .ok (.istore_n 3, 1) := by decide +kernel
theorem dX6_wins_7 : decode cX6_wins 7 = .ok (.bipush 120, 2) := by decide +kernel
theorem dX6_wins_9 : decode cX6_wins 9 = .ok (.iload_n 2, 1) := by decide +kernel
theorem dX6_wins_10 : decode cX6_wins 10 = .ok (.iadd, 1) := by decide +kernel
theorem dX6_wins_11 : decode cX6_wins 11 = .ok (.istore 4, 2) := by decide +kernel
theorem dX6_wins_13 : decode cX6_wins 13 = .ok (.aload_n 0, 1) := by decide +kernel
theorem dX6_wins_14 : decode cX6_wins 14 = .ok (.getfield 65, 3) := by decide +kernel
theorem dX6_wins_17 : decode cX6_wins 17 = .ok (.iload_n 3, 1) := by decide +kernel
theorem dX6_wins_18 : decode cX6_wins 18 = .ok (.iaload, 1) := by decide +kernel
theorem dX6_wins_19 : decode cX6_wins 19 = .ok (.ifCond .eq 13, 3) := by decide +kernel
theorem dX6_wins_22 : decode cX6_wins 22 = .ok (.aload_n 0, 1) := by decide +kernel
theorem dX6_wins_23 : decode cX6_wins 23 = .ok (.getfield 65, 3) := by decide +kernel
theorem dX6_wins_26 : decode cX6_wins 26 = .ok (.iload 4, 2) := by decide +kernel
theorem dX6_wins_28 : decode cX6_wins 28 = .ok (.iaload, 1) := by decide +kernel
theorem dX6_wins_29 : decode cX6_wins 29 = .ok (.ifCond .ne 19, 3) := by decide +kernel
theorem dX6_wins_32 : decode cX6_wins 32 = .ok (.aload_n 0, 1) := by decide +kernel
theorem dX6_wins_33 : decode cX6_wins 33 = .ok (.getfield 65, 3) := by decide +kernel
theorem dX6_wins_36 : decode cX6_wins 36 = .ok (.iload 4, 2) := by decide +kernel
theorem dX6_wins_38 : decode cX6_wins 38 = .ok (.iaload, 1) := by decide +kernel
theorem dX6_wins_39 : decode cX6_wins 39 = .ok (.ifCond .ne 7, 3) := by decide +kernel
theorem dX6_wins_42 : decode cX6_wins 42 = .ok (.iconst 1, 1) := by decide +kernel
theorem dX6_wins_43 : decode cX6_wins 43 = .ok (.goto 4, 3) := by decide +kernel
theorem dX6_wins_46 : decode cX6_wins 46 = .ok (.iconst 0, 1) := by decide +kernel
theorem dX6_wins_47 : decode cX6_wins 47 = .ok (.ireturn, 1) := by decide +kernel
theorem dX6_wins_48 : decode cX6_wins 48 = .ok (.aload_n 0, 1) := by decide +kernel
theorem dX6_wins_49 : decode cX6_wins 49 = .ok (.getfield 68, 3) := by decide +kernel
theorem dX6_wins_52 : decode cX6_wins 52 = .ok (.iload_n 3, 1) := by decide +kernel
theorem dX6_wins_53 : decode cX6_wins 53 = .ok (.iaload, 1) := by decide +kernel
theorem dX6_wins_54 : decode cX6_wins 54 = .ok (.aload_n 0, 1) := by decide +kernel
theorem dX6_wins_55 : decode cX6_wins 55 = .ok (.getfield 68, 3) := by decide +kernel
theorem dX6_wins_58 : decode cX6_wins 58 = .ok (.iload 4, 2) := by decide +kernel
theorem dX6_wins_60 : decode cX6_wins 60 = .ok (.iaload, 1) := by decide +kernel
theorem dX6_wins_61 : decode cX6_wins 61 = .ok (.if_icmp .eq 25, 3) := by decide +kernel
theorem dX6_wins_64 : decode cX6_wins 64 = .ok (.aload_n 0, 1) := by decide +kernel
theorem dX6_wins_65 : decode cX6_wins 65 = .ok (.getfield 68, 3) := by decide +kernel
theorem dX6_wins_68 : decode cX6_wins 68 = .ok (.iload_n 3, 1) := by decide +kernel
theorem dX6_wins_69 : decode cX6_wins 69 = .ok (.iaload, 1) := by decide +kernel
theorem dX6_wins_70 : decode cX6_wins 70 = .ok (.aload_n 0, 1) := by decide +kernel
theorem dX6_wins_71 : decode cX6_wins 71 = .ok (.getfield 68, 3) := by decide +kernel
theorem dX6_wins_74 : decode cX6_wins 74 = .ok (.iload 4, 2) := by decide +kernel
theorem dX6_wins_76 : decode cX6_wins 76 = .ok (.iaload, 1) := by decide +kernel
theorem dX6_wins_77 : decode cX6_wins 77 = .ok (.if_icmp .le 7, 3) := by decide +kernel
theorem dX6_wins_80 : decode cX6_wins 80 = .ok (.iconst 1, 1) := by decide +kernel
theorem dX6_wins_81 : decode cX6_wins 81 = .ok (.goto 4, 3) := by decide +kernel
theorem dX6_wins_84 : decode cX6_wins 84 = .ok (.iconst 0, 1) := by decide +kernel
theorem dX6_wins_85 : decode cX6_wins 85 = .ok (.ireturn, 1) := by decide +kernel
theorem dX6_wins_86 : decode cX6_wins 86 = .ok (.aload_n 0, 1) := by decide +kernel
theorem dX6_wins_87 : decode cX6_wins 87 = .ok (.getfield 65, 3) := by decide +kernel
theorem dX6_wins_90 : decode cX6_wins 90 = .ok (.iload_n 3, 1) := by decide +kernel
theorem dX6_wins_91 : decode cX6_wins 91 = .ok (.iaload, 1) := by decide +kernel
theorem dX6_wins_92 : decode cX6_wins 92 = .ok (.aload_n 0, 1) := by decide +kernel
theorem dX6_wins_93 : decode cX6_wins 93 = .ok (.getfield 65, 3) := by decide +kernel
theorem dX6_wins_96 : decode cX6_wins 96 = .ok (.iload 4, 2) := by decide +kernel
theorem dX6_wins_98 : decode cX6_wins 98 = .ok (.iaload, 1) := by decide +kernel
theorem dX6_wins_99 : decode cX6_wins 99 = .ok (.if_icmp .eq 19, 3) := by decide +kernel
theorem dX6_wins_102 : decode cX6_wins 102 = .ok (.aload_n 0, 1) := by decide +kernel
theorem dX6_wins_103 : decode cX6_wins 103 = .ok (.getfield 65, 3) := by decide +kernel
theorem dX6_wins_106 : decode cX6_wins 106 = .ok (.iload_n 3, 1) := by decide +kernel
theorem dX6_wins_107 : decode cX6_wins 107 = .ok (.iaload, 1) := by decide +kernel
theorem dX6_wins_108 : decode cX6_wins 108 = .ok (.iconst 2, 1) := by decide +kernel
theorem dX6_wins_109 : decode cX6_wins 109 = .ok (.if_icmp .ne 7, 3) := by decide +kernel
theorem dX6_wins_112 : decode cX6_wins 112 = .ok (.iconst 1, 1) := by decide +kernel
theorem dX6_wins_113 : decode cX6_wins 113 = .ok (.goto 4, 3) := by decide +kernel
theorem dX6_wins_116 : decode cX6_wins 116 = .ok (.iconst 0, 1) := by decide +kernel
theorem dX6_wins_117 : decode cX6_wins 117 = .ok (.ireturn, 1) := by decide +kernel
theorem dX6_wins_118 : decode cX6_wins 118 = .ok (.aload_n 0, 1) := by decide +kernel
theorem dX6_wins_119 : decode cX6_wins 119 = .ok (.getfield 71, 3) := by decide +kernel
theorem dX6_wins_122 : decode cX6_wins 122 = .ok (.iload_n 3, 1) := by decide +kernel
theorem dX6_wins_123 : decode cX6_wins 123 = .ok (.iaload, 1) := by decide +kernel
theorem dX6_wins_124 : decode cX6_wins 124 = .ok (.aload_n 0, 1) := by decide +kernel
theorem dX6_wins_125 : decode cX6_wins 125 = .ok (.getfield 71, 3) := by decide +kernel
theorem dX6_wins_128 : decode cX6_wins 128 = .ok (.iload 4, 2) := by decide +kernel
theorem dX6_wins_130 : decode cX6_wins 130 = .ok (.iaload, 1) := by decide +kernel
theorem dX6_wins_131 : decode cX6_wins 131 = .ok (.if_icmp .lt 7, 3) := by decide +kernel
theorem dX6_wins_134 : decode cX6_wins 134 = .ok (.iconst 1, 1) := by decide +kernel
theorem dX6_wins_135 : decode cX6_wins 135 = .ok (.goto 4, 3) := by decide +kernel
theorem dX6_wins_138 : decode cX6_wins 138 = .ok (.iconst 0, 1) := by decide +kernel
theorem dX6_wins_139 : decode cX6_wins 139 = .ok (.ireturn, 1) := by decide +kernel
theorem dX6_sync_0 : decode cX6_sync 0 = .ok (.aload_n 0, 1) := by decide +kernel
theorem dX6_sync_1 : decode cX6_sync 1 = .ok (.aload_n 0, 1) := by decide +kernel
theorem dX6_sync_2 : decode cX6_sync 2 = .ok (.iload_n 1, 1) := by decide +kernel
theorem dX6_sync_3 : decode cX6_sync 3 = .ok (.invokevirtual 217, 3) := by decide +kernel
theorem dX6_sync_6 : decode cX6_sync 6 = .ok (.invokevirtual 137, 3) := by decide +kernel
theorem dX6_sync_9 : decode cX6_sync 9 = .ok (.ifCond .le 5, 3) := by decide +kernel
theorem dX6_sync_12 : decode cX6_sync 12 = .ok (.iconst 0, 1) := by decide +kernel
theorem dX6_sync_13 : decode cX6_sync 13 = .ok (.ireturn, 1) := by decide +kernel
theorem dX6_sync_14 : decode cX6_sync 14 = .ok (.iconst 0, 1) := by decide +kernel
theorem dX6_sync_15 : decode cX6_sync 15 = .ok (.istore_n 2, 1) := by decide +kernel
theorem dX6_sync_16 : decode cX6_sync 16 = .ok (.iconst 0, 1) := by decide +kernel
theorem dX6_sync_17 : decode cX6_sync 17 = .ok (.istore_n 3, 1) := by decide +kernel
theorem dX6_sync_18 : decode cX6_sync 18 = .ok (.iload_n 3, 1) := by decide +kernel
theorem dX6_sync_19 : decode cX6_sync 19 = .ok (.aload_n 0, 1) := by decide +kernel
theorem dX6_sync_20 : decode cX6_sync 20 = .ok (.getfield 96, 3) := by decide +kernel
theorem dX6_sync_23 : decode cX6_sync 23 = .ok (.if_icmp .ge 69, 3) := by decide +kernel
theorem dX6_sync_26 : decode cX6_sync 26 = .ok (.aload_n 0, 1) := by decide +kernel
theorem dX6_sync_27 : decode cX6_sync 27 = .ok (.iload_n 3, 1) := by decide +kernel
theorem dX6_sync_28 : decode cX6_sync 28 = .ok (.invokevirtual 204, 3) := by decide +kernel
theorem dX6_sync_31 : decode cX6_sync 31 = .ok (.istore 4, 2) := by decide +kernel
theorem dX6_sync_33 : decode cX6_sync 33 = .ok (.aload_n 0, 1) := by decide +kernel
theorem dX6_sync_34 : decode cX6_sync 34 = .ok (.iload_n 1, 1) := by decide +kernel
theorem dX6_sync_35 : decode cX6_sync 35 = .ok (.iload_n 3, 1) := by decide +kernel
theorem dX6_sync_36 : decode cX6_sync 36 = .ok (.invokevirtual 220, 3) := by decide +kernel
theorem dX6_sync_39 : decode cX6_sync 39 = .ok (.ifCond .eq 22, 3) := by decide +kernel
theorem dX6_sync_42 : decode cX6_sync 42 = .ok (.aload_n 0, 1) := by decide +kernel
theorem dX6_sync_43 : decode cX6_sync 43 = .ok (.iload_n 1, 1) := by decide +kernel
theorem dX6_sync_44 : decode cX6_sync 44 = .ok (.iload_n 3, 1) := by decide +kernel
theorem dX6_sync_45 : decode cX6_sync 45 = .ok (.invokevirtual 229, 3) := by decide +kernel
theorem dX6_sync_48 : decode cX6_sync 48 = .ok (.ifCond .eq 13, 3) := by decide +kernel
theorem dX6_sync_51 : decode cX6_sync 51 = .ok (.aload_n 0, 1) := by decide +kernel
theorem dX6_sync_52 : decode cX6_sync 52 = .ok (.iload_n 1, 1) := by decide +kernel
theorem dX6_sync_53 : decode cX6_sync 53 = .ok (.iconst 4, 1) := by decide +kernel
theorem dX6_sync_54 : decode cX6_sync 54 = .ok (.iload_n 3, 1) := by decide +kernel
theorem dX6_sync_55 : decode cX6_sync 55 = .ok (.invokevirtual 210, 3) := by decide +kernel
theorem dX6_sync_58 : decode cX6_sync 58 = .ok (.goto 10, 3) := by decide +kernel
theorem dX6_sync_61 : decode cX6_sync 61 = .ok (.aload_n 0, 1) := by decide +kernel
theorem dX6_sync_62 : decode cX6_sync 62 = .ok (.iconst 4, 1) := by decide +kernel
theorem dX6_sync_63 : decode cX6_sync 63 = .ok (.iload_n 1, 1) := by decide +kernel
theorem dX6_sync_64 : decode cX6_sync 64 = .ok (.iload_n 3, 1) := by decide +kernel
theorem dX6_sync_65 : decode cX6_sync 65 = .ok (.invokevirtual 210, 3) := by decide +kernel
theorem dX6_sync_68 : decode cX6_sync 68 = .ok (.iload_n 2, 1) := by decide +kernel
theorem dX6_sync_69 : decode cX6_sync 69 = .ok (.aload_n 0, 1) := by decide +kernel
theorem dX6_sync_70 : decode cX6_sync 70 = .ok (.iload_n 3, 1) := by decide +kernel
theorem dX6_sync_71 : decode cX6_sync 71 = .ok (.invokevirtual 204, 3) := by decide +kernel
theorem dX6_sync_74 : decode cX6_sync 74 = .ok (.iload 4, 2) := by decide +kernel
theorem dX6_sync_76 : decode cX6_sync 76 = .ok (.if_icmp .ne 7, 3) := by decide +kernel
theorem dX6_sync_79 : decode cX6_sync 79 = .ok (.iconst 0, 1) := by decide +kernel
theorem dX6_sync_80 : decode cX6_sync 80 = .ok (.goto 4, 3) := by decide +kernel
theorem dX6_sync_83 : decode cX6_sync 83 = .ok (.iconst 1, 1) := by decide +kernel
theorem dX6_sync_84 : decode cX6_sync 84 = .ok (.iadd, 1) := by decide +kernel
theorem dX6_sync_85 : decode cX6_sync 85 = .ok (.istore_n 2, 1) := by decide +kernel
theorem dX6_sync_86 : decode cX6_sync 86 = .ok (.iinc 3 1, 3) := by decide +kernel
theorem dX6_sync_89 : decode cX6_sync 89 = .ok (.goto (-71), 3) := by decide +kernel
theorem dX6_sync_92 : decode cX6_sync 92 = .ok (.aload_n 0, 1) := by decide +kernel
theorem dX6_sync_93 : decode cX6_sync 93 = .ok (.iload_n 1, 1) := by decide +kernel
theorem dX6_sync_94 : decode cX6_sync 94 = .ok (.invokevirtual 214, 3) := by decide +kernel
theorem dX6_sync_97 : decode cX6_sync 97 = .ok (.iload_n 2, 1) := by decide +kernel
theorem dX6_sync_98 : decode cX6_sync 98 = .ok (.ireturn, 1) := by decide +kernel
theorem dX6_isRead_0 : decode cX6_isRead 0 = .ok (.aload_n 0, 1) := by decide +kernel
theorem dX6_isRead_1 : decode cX6_isRead 1 = .ok (.aload_n 0, 1) := by decide +kernel
theorem dX6_isRead_2 : decode cX6_isRead 2 = .ok (.iload_n 1, 1) := by decide +kernel
theorem dX6_isRead_3 : decode cX6_isRead 3 = .ok (.invokevirtual 171, 3) := by decide +kernel
theorem dX6_isRead_6 : decode cX6_isRead 6 = .ok (.invokevirtual 137, 3) := by decide +kernel
theorem dX6_isRead_9 : decode cX6_isRead 9 = .ok (.ifCond .ne 15, 3) := by decide +kernel
theorem dX6_isRead_12 : decode cX6_isRead 12 = .ok (.aload_n 0, 1) := by decide +kernel
theorem dX6_isRead_13 : decode cX6_isRead 13 = .ok (.iload_n 1, 1) := by decide +kernel
theorem dX6_isRead_14 : decode cX6_isRead 14 = .ok (.invokevirtual 204, 3) := by decide +kernel
theorem dX6_isRead_17 : decode cX6_isRead 17 = .ok (.ifCond .eq 7, 3) := by decide +kernel
theorem dX6_isRead_20 : decode cX6_isRead 20 = .ok (.iconst 1, 1) := by decide +kernel
theorem dX6_isRead_21 : decode cX6_isRead 21 = .ok (.goto 4, 3) := by decide +kernel
theorem dX6_isRead_24 : decode cX6_isRead 24 = .ok (.iconst 0, 1) := by decide +kernel
theorem dX6_isRead_25 : decode cX6_isRead 25 = .ok (.ireturn, 1) := by decide +kernel
theorem dX6_isReadOn_0 : decode cX6_isReadOn 0 = .ok (.aload_n 0, 1) := by decide +kernel
theorem dX6_isReadOn_1 : decode cX6_isReadOn 1 = .ok (.aload_n 0, 1) := by decide +kernel
theorem dX6_isReadOn_2 : decode cX6_isReadOn 2 = .ok (.iload_n 1, 1) := by decide +kernel
theorem dX6_isReadOn_3 : decode cX6_isReadOn 3 = .ok (.invokevirtual 217, 3) := by decide +kernel
theorem dX6_isReadOn_6 : decode cX6_isReadOn 6 = .ok (.ifCond .eq 11, 3) := by decide +kernel
theorem dX6_isReadOn_9 : decode cX6_isReadOn 9 = .ok (.aload_n 0, 1) := by decide +kernel
theorem dX6_isReadOn_10 : decode cX6_isReadOn 10 = .ok (.iload_n 2, 1) := by decide +kernel
theorem dX6_isReadOn_11 : decode cX6_isReadOn 11 = .ok (.invokevirtual 171, 3) := by decide +kernel
theorem dX6_isReadOn_14 : decode cX6_isReadOn 14 = .ok (.ifCond .ne 7, 3) := by decide +kernel
theorem dX6_isReadOn_17 : decode cX6_isReadOn 17 = .ok (.iconst 1, 1) := by decide +kernel
theorem dX6_isReadOn_18 : decode cX6_isReadOn 18 = .ok (.goto 17, 3) := by decide +kernel
theorem dX6_isReadOn_21 : decode cX6_isReadOn 21 = .ok (.aload_n 0, 1) := by decide +kernel
theorem dX6_isReadOn_22 : decode cX6_isReadOn 22 = .ok (.iload_n 1, 1) := by decide +kernel
theorem dX6_isReadOn_23 : decode cX6_isReadOn 23 = .ok (.iload_n 2, 1) := by decide +kernel
theorem dX6_isReadOn_24 : decode cX6_isReadOn 24 = .ok (.invokevirtual 220, 3) := by decide +kernel
theorem dX6_isReadOn_27 : decode cX6_isReadOn 27 = .ok (.ifCond .ne 7, 3) := by decide +kernel
theorem dX6_isReadOn_30 : decode cX6_isReadOn 30 = .ok (.iconst 2, 1) := by decide +kernel
theorem dX6_isReadOn_31 : decode cX6_isReadOn 31 = .ok (.goto 4, 3) := by decide +kernel
theorem dX6_isReadOn_34 : decode cX6_isReadOn 34 = .ok (.iconst 0, 1) := by decide +kernel
theorem dX6_isReadOn_35 : decode cX6_isReadOn 35 = .ok (.putfield 80, 3) := by decide +kernel
theorem dX6_isReadOn_38 : decode cX6_isReadOn 38 = .ok (.aload_n 0, 1) := by decide +kernel
theorem dX6_isReadOn_39 : decode cX6_isReadOn 39 = .ok (.getfield 80, 3) := by decide +kernel
theorem dX6_isReadOn_42 : decode cX6_isReadOn 42 = .ok (.ifCond .ne 16, 3) := by decide +kernel
theorem dX6_isReadOn_45 : decode cX6_isReadOn 45 = .ok (.aload_n 0, 1) := by decide +kernel
theorem dX6_isReadOn_46 : decode cX6_isReadOn 46 = .ok (.iload_n 1, 1) := by decide +kernel
theorem dX6_isReadOn_47 : decode cX6_isReadOn 47 = .ok (.iload_n 2, 1) := by decide +kernel
theorem dX6_isReadOn_48 : decode cX6_isReadOn 48 = .ok (.invokevirtual 223, 3) := by decide +kernel
theorem dX6_isReadOn_51 : decode cX6_isReadOn 51 = .ok (.ifCond .eq 7, 3) := by decide +kernel
theorem dX6_isReadOn_54 : decode cX6_isReadOn 54 = .ok (.iconst 1, 1) := by decide +kernel
theorem dX6_isReadOn_55 : decode cX6_isReadOn 55 = .ok (.goto 4, 3) := by decide +kernel
theorem dX6_isReadOn_58 : decode cX6_isReadOn 58 = .ok (.iconst 0, 1) := by decide +kernel
theorem dX6_isReadOn_59 : decode cX6_isReadOn 59 = .ok (.ireturn, 1) := by decide +kernel
theorem dX6_knownVersions_0 : decode cX6_knownVersions 0 = .ok (.aload_n 0, 1) := by decide +kernel
theorem dX6_knownVersions_1 : decode cX6_knownVersions 1 = .ok (.aload_n 0, 1) := by decide +kernel
theorem dX6_knownVersions_2 : decode cX6_knownVersions 2 = .ok (.iload_n 1, 1) := by decide +kernel
theorem dX6_knownVersions_3 : decode cX6_knownVersions 3 = .ok (.invokevirtual 217, 3) := by decide +kernel
theorem dX6_knownVersions_6 : decode cX6_knownVersions 6 = .ok (.ifCond .eq 15, 3) := by decide +kernel
theorem dX6_knownVersions_9 : decode cX6_knownVersions 9 = .ok (.aload_n 0, 1) := by decide +kernel
theorem dX6_knownVersions_10 : decode cX6_knownVersions 10 = .ok (.iload_n 2, 1) := by decide +kernel
theorem dX6_knownVersions_11 : decode cX6_knownVersions 11 = .ok (.invokevirtual 171, 3) := by decide +kernel
theorem dX6_knownVersions_14 : decode cX6_knownVersions 14 = .ok (.ifCond .eq 7, 3) := by decide +kernel
theorem dX6_knownVersions_17 : decode cX6_knownVersions 17 = .ok (.iconst 1, 1) := by decide +kernel
theorem dX6_knownVersions_18 : decode cX6_knownVersions 18 = .ok (.goto 4, 3) := by decide +kernel
theorem dX6_knownVersions_21 : decode cX6_knownVersions 21 = .ok (.iconst 0, 1) := by decide +kernel
theorem dX6_knownVersions_22 : decode cX6_knownVersions 22 = .ok (.invokevirtual 137, 3) := by decide +kernel
theorem dX6_knownVersions_25 : decode cX6_knownVersions 25 = .ok (.ifCond .le 7, 3) := by decide +kernel
theorem dX6_knownVersions_28 : decode cX6_knownVersions 28 = .ok (.iconst 0, 1) := by decide +kernel
theorem dX6_knownVersions_29 : decode cX6_knownVersions 29 = .ok (.goto 14, 3) := by decide +kernel
theorem dX6_knownVersions_32 : decode cX6_knownVersions 32 = .ok (.aload_n 0, 1) := by decide +kernel
theorem dX6_knownVersions_33 : decode cX6_knownVersions 33 = .ok (.getfield 74, 3) := by decide +kernel
theorem dX6_knownVersions_36 : decode cX6_knownVersions 36 = .ok (.bipush 30, 2) := by decide +kernel
theorem dX6_knownVersions_38 : decode cX6_knownVersions 38 = .ok (.iload_n 1, 1) := by decide +kernel
theorem dX6_knownVersions_39 : decode cX6_knownVersions 39 = .ok (.imul, 1) := by decide +kernel
theorem dX6_knownVersions_40 : decode cX6_knownVersions 40 = .ok (.iload_n 2, 1) := by decide +kernel
theorem dX6_knownVersions_41 : decode cX6_knownVersions 41 = .ok (.iadd, 1) := by decide +kernel
theorem dX6_knownVersions_42 : decode cX6_knownVersions 42 = .ok (.iaload, 1) := by decide +kernel
theorem dX6_knownVersions_43 : decode cX6_knownVersions 43 = .ok (.ireturn, 1) := by decide +kernel
theorem dX6_meanVersions_0 : decode cX6_meanVersions 0 = .ok (.aload_n 0, 1) := by decide +kernel
theorem dX6_meanVersions_1 : decode cX6_meanVersions 1 = .ok (.aload_n 0, 1) := by decide +kernel
theorem dX6_meanVersions_2 : decode cX6_meanVersions 2 = .ok (.getfield 96, 3) := by decide +kernel
theorem dX6_meanVersions_5 : decode cX6_meanVersions 5 = .ok (.ifCond .le 7, 3) := by decide +kernel
theorem dX6_meanVersions_8 : decode cX6_meanVersions 8 = .ok (.iconst 1, 1) := by decide +kernel
theorem dX6_meanVersions_9 : decode cX6_meanVersions 9 = .ok (.goto 4, 3) := by decide +kernel
theorem dX6_meanVersions_12 : decode cX6_meanVersions 12 = .ok (.iconst 0, 1) := by decide +kernel
theorem dX6_meanVersions_13 : decode cX6_meanVersions 13 = .ok (.invokevirtual 137, 3) := by decide +kernel
theorem dX6_meanVersions_16 : decode cX6_meanVersions 16 = .ok (.ifCond .le 5, 3) := by decide +kernel
theorem dX6_meanVersions_19 : decode cX6_meanVersions 19 = .ok (.dconst 0, 1) := by decide +kernel
theorem dX6_meanVersions_20 : decode cX6_meanVersions 20 = .ok (.dreturn, 1) := by decide +kernel
theorem dX6_meanVersions_21 : decode cX6_meanVersions 21 = .ok (.iconst 0, 1) := by decide +kernel
theorem dX6_meanVersions_22 : decode cX6_meanVersions 22 = .ok (.istore_n 1, 1) := by decide +kernel
theorem dX6_meanVersions_23 : decode cX6_meanVersions 23 = .ok (.iconst 0, 1) := by decide +kernel
theorem dX6_meanVersions_24 : decode cX6_meanVersions 24 = .ok (.istore_n 2, 1) := by decide +kernel
theorem dX6_meanVersions_25 : decode cX6_meanVersions 25 = .ok (.iload_n 2, 1) := by decide +kernel
theorem dX6_meanVersions_26 : decode cX6_meanVersions 26 = .ok (.aload_n 0, 1) := by decide +kernel
theorem dX6_meanVersions_27 : decode cX6_meanVersions 27 = .ok (.getfield 96, 3) := by decide +kernel
theorem dX6_meanVersions_30 : decode cX6_meanVersions 30 = .ok (.if_icmp .ge 18, 3) := by decide +kernel
theorem dX6_meanVersions_33 : decode cX6_meanVersions 33 = .ok (.iload_n 1, 1) := by decide +kernel
theorem dX6_meanVersions_34 : decode cX6_meanVersions 34 = .ok (.aload_n 0, 1) := by decide +kernel
theorem dX6_meanVersions_35 : decode cX6_meanVersions 35 = .ok (.getfield 29, 3) := by decide +kernel
theorem dX6_meanVersions_38 : decode cX6_meanVersions 38 = .ok (.iload_n 2, 1) := by decide +kernel
theorem dX6_meanVersions_39 : decode cX6_meanVersions 39 = .ok (.iaload, 1) := by decide +kernel
theorem dX6_meanVersions_40 : decode cX6_meanVersions 40 = .ok (.iadd, 1) := by decide +kernel
theorem dX6_meanVersions_41 : decode cX6_meanVersions 41 = .ok (.istore_n 1, 1) := by decide +kernel
theorem dX6_meanVersions_42 : decode cX6_meanVersions 42 = .ok (.iinc 2 1, 3) := by decide +kernel
theorem dX6_meanVersions_45 : decode cX6_meanVersions 45 = .ok (.goto (-20), 3) := by decide +kernel
theorem dX6_meanVersions_48 : decode cX6_meanVersions 48 = .ok (.iload_n 1, 1) := by decide +kernel
theorem dX6_meanVersions_49 : decode cX6_meanVersions 49 = .ok (.i2d, 1) := by decide +kernel
theorem dX6_meanVersions_50 : decode cX6_meanVersions 50 = .ok (.aload_n 0, 1) := by decide +kernel
theorem dX6_meanVersions_51 : decode cX6_meanVersions 51 = .ok (.getfield 96, 3) := by decide +kernel
theorem dX6_meanVersions_54 : decode cX6_meanVersions 54 = .ok (.i2d, 1) := by decide +kernel
theorem dX6_meanVersions_55 : decode cX6_meanVersions 55 = .ok (.ddiv, 1) := by decide +kernel
theorem dX6_meanVersions_56 : decode cX6_meanVersions 56 = .ok (.dreturn, 1) := by decide +kernel
theorem dX6_isSound_0 : decode cX6_isSound 0 = .ok (.aload_n 0, 1) := by decide +kernel
theorem dX6_isSound_1 : decode cX6_isSound 1 = .ok (.iconst 0, 1) := by decide +kernel
theorem dX6_isSound_2 : decode cX6_isSound 2 = .ok (.putfield 80, 3) := by decide +kernel
theorem dX6_isSound_5 : decode cX6_isSound 5 = .ok (.iconst 1, 1) := by decide +kernel
theorem dX6_isSound_6 : decode cX6_isSound 6 = .ok (.ireturn, 1) := by decide +kernel
end
section
theorem dL_pass_0 : decode cL_pass 0 = .ok (.aload_n 2, 1) := by decide +kernel
theorem dL_pass_1 : decode cL_pass 1 = .ok (.iconst 0, 1) := by decide +kernel
theorem dL_pass_2 : decode cL_pass 2 = .ok (.aload_n 0, 1) := by decide +kernel
theorem dL_pass_3 : decode cL_pass 3 = .ok (.iload_n 1, 1) := by decide +kernel
theorem dL_pass_4 : decode cL_pass 4 = .ok (.invokevirtual 7, 3) := by decide +kernel
theorem dL_pass_7 : decode cL_pass 7 = .ok (.i2l, 1) := by decide +kernel
theorem dL_pass_8 : decode cL_pass 8 = .ok (.lastore, 1) := by decide +kernel
theorem dL_pass_9 : decode cL_pass 9 = .ok (.goto 9, 3) := by decide +kernel
theorem dL_pass_12 : decode cL_pass 12 = .ok (.astore_n 3, 1) := by decide +kernel
theorem dL_pass_13 : decode cL_pass 13 = .ok (.iconst 1, 1) := by decide +kernel
theorem dL_pass_14 : decode cL_pass 14 = .ok (.ireturn, 1) := by decide +kernel
theorem dL_pass_15 : decode cL_pass 15 = .ok (.astore_n 3, 1) := by decide +kernel
theorem dL_pass_16 : decode cL_pass 16 = .ok (.iconst 2, 1) := by decide +kernel
theorem dL_pass_17 : decode cL_pass 17 = .ok (.ireturn, 1) := by decide +kernel
theorem dL_pass_18 : decode cL_pass 18 = .ok (.iconst 0, 1) := by decide +kernel
theorem dL_pass_19 : decode cL_pass 19 = .ok (.ireturn, 1) := by decide +kernel
theorem dL_setThreshold_0 : decode cL_setThreshold 0 = .ok (.aload_n 2, 1) := by decide +kernel
theorem dL_setThreshold_1 : decode cL_setThreshold 1 = .ok (.iconst 0, 1) := by decide +kernel
theorem dL_setThreshold_2 : decode cL_setThreshold 2 = .ok (.aload_n 0, 1) := by decide +kernel
theorem dL_setThreshold_3 : decode cL_setThreshold 3 = .ok (.iload_n 1, 1) := by decide +kernel
theorem dL_setThreshold_4 : decode cL_setThreshold 4 = .ok (.invokevirtual 17, 3) := by decide +kernel
theorem dL_setThreshold_7 : decode cL_setThreshold 7 = .ok (.i2l, 1) := by decide +kernel
theorem dL_setThreshold_8 : decode cL_setThreshold 8 = .ok (.lastore, 1) := by decide +kernel
theorem dL_setThreshold_9 : decode cL_setThreshold 9 = .ok (.goto 6, 3) := by decide +kernel
theorem dL_setThreshold_12 : decode cL_setThreshold 12 = .ok (.astore_n 3, 1) := by decide +kernel
theorem dL_setThreshold_13 : decode cL_setThreshold 13 = .ok (.iconst 1, 1) := by decide +kernel
theorem dL_setThreshold_14 : decode cL_setThreshold 14 = .ok (.ireturn, 1) := by decide +kernel
theorem dL_setThreshold_15 : decode cL_setThreshold 15 = .ok (.iconst 0, 1) := by decide +kernel
theorem dL_setThreshold_16 : decode cL_setThreshold 16 = .ok (.ireturn, 1) := by decide +kernel
theorem dL_setWindow_0 : decode cL_setWindow 0 = .ok (.aload_n 2, 1) := by decide +kernel
theorem dL_setWindow_1 : decode cL_setWindow 1 = .ok (.iconst 0, 1) := by decide +kernel
theorem dL_setWindow_2 : decode cL_setWindow 2 = .ok (.aload_n 0, 1) := by decide +kernel
theorem dL_setWindow_3 : decode cL_setWindow 3 = .ok (.iload_n 1, 1) := by decide +kernel
theorem dL_setWindow_4 : decode cL_setWindow 4 = .ok (.invokevirtual 20, 3) := by decide +kernel
theorem dL_setWindow_7 : decode cL_setWindow 7 = .ok (.i2l, 1) := by decide +kernel
theorem dL_setWindow_8 : decode cL_setWindow 8 = .ok (.lastore, 1) := by decide +kernel
theorem dL_setWindow_9 : decode cL_setWindow 9 = .ok (.goto 6, 3) := by decide +kernel
theorem dL_setWindow_12 : decode cL_setWindow 12 = .ok (.astore_n 3, 1) := by decide +kernel
theorem dL_setWindow_13 : decode cL_setWindow 13 = .ok (.iconst 1, 1) := by decide +kernel
theorem dL_setWindow_14 : decode cL_setWindow 14 = .ok (.ireturn, 1) := by decide +kernel
theorem dL_setWindow_15 : decode cL_setWindow 15 = .ok (.iconst 0, 1) := by decide +kernel
theorem dL_setWindow_16 : decode cL_setWindow 16 = .ok (.ireturn, 1) := by decide +kernel
theorem dL_likeness_0 : decode cL_likeness 0 = .ok (.aload 5, 2) := by decide +kernel
theorem dL_likeness_2 : decode cL_likeness 2 = .ok (.iconst 0, 1) := by decide +kernel
theorem dL_likeness_3 : decode cL_likeness 3 = .ok (.aload_n 0, 1) := by decide +kernel
theorem dL_likeness_4 : decode cL_likeness 4 = .ok (.lload_n 1, 1) := by decide +kernel
theorem dL_likeness_5 : decode cL_likeness 5 = .ok (.lload_n 3, 1) := by decide +kernel
theorem dL_likeness_6 : decode cL_likeness 6 = .ok (.invokevirtual 23, 3) := by decide +kernel
theorem dL_likeness_9 : decode cL_likeness 9 = .ok (.i2l, 1) := by decide +kernel
theorem dL_likeness_10 : decode cL_likeness 10 = .ok (.lastore, 1) := by decide +kernel
theorem dL_likeness_11 : decode cL_likeness 11 = .ok (.goto 7, 3) := by decide +kernel
theorem dL_likeness_14 : decode cL_likeness 14 = .ok (.astore 6, 2) := by decide +kernel
theorem dL_likeness_16 : decode cL_likeness 16 = .ok (.iconst 1, 1) := by decide +kernel
theorem dL_likeness_17 : decode cL_likeness 17 = .ok (.ireturn, 1) := by decide +kernel
theorem dL_likeness_18 : decode cL_likeness 18 = .ok (.iconst 0, 1) := by decide +kernel
theorem dL_likeness_19 : decode cL_likeness 19 = .ok (.ireturn, 1) := by decide +kernel
theorem dL_addSource_0 : decode cL_addSource 0 = .ok (.aload_n 1, 1) := by decide +kernel
theorem dL_addSource_1 : decode cL_addSource 1 = .ok (.iconst 0, 1) := by decide +kernel
theorem dL_addSource_2 : decode cL_addSource 2 = .ok (.aload_n 0, 1) := by decide +kernel
theorem dL_addSource_3 : decode cL_addSource 3 = .ok (.invokevirtual 27, 3) := by decide +kernel
theorem dL_addSource_6 : decode cL_addSource 6 = .ok (.i2l, 1) := by decide +kernel
theorem dL_addSource_7 : decode cL_addSource 7 = .ok (.lastore, 1) := by decide +kernel
theorem dL_addSource_8 : decode cL_addSource 8 = .ok (.goto 6, 3) := by decide +kernel
theorem dL_addSource_11 : decode cL_addSource 11 = .ok (.astore_n 2, 1) := by decide +kernel
theorem dL_addSource_12 : decode cL_addSource 12 = .ok (.iconst 1, 1) := by decide +kernel
theorem dL_addSource_13 : decode cL_addSource 13 = .ok (.ireturn, 1) := by decide +kernel
theorem dL_addSource_14 : decode cL_addSource 14 = .ok (.iconst 0, 1) := by decide +kernel
theorem dL_addSource_15 : decode cL_addSource 15 = .ok (.ireturn, 1) := by decide +kernel
theorem dL_fetch_0 : decode cL_fetch 0 = .ok (.aload 7, 2) := by decide +kernel
theorem dL_fetch_2 : decode cL_fetch 2 = .ok (.iconst 0, 1) := by decide +kernel
theorem dL_fetch_3 : decode cL_fetch 3 = .ok (.aload_n 0, 1) := by decide +kernel
theorem dL_fetch_4 : decode cL_fetch 4 = .ok (.iload_n 1, 1) := by decide +kernel
theorem dL_fetch_5 : decode cL_fetch 5 = .ok (.iload_n 2, 1) := by decide +kernel
theorem dL_fetch_6 : decode cL_fetch 6 = .ok (.iload_n 3, 1) := by decide +kernel
theorem dL_fetch_7 : decode cL_fetch 7 = .ok (.lload 4, 2) := by decide +kernel
theorem dL_fetch_9 : decode cL_fetch 9 = .ok (.iload 6, 2) := by decide +kernel
theorem dL_fetch_11 : decode cL_fetch 11 = .ok (.invokevirtual 31, 3) := by decide +kernel
theorem dL_fetch_14 : decode cL_fetch 14 = .ok (.i2l, 1) := by decide +kernel
theorem dL_fetch_15 : decode cL_fetch 15 = .ok (.lastore, 1) := by decide +kernel
theorem dL_fetch_16 : decode cL_fetch 16 = .ok (.goto 15, 3) := by decide +kernel
theorem dL_fetch_19 : decode cL_fetch 19 = .ok (.astore 8, 2) := by decide +kernel
theorem dL_fetch_21 : decode cL_fetch 21 = .ok (.iconst 1, 1) := by decide +kernel
theorem dL_fetch_22 : decode cL_fetch 22 = .ok (.ireturn, 1) := by decide +kernel
theorem dL_fetch_23 : decode cL_fetch 23 = .ok (.astore 8, 2) := by decide +kernel
theorem dL_fetch_25 : decode cL_fetch 25 = .ok (.iconst 2, 1) := by decide +kernel
theorem dL_fetch_26 : decode cL_fetch 26 = .ok (.ireturn, 1) := by decide +kernel
theorem dL_fetch_27 : decode cL_fetch 27 = .ok (.astore 8, 2) := by decide +kernel
theorem dL_fetch_29 : decode cL_fetch 29 = .ok (.iconst 3, 1) := by decide +kernel
theorem dL_fetch_30 : decode cL_fetch 30 = .ok (.ireturn, 1) := by decide +kernel
theorem dL_fetch_31 : decode cL_fetch 31 = .ok (.iconst 0, 1) := by decide +kernel
theorem dL_fetch_32 : decode cL_fetch 32 = .ok (.ireturn, 1) := by decide +kernel
theorem dL_withIdentifier_0 : decode cL_withIdentifier 0 = .ok (.aload_n 3, 1) := by decide +kernel
theorem dL_withIdentifier_1 : decode cL_withIdentifier 1 = .ok (.iconst 0, 1) := by decide +kernel
theorem dL_withIdentifier_2 : decode cL_withIdentifier 2 = .ok (.aload_n 0, 1) := by decide +kernel
theorem dL_withIdentifier_3 : decode cL_withIdentifier 3 = .ok (.iload_n 1, 1) := by decide +kernel
theorem dL_withIdentifier_4 : decode cL_withIdentifier 4 = .ok (.iload_n 2, 1) := by decide +kernel
theorem dL_withIdentifier_5 : decode cL_withIdentifier 5 = .ok (.invokevirtual 37, 3) := by decide +kernel
theorem dL_withIdentifier_8 : decode cL_withIdentifier 8 = .ok (.i2l, 1) := by decide +kernel
theorem dL_withIdentifier_9 : decode cL_withIdentifier 9 = .ok (.lastore, 1) := by decide +kernel
theorem dL_withIdentifier_10 : decode cL_withIdentifier 10 = .ok (.goto 7, 3) := by decide +kernel
theorem dL_withIdentifier_13 : decode cL_withIdentifier 13 = .ok (.astore 4, 2) := by decide +kernel
theorem dL_withIdentifier_15 : decode cL_withIdentifier 15 = .ok (.iconst 1, 1) := by decide +kernel
theorem dL_withIdentifier_16 : decode cL_withIdentifier 16 = .ok (.ireturn, 1) := by decide +kernel
theorem dL_withIdentifier_17 : decode cL_withIdentifier 17 = .ok (.iconst 0, 1) := by decide +kernel
theorem dL_withIdentifier_18 : decode cL_withIdentifier 18 = .ok (.ireturn, 1) := by decide +kernel
theorem dL_withLink_0 : decode cL_withLink 0 = .ok (.aload_n 2, 1) := by decide +kernel
theorem dL_withLink_1 : decode cL_withLink 1 = .ok (.iconst 0, 1) := by decide +kernel
theorem dL_withLink_2 : decode cL_withLink 2 = .ok (.aload_n 0, 1) := by decide +kernel
theorem dL_withLink_3 : decode cL_withLink 3 = .ok (.iload_n 1, 1) := by decide +kernel
theorem dL_withLink_4 : decode cL_withLink 4 = .ok (.invokevirtual 43, 3) := by decide +kernel
theorem dL_withLink_7 : decode cL_withLink 7 = .ok (.i2l, 1) := by decide +kernel
theorem dL_withLink_8 : decode cL_withLink 8 = .ok (.lastore, 1) := by decide +kernel
theorem dL_withLink_9 : decode cL_withLink 9 = .ok (.goto 6, 3) := by decide +kernel
theorem dL_withLink_12 : decode cL_withLink 12 = .ok (.astore_n 3, 1) := by decide +kernel
theorem dL_withLink_13 : decode cL_withLink 13 = .ok (.iconst 1, 1) := by decide +kernel
theorem dL_withLink_14 : decode cL_withLink 14 = .ok (.ireturn, 1) := by decide +kernel
theorem dL_withLink_15 : decode cL_withLink 15 = .ok (.iconst 0, 1) := by decide +kernel
theorem dL_withLink_16 : decode cL_withLink 16 = .ok (.ireturn, 1) := by decide +kernel
theorem dL_title_0 : decode cL_title 0 = .ok (.aload_n 3, 1) := by decide +kernel
theorem dL_title_1 : decode cL_title 1 = .ok (.iconst 0, 1) := by decide +kernel
theorem dL_title_2 : decode cL_title 2 = .ok (.aload_n 0, 1) := by decide +kernel
theorem dL_title_3 : decode cL_title 3 = .ok (.iload_n 1, 1) := by decide +kernel
theorem dL_title_4 : decode cL_title 4 = .ok (.iload_n 2, 1) := by decide +kernel
theorem dL_title_5 : decode cL_title 5 = .ok (.invokevirtual 46, 3) := by decide +kernel
theorem dL_title_8 : decode cL_title 8 = .ok (.lastore, 1) := by decide +kernel
theorem dL_title_9 : decode cL_title 9 = .ok (.goto 11, 3) := by decide +kernel
theorem dL_title_12 : decode cL_title 12 = .ok (.astore 4, 2) := by decide +kernel
theorem dL_title_14 : decode cL_title 14 = .ok (.iconst 1, 1) := by decide +kernel
theorem dL_title_15 : decode cL_title 15 = .ok (.ireturn, 1) := by decide +kernel
theorem dL_title_16 : decode cL_title 16 = .ok (.astore 4, 2) := by decide +kernel
theorem dL_title_18 : decode cL_title 18 = .ok (.iconst 2, 1) := by decide +kernel
theorem dL_title_19 : decode cL_title 19 = .ok (.ireturn, 1) := by decide +kernel
theorem dL_title_20 : decode cL_title 20 = .ok (.iconst 0, 1) := by decide +kernel
theorem dL_title_21 : decode cL_title 21 = .ok (.ireturn, 1) := by decide +kernel
theorem dL_versions_0 : decode cL_versions 0 = .ok (.aload_n 2, 1) := by decide +kernel
theorem dL_versions_1 : decode cL_versions 1 = .ok (.iconst 0, 1) := by decide +kernel
theorem dL_versions_2 : decode cL_versions 2 = .ok (.aload_n 0, 1) := by decide +kernel
theorem dL_versions_3 : decode cL_versions 3 = .ok (.iload_n 1, 1) := by decide +kernel
theorem dL_versions_4 : decode cL_versions 4 = .ok (.invokevirtual 50, 3) := by decide +kernel
theorem dL_versions_7 : decode cL_versions 7 = .ok (.i2l, 1) := by decide +kernel
theorem dL_versions_8 : decode cL_versions 8 = .ok (.lastore, 1) := by decide +kernel
theorem dL_versions_9 : decode cL_versions 9 = .ok (.goto 6, 3) := by decide +kernel
theorem dL_versions_12 : decode cL_versions 12 = .ok (.astore_n 3, 1) := by decide +kernel
theorem dL_versions_13 : decode cL_versions 13 = .ok (.iconst 1, 1) := by decide +kernel
theorem dL_versions_14 : decode cL_versions 14 = .ok (.ireturn, 1) := by decide +kernel
theorem dL_versions_15 : decode cL_versions 15 = .ok (.iconst 0, 1) := by decide +kernel
theorem dL_versions_16 : decode cL_versions 16 = .ok (.ireturn, 1) := by decide +kernel
theorem dL_latestMajor_0 : decode cL_latestMajor 0 = .ok (.aload_n 2, 1) := by decide +kernel
theorem dL_latestMajor_1 : decode cL_latestMajor 1 = .ok (.iconst 0, 1) := by decide +kernel
theorem dL_latestMajor_2 : decode cL_latestMajor 2 = .ok (.aload_n 0, 1) := by decide +kernel
theorem dL_latestMajor_3 : decode cL_latestMajor 3 = .ok (.iload_n 1, 1) := by decide +kernel
theorem dL_latestMajor_4 : decode cL_latestMajor 4 = .ok (.invokevirtual 53, 3) := by decide +kernel
theorem dL_latestMajor_7 : decode cL_latestMajor 7 = .ok (.i2l, 1) := by decide +kernel
theorem dL_latestMajor_8 : decode cL_latestMajor 8 = .ok (.lastore, 1) := by decide +kernel
theorem dL_latestMajor_9 : decode cL_latestMajor 9 = .ok (.goto 6, 3) := by decide +kernel
theorem dL_latestMajor_12 : decode cL_latestMajor 12 = .ok (.astore_n 3, 1) := by decide +kernel
theorem dL_latestMajor_13 : decode cL_latestMajor 13 = .ok (.iconst 1, 1) := by decide +kernel
theorem dL_latestMajor_14 : decode cL_latestMajor 14 = .ok (.ireturn, 1) := by decide +kernel
theorem dL_latestMajor_15 : decode cL_latestMajor 15 = .ok (.iconst 0, 1) := by decide +kernel
theorem dL_latestMajor_16 : decode cL_latestMajor 16 = .ok (.ireturn, 1) := by decide +kernel
theorem dL_sourcesOf_0 : decode cL_sourcesOf 0 = .ok (.aload_n 2, 1) := by decide +kernel
theorem dL_sourcesOf_1 : decode cL_sourcesOf 1 = .ok (.iconst 0, 1) := by decide +kernel
theorem dL_sourcesOf_2 : decode cL_sourcesOf 2 = .ok (.aload_n 0, 1) := by decide +kernel
theorem dL_sourcesOf_3 : decode cL_sourcesOf 3 = .ok (.iload_n 1, 1) := by decide +kernel
theorem dL_sourcesOf_4 : decode cL_sourcesOf 4 = .ok (.invokevirtual 56, 3) := by decide +kernel
theorem dL_sourcesOf_7 : decode cL_sourcesOf 7 = .ok (.i2l, 1) := by decide +kernel
theorem dL_sourcesOf_8 : decode cL_sourcesOf 8 = .ok (.lastore, 1) := by decide +kernel
theorem dL_sourcesOf_9 : decode cL_sourcesOf 9 = .ok (.goto 6, 3) := by decide +kernel
theorem dL_sourcesOf_12 : decode cL_sourcesOf 12 = .ok (.astore_n 3, 1) := by decide +kernel
theorem dL_sourcesOf_13 : decode cL_sourcesOf 13 = .ok (.iconst 1, 1) := by decide +kernel
theorem dL_sourcesOf_14 : decode cL_sourcesOf 14 = .ok (.ireturn, 1) := by decide +kernel
theorem dL_sourcesOf_15 : decode cL_sourcesOf 15 = .ok (.iconst 0, 1) := by decide +kernel
theorem dL_sourcesOf_16 : decode cL_sourcesOf 16 = .ok (.ireturn, 1) := by decide +kernel
theorem dL_timeOf_0 : decode cL_timeOf 0 = .ok (.aload_n 2, 1) := by decide +kernel
theorem dL_timeOf_1 : decode cL_timeOf 1 = .ok (.iconst 0, 1) := by decide +kernel
theorem dL_timeOf_2 : decode cL_timeOf 2 = .ok (.aload_n 0, 1) := by decide +kernel
theorem dL_timeOf_3 : decode cL_timeOf 3 = .ok (.iload_n 1, 1) := by decide +kernel
theorem dL_timeOf_4 : decode cL_timeOf 4 = .ok (.invokevirtual 59, 3) := by decide +kernel
theorem dL_timeOf_7 : decode cL_timeOf 7 = .ok (.i2l, 1) := by decide +kernel
theorem dL_timeOf_8 : decode cL_timeOf 8 = .ok (.lastore, 1) := by decide +kernel
theorem dL_timeOf_9 : decode cL_timeOf 9 = .ok (.goto 6, 3) := by decide +kernel
theorem dL_timeOf_12 : decode cL_timeOf 12 = .ok (.astore_n 3, 1) := by decide +kernel
theorem dL_timeOf_13 : decode cL_timeOf 13 = .ok (.iconst 1, 1) := by decide +kernel
theorem dL_timeOf_14 : decode cL_timeOf 14 = .ok (.ireturn, 1) := by decide +kernel
theorem dL_timeOf_15 : decode cL_timeOf 15 = .ok (.iconst 0, 1) := by decide +kernel
theorem dL_timeOf_16 : decode cL_timeOf 16 = .ok (.ireturn, 1) := by decide +kernel
theorem dL_addRule_0 : decode cL_addRule 0 = .ok (.aload 8, 2) := by decide +kernel
theorem dL_addRule_2 : decode cL_addRule 2 = .ok (.iconst 0, 1) := by decide +kernel
theorem dL_addRule_3 : decode cL_addRule 3 = .ok (.aload_n 0, 1) := by decide +kernel
theorem dL_addRule_4 : decode cL_addRule 4 = .ok (.lload_n 1, 1) := by decide +kernel
theorem dL_addRule_5 : decode cL_addRule 5 = .ok (.lload_n 3, 1) := by decide +kernel
theorem dL_addRule_6 : decode cL_addRule 6 = .ok (.iload 5, 2) := by decide +kernel
theorem dL_addRule_8 : decode cL_addRule 8 = .ok (.iload 6, 2) := by decide +kernel
theorem dL_addRule_10 : decode cL_addRule 10 = .ok (.iload 7, 2) := by decide +kernel
theorem dL_addRule_12 : decode cL_addRule 12 = .ok (.invokevirtual 62, 3) := by decide +kernel
theorem dL_addRule_15 : decode cL_addRule 15 = .ok (.i2l, 1) := by decide +kernel
theorem dL_addRule_16 : decode cL_addRule 16 = .ok (.lastore, 1) := by decide +kernel
theorem dL_addRule_17 : decode cL_addRule 17 = .ok (.goto 11, 3) := by decide +kernel
theorem dL_addRule_20 : decode cL_addRule 20 = .ok (.astore 9, 2) := by decide +kernel
theorem dL_addRule_22 : decode cL_addRule 22 = .ok (.iconst 1, 1) := by decide +kernel
theorem dL_addRule_23 : decode cL_addRule 23 = .ok (.ireturn, 1) := by decide +kernel
theorem dL_addRule_24 : decode cL_addRule 24 = .ok (.astore 9, 2) := by decide +kernel
theorem dL_addRule_26 : decode cL_addRule 26 = .ok (.iconst 2, 1) := by decide +kernel
theorem dL_addRule_27 : decode cL_addRule 27 = .ok (.ireturn, 1) := by decide +kernel
theorem dL_addRule_28 : decode cL_addRule 28 = .ok (.iconst 0, 1) := by decide +kernel
theorem dL_addRule_29 : decode cL_addRule 29 = .ok (.ireturn, 1) := by decide +kernel
theorem dL_dropRule_0 : decode cL_dropRule 0 = .ok (.aload_n 2, 1) := by decide +kernel
theorem dL_dropRule_1 : decode cL_dropRule 1 = .ok (.iconst 0, 1) := by decide +kernel
theorem dL_dropRule_2 : decode cL_dropRule 2 = .ok (.aload_n 0, 1) := by decide +kernel
theorem dL_dropRule_3 : decode cL_dropRule 3 = .ok (.iload_n 1, 1) := by decide +kernel
theorem dL_dropRule_4 : decode cL_dropRule 4 = .ok (.invokevirtual 66, 3) := by decide +kernel
theorem dL_dropRule_7 : decode cL_dropRule 7 = .ok (.i2l, 1) := by decide +kernel
theorem dL_dropRule_8 : decode cL_dropRule 8 = .ok (.lastore, 1) := by decide +kernel
theorem dL_dropRule_9 : decode cL_dropRule 9 = .ok (.goto 6, 3) := by decide +kernel
theorem dL_dropRule_12 : decode cL_dropRule 12 = .ok (.astore_n 3, 1) := by decide +kernel
theorem dL_dropRule_13 : decode cL_dropRule 13 = .ok (.iconst 1, 1) := by decide +kernel
theorem dL_dropRule_14 : decode cL_dropRule 14 = .ok (.ireturn, 1) := by decide +kernel
theorem dL_dropRule_15 : decode cL_dropRule 15 = .ok (.iconst 0, 1) := by decide +kernel
theorem dL_dropRule_16 : decode cL_dropRule 16 = .ok (.ireturn, 1) := by decide +kernel
theorem dL_tagsOf_0 : decode cL_tagsOf 0 = .ok (.aload_n 2, 1) := by decide +kernel
theorem dL_tagsOf_1 : decode cL_tagsOf 1 = .ok (.iconst 0, 1) := by decide +kernel
theorem dL_tagsOf_2 : decode cL_tagsOf 2 = .ok (.aload_n 0, 1) := by decide +kernel
theorem dL_tagsOf_3 : decode cL_tagsOf 3 = .ok (.iload_n 1, 1) := by decide +kernel
theorem dL_tagsOf_4 : decode cL_tagsOf 4 = .ok (.invokevirtual 69, 3) := by decide +kernel
theorem dL_tagsOf_7 : decode cL_tagsOf 7 = .ok (.i2l, 1) := by decide +kernel
theorem dL_tagsOf_8 : decode cL_tagsOf 8 = .ok (.lastore, 1) := by decide +kernel
theorem dL_tagsOf_9 : decode cL_tagsOf 9 = .ok (.goto 6, 3) := by decide +kernel
theorem dL_tagsOf_12 : decode cL_tagsOf 12 = .ok (.astore_n 3, 1) := by decide +kernel
theorem dL_tagsOf_13 : decode cL_tagsOf 13 = .ok (.iconst 1, 1) := by decide +kernel
theorem dL_tagsOf_14 : decode cL_tagsOf 14 = .ok (.ireturn, 1) := by decide +kernel
theorem dL_tagsOf_15 : decode cL_tagsOf 15 = .ok (.iconst 0, 1) := by decide +kernel
theorem dL_tagsOf_16 : decode cL_tagsOf 16 = .ok (.ireturn, 1) := by decide +kernel
theorem dL_isHidden_0 : decode cL_isHidden 0 = .ok (.aload_n 2, 1) := by decide +kernel
theorem dL_isHidden_1 : decode cL_isHidden 1 = .ok (.iconst 0, 1) := by decide +kernel
theorem dL_isHidden_2 : decode cL_isHidden 2 = .ok (.aload_n 0, 1) := by decide +kernel
theorem dL_isHidden_3 : decode cL_isHidden 3 = .ok (.iload_n 1, 1) := by decide +kernel
theorem dL_isHidden_4 : decode cL_isHidden 4 = .ok (.invokevirtual 72, 3) := by decide +kernel
theorem dL_isHidden_7 : decode cL_isHidden 7 = .ok (.ifCond .eq 7, 3) := by decide +kernel
theorem dL_isHidden_10 : decode cL_isHidden 10 = .ok (.lconst 1, 1) := by decide +kernel
theorem dL_isHidden_11 : decode cL_isHidden 11 = .ok (.goto 4, 3) := by decide +kernel
theorem dL_isHidden_14 : decode cL_isHidden 14 = .ok (.lconst 0, 1) := by decide +kernel
theorem dL_isHidden_15 : decode cL_isHidden 15 = .ok (.lastore, 1) := by decide +kernel
theorem dL_isHidden_16 : decode cL_isHidden 16 = .ok (.goto 6, 3) := by decide +kernel
theorem dL_isHidden_19 : decode cL_isHidden 19 = .ok (.astore_n 3, 1) := by decide +kernel
theorem dL_isHidden_20 : decode cL_isHidden 20 = .ok (.iconst 1, 1) := by decide +kernel
theorem dL_isHidden_21 : decode cL_isHidden 21 = .ok (.ireturn, 1) := by decide +kernel
theorem dL_isHidden_22 : decode cL_isHidden 22 = .ok (.iconst 0, 1) := by decide +kernel
theorem dL_isHidden_23 : decode cL_isHidden 23 = .ok (.ireturn, 1) := by decide +kernel
theorem dL_matches_0 : decode cL_matches 0 = .ok (.aload_n 2, 1) := by decide +kernel
theorem dL_matches_1 : decode cL_matches 1 = .ok (.iconst 0, 1) := by decide +kernel
theorem dL_matches_2 : decode cL_matches 2 = .ok (.aload_n 0, 1) := by decide +kernel
theorem dL_matches_3 : decode cL_matches 3 = .ok (.iload_n 1, 1) := by decide +kernel
theorem dL_matches_4 : decode cL_matches 4 = .ok (.invokevirtual 76, 3) := by decide +kernel
theorem dL_matches_7 : decode cL_matches 7 = .ok (.i2l, 1) := by decide +kernel
theorem dL_matches_8 : decode cL_matches 8 = .ok (.lastore, 1) := by decide +kernel
theorem dL_matches_9 : decode cL_matches 9 = .ok (.goto 6, 3) := by decide +kernel
theorem dL_matches_12 : decode cL_matches 12 = .ok (.astore_n 3, 1) := by decide +kernel
theorem dL_matches_13 : decode cL_matches 13 = .ok (.iconst 1, 1) := by decide +kernel
theorem dL_matches_14 : decode cL_matches 14 = .ok (.ireturn, 1) := by decide +kernel
theorem dL_matches_15 : decode cL_matches 15 = .ok (.iconst 0, 1) := by decide +kernel
theorem dL_matches_16 : decode cL_matches 16 = .ok (.ireturn, 1) := by decide +kernel
theorem dL_addRiver_0 : decode cL_addRiver 0 = .ok (.aload_n 3, 1) := by decide +kernel
theorem dL_addRiver_1 : decode cL_addRiver 1 = .ok (.iconst 0, 1) := by decide +kernel
theorem dL_addRiver_2 : decode cL_addRiver 2 = .ok (.aload_n 0, 1) := by decide +kernel
theorem dL_addRiver_3 : decode cL_addRiver 3 = .ok (.iload_n 1, 1) := by decide +kernel
theorem dL_addRiver_4 : decode cL_addRiver 4 = .ok (.iload_n 2, 1) := by decide +kernel
theorem dL_addRiver_5 : decode cL_addRiver 5 = .ok (.invokevirtual 79, 3) := by decide +kernel
theorem dL_addRiver_8 : decode cL_addRiver 8 = .ok (.i2l, 1) := by decide +kernel
theorem dL_addRiver_9 : decode cL_addRiver 9 = .ok (.lastore, 1) := by decide +kernel
theorem dL_addRiver_10 : decode cL_addRiver 10 = .ok (.goto 11, 3) := by decide +kernel
theorem dL_addRiver_13 : decode cL_addRiver 13 = .ok (.astore 4, 2) := by decide +kernel
theorem dL_addRiver_15 : decode cL_addRiver 15 = .ok (.iconst 1, 1) := by decide +kernel
theorem dL_addRiver_16 : decode cL_addRiver 16 = .ok (.ireturn, 1) := by decide +kernel
theorem dL_addRiver_17 : decode cL_addRiver 17 = .ok (.astore 4, 2) := by decide +kernel
theorem dL_addRiver_19 : decode cL_addRiver 19 = .ok (.iconst 2, 1) := by decide +kernel
theorem dL_addRiver_20 : decode cL_addRiver 20 = .ok (.ireturn, 1) := by decide +kernel
theorem dL_addRiver_21 : decode cL_addRiver 21 = .ok (.iconst 0, 1) := by decide +kernel
theorem dL_addRiver_22 : decode cL_addRiver 22 = .ok (.ireturn, 1) := by decide +kernel
theorem dL_riverSize_0 : decode cL_riverSize 0 = .ok (.aload_n 2, 1) := by decide +kernel
theorem dL_riverSize_1 : decode cL_riverSize 1 = .ok (.iconst 0, 1) := by decide +kernel
theorem dL_riverSize_2 : decode cL_riverSize 2 = .ok (.aload_n 0, 1) := by decide +kernel
theorem dL_riverSize_3 : decode cL_riverSize 3 = .ok (.iload_n 1, 1) := by decide +kernel
theorem dL_riverSize_4 : decode cL_riverSize 4 = .ok (.invokevirtual 82, 3) := by decide +kernel
theorem dL_riverSize_7 : decode cL_riverSize 7 = .ok (.i2l, 1) := by decide +kernel
theorem dL_riverSize_8 : decode cL_riverSize 8 = .ok (.lastore, 1) := by decide +kernel
theorem dL_riverSize_9 : decode cL_riverSize 9 = .ok (.goto 6, 3) := by decide +kernel
theorem dL_riverSize_12 : decode cL_riverSize 12 = .ok (.astore_n 3, 1) := by decide +kernel
theorem dL_riverSize_13 : decode cL_riverSize 13 = .ok (.iconst 1, 1) := by decide +kernel
theorem dL_riverSize_14 : decode cL_riverSize 14 = .ok (.ireturn, 1) := by decide +kernel
theorem dL_riverSize_15 : decode cL_riverSize 15 = .ok (.iconst 0, 1) := by decide +kernel
theorem dL_riverSize_16 : decode cL_riverSize 16 = .ok (.ireturn, 1) := by decide +kernel
theorem dL_riverAt_0 : decode cL_riverAt 0 = .ok (.aload_n 3, 1) := by decide +kernel
theorem dL_riverAt_1 : decode cL_riverAt 1 = .ok (.iconst 0, 1) := by decide +kernel
theorem dL_riverAt_2 : decode cL_riverAt 2 = .ok (.aload_n 0, 1) := by decide +kernel
theorem dL_riverAt_3 : decode cL_riverAt 3 = .ok (.iload_n 1, 1) := by decide +kernel
theorem dL_riverAt_4 : decode cL_riverAt 4 = .ok (.iload_n 2, 1) := by decide +kernel
theorem dL_riverAt_5 : decode cL_riverAt 5 = .ok (.invokevirtual 85, 3) := by decide +kernel
theorem dL_riverAt_8 : decode cL_riverAt 8 = .ok (.i2l, 1) := by decide +kernel
theorem dL_riverAt_9 : decode cL_riverAt 9 = .ok (.lastore, 1) := by decide +kernel
theorem dL_riverAt_10 : decode cL_riverAt 10 = .ok (.goto 11, 3) := by decide +kernel
theorem dL_riverAt_13 : decode cL_riverAt 13 = .ok (.astore 4, 2) := by decide +kernel
theorem dL_riverAt_15 : decode cL_riverAt 15 = .ok (.iconst 1, 1) := by decide +kernel
theorem dL_riverAt_16 : decode cL_riverAt 16 = .ok (.ireturn, 1) := by decide +kernel
theorem dL_riverAt_17 : decode cL_riverAt 17 = .ok (.astore 4, 2) := by decide +kernel
theorem dL_riverAt_19 : decode cL_riverAt 19 = .ok (.iconst 2, 1) := by decide +kernel
theorem dL_riverAt_20 : decode cL_riverAt 20 = .ok (.ireturn, 1) := by decide +kernel
theorem dL_riverAt_21 : decode cL_riverAt 21 = .ok (.iconst 0, 1) := by decide +kernel
theorem dL_riverAt_22 : decode cL_riverAt 22 = .ok (.ireturn, 1) := by decide +kernel
theorem dL_riverAtAnew_0 : decode cL_riverAtAnew 0 = .ok (.aload_n 3, 1) := by decide +kernel
theorem dL_riverAtAnew_1 : decode cL_riverAtAnew 1 = .ok (.iconst 0, 1) := by decide +kernel
theorem dL_riverAtAnew_2 : decode cL_riverAtAnew 2 = .ok (.aload_n 0, 1) := by decide +kernel
theorem dL_riverAtAnew_3 : decode cL_riverAtAnew 3 = .ok (.iload_n 1, 1) := by decide +kernel
theorem dL_riverAtAnew_4 : decode cL_riverAtAnew 4 = .ok (.iload_n 2, 1) := by decide +kernel
theorem dL_riverAtAnew_5 : decode cL_riverAtAnew 5 = .ok (.invokevirtual 88, 3) := by decide +kernel
theorem dL_riverAtAnew_8 : decode cL_riverAtAnew 8 = .ok (.i2l, 1) := by decide +kernel
theorem dL_riverAtAnew_9 : decode cL_riverAtAnew 9 = .ok (.lastore, 1) := by decide +kernel
theorem dL_riverAtAnew_10 : decode cL_riverAtAnew 10 = .ok (.goto 11, 3) := by decide +kernel
theorem dL_riverAtAnew_13 : decode cL_riverAtAnew 13 = .ok (.astore 4, 2) := by decide +kernel
theorem dL_riverAtAnew_15 : decode cL_riverAtAnew 15 = .ok (.iconst 1, 1) := by decide +kernel
theorem dL_riverAtAnew_16 : decode cL_riverAtAnew 16 = .ok (.ireturn, 1) := by decide +kernel
theorem dL_riverAtAnew_17 : decode cL_riverAtAnew 17 = .ok (.astore 4, 2) := by decide +kernel
theorem dL_riverAtAnew_19 : decode cL_riverAtAnew 19 = .ok (.iconst 2, 1) := by decide +kernel
theorem dL_riverAtAnew_20 : decode cL_riverAtAnew 20 = .ok (.ireturn, 1) := by decide +kernel
theorem dL_riverAtAnew_21 : decode cL_riverAtAnew 21 = .ok (.iconst 0, 1) := by decide +kernel
theorem dL_riverAtAnew_22 : decode cL_riverAtAnew 22 = .ok (.ireturn, 1) := by decide +kernel
theorem dL_rankOf_0 : decode cL_rankOf 0 = .ok (.aload_n 3, 1) := by decide +kernel
theorem dL_rankOf_1 : decode cL_rankOf 1 = .ok (.iconst 0, 1) := by decide +kernel
theorem dL_rankOf_2 : decode cL_rankOf 2 = .ok (.aload_n 0, 1) := by decide +kernel
theorem dL_rankOf_3 : decode cL_rankOf 3 = .ok (.iload_n 1, 1) := by decide +kernel
theorem dL_rankOf_4 : decode cL_rankOf 4 = .ok (.iload_n 2, 1) := by decide +kernel
theorem dL_rankOf_5 : decode cL_rankOf 5 = .ok (.invokevirtual 91, 3) := by decide +kernel
theorem dL_rankOf_8 : decode cL_rankOf 8 = .ok (.i2l, 1) := by decide +kernel
theorem dL_rankOf_9 : decode cL_rankOf 9 = .ok (.lastore, 1) := by decide +kernel
theorem dL_rankOf_10 : decode cL_rankOf 10 = .ok (.goto 11, 3) := by decide +kernel
theorem dL_rankOf_13 : decode cL_rankOf 13 = .ok (.astore 4, 2) := by decide +kernel
theorem dL_rankOf_15 : decode cL_rankOf 15 = .ok (.iconst 1, 1) := by decide +kernel
theorem dL_rankOf_16 : decode cL_rankOf 16 = .ok (.ireturn, 1) := by decide +kernel
theorem dL_rankOf_17 : decode cL_rankOf 17 = .ok (.astore 4, 2) := by decide +kernel
theorem dL_rankOf_19 : decode cL_rankOf 19 = .ok (.iconst 2, 1) := by decide +kernel
theorem dL_rankOf_20 : decode cL_rankOf 20 = .ok (.ireturn, 1) := by decide +kernel
theorem dL_rankOf_21 : decode cL_rankOf 21 = .ok (.iconst 0, 1) := by decide +kernel
theorem dL_rankOf_22 : decode cL_rankOf 22 = .ok (.ireturn, 1) := by decide +kernel
theorem dL_unread_0 : decode cL_unread 0 = .ok (.aload_n 2, 1) := by decide +kernel
theorem dL_unread_1 : decode cL_unread 1 = .ok (.iconst 0, 1) := by decide +kernel
theorem dL_unread_2 : decode cL_unread 2 = .ok (.aload_n 0, 1) := by decide +kernel
theorem dL_unread_3 : decode cL_unread 3 = .ok (.iload_n 1, 1) := by decide +kernel
theorem dL_unread_4 : decode cL_unread 4 = .ok (.invokevirtual 94, 3) := by decide +kernel
theorem dL_unread_7 : decode cL_unread 7 = .ok (.i2l, 1) := by decide +kernel
theorem dL_unread_8 : decode cL_unread 8 = .ok (.lastore, 1) := by decide +kernel
theorem dL_unread_9 : decode cL_unread 9 = .ok (.goto 6, 3) := by decide +kernel
theorem dL_unread_12 : decode cL_unread 12 = .ok (.astore_n 3, 1) := by decide +kernel
theorem dL_unread_13 : decode cL_unread 13 = .ok (.iconst 1, 1) := by decide +kernel
theorem dL_unread_14 : decode cL_unread 14 = .ok (.ireturn, 1) := by decide +kernel
theorem dL_unread_15 : decode cL_unread 15 = .ok (.iconst 0, 1) := by decide +kernel
theorem dL_unread_16 : decode cL_unread 16 = .ok (.ireturn, 1) := by decide +kernel
theorem dL_nextUnread_0 : decode cL_nextUnread 0 = .ok (.aload_n 2, 1) := by decide +kernel
theorem dL_nextUnread_1 : decode cL_nextUnread 1 = .ok (.iconst 0, 1) := by decide +kernel
theorem dL_nextUnread_2 : decode cL_nextUnread 2 = .ok (.aload_n 0, 1) := by decide +kernel
theorem dL_nextUnread_3 : decode cL_nextUnread 3 = .ok (.iload_n 1, 1) := by decide +kernel
theorem dL_nextUnread_4 : decode cL_nextUnread 4 = .ok (.invokevirtual 97, 3) := by decide +kernel
theorem dL_nextUnread_7 : decode cL_nextUnread 7 = .ok (.i2l, 1) := by decide +kernel
theorem dL_nextUnread_8 : decode cL_nextUnread 8 = .ok (.lastore, 1) := by decide +kernel
theorem dL_nextUnread_9 : decode cL_nextUnread 9 = .ok (.goto 9, 3) := by decide +kernel
theorem dL_nextUnread_12 : decode cL_nextUnread 12 = .ok (.astore_n 3, 1) := by decide +kernel
theorem dL_nextUnread_13 : decode cL_nextUnread 13 = .ok (.iconst 1, 1) := by decide +kernel
theorem dL_nextUnread_14 : decode cL_nextUnread 14 = .ok (.ireturn, 1) := by decide +kernel
theorem dL_nextUnread_15 : decode cL_nextUnread 15 = .ok (.astore_n 3, 1) := by decide +kernel
theorem dL_nextUnread_16 : decode cL_nextUnread 16 = .ok (.iconst 2, 1) := by decide +kernel
theorem dL_nextUnread_17 : decode cL_nextUnread 17 = .ok (.ireturn, 1) := by decide +kernel
theorem dL_nextUnread_18 : decode cL_nextUnread 18 = .ok (.iconst 0, 1) := by decide +kernel
theorem dL_nextUnread_19 : decode cL_nextUnread 19 = .ok (.ireturn, 1) := by decide +kernel
theorem dL_readShare_0 : decode cL_readShare 0 = .ok (.aload_n 2, 1) := by decide +kernel
theorem dL_readShare_1 : decode cL_readShare 1 = .ok (.iconst 0, 1) := by decide +kernel
theorem dL_readShare_2 : decode cL_readShare 2 = .ok (.aload_n 0, 1) := by decide +kernel
theorem dL_readShare_3 : decode cL_readShare 3 = .ok (.iload_n 1, 1) := by decide +kernel
theorem dL_readShare_4 : decode cL_readShare 4 = .ok (.invokevirtual 100, 3) := by decide +kernel
theorem dL_readShare_7 : decode cL_readShare 7 = .ok (.f2d, 1) := by decide +kernel
theorem dL_readShare_8 : decode cL_readShare 8 = .ok (.dastore, 1) := by decide +kernel
theorem dL_readShare_9 : decode cL_readShare 9 = .ok (.goto 9, 3) := by decide +kernel
theorem dL_readShare_12 : decode cL_readShare 12 = .ok (.astore_n 3, 1) := by decide +kernel
theorem dL_readShare_13 : decode cL_readShare 13 = .ok (.iconst 1, 1) := by decide +kernel
theorem dL_readShare_14 : decode cL_readShare 14 = .ok (.ireturn, 1) := by decide +kernel
theorem dL_readShare_15 : decode cL_readShare 15 = .ok (.astore_n 3, 1) := by decide +kernel
theorem dL_readShare_16 : decode cL_readShare 16 = .ok (.iconst 2, 1) := by decide +kernel
theorem dL_readShare_17 : decode cL_readShare 17 = .ok (.ireturn, 1) := by decide +kernel
theorem dL_readShare_18 : decode cL_readShare 18 = .ok (.iconst 0, 1) := by decide +kernel
theorem dL_readShare_19 : decode cL_readShare 19 = .ok (.ireturn, 1) := by decide +kernel
theorem dL_addDevice_0 : decode cL_addDevice 0 = .ok (.aload_n 1, 1) := by decide +kernel
theorem dL_addDevice_1 : decode cL_addDevice 1 = .ok (.iconst 0, 1) := by decide +kernel
theorem dL_addDevice_2 : decode cL_addDevice 2 = .ok (.aload_n 0, 1) := by decide +kernel
theorem dL_addDevice_3 : decode cL_addDevice 3 = .ok (.invokevirtual 106, 3) := by decide +kernel
theorem dL_addDevice_6 : decode cL_addDevice 6 = .ok (.i2l, 1) := by decide +kernel
theorem dL_addDevice_7 : decode cL_addDevice 7 = .ok (.lastore, 1) := by decide +kernel
theorem dL_addDevice_8 : decode cL_addDevice 8 = .ok (.goto 6, 3) := by decide +kernel
theorem dL_addDevice_11 : decode cL_addDevice 11 = .ok (.astore_n 2, 1) := by decide +kernel
theorem dL_addDevice_12 : decode cL_addDevice 12 = .ok (.iconst 1, 1) := by decide +kernel
theorem dL_addDevice_13 : decode cL_addDevice 13 = .ok (.ireturn, 1) := by decide +kernel
theorem dL_addDevice_14 : decode cL_addDevice 14 = .ok (.iconst 0, 1) := by decide +kernel
theorem dL_addDevice_15 : decode cL_addDevice 15 = .ok (.ireturn, 1) := by decide +kernel
theorem dL_mark_0 : decode cL_mark 0 = .ok (.aload 4, 2) := by decide +kernel
theorem dL_mark_2 : decode cL_mark 2 = .ok (.iconst 0, 1) := by decide +kernel
theorem dL_mark_3 : decode cL_mark 3 = .ok (.aload_n 0, 1) := by decide +kernel
theorem dL_mark_4 : decode cL_mark 4 = .ok (.iload_n 1, 1) := by decide +kernel
theorem dL_mark_5 : decode cL_mark 5 = .ok (.iload_n 2, 1) := by decide +kernel
theorem dL_mark_6 : decode cL_mark 6 = .ok (.iload_n 3, 1) := by decide +kernel
theorem dL_mark_7 : decode cL_mark 7 = .ok (.invokevirtual 109, 3) := by decide +kernel
theorem dL_mark_10 : decode cL_mark 10 = .ok (.ifCond .eq 7, 3) := by decide +kernel
theorem dL_mark_13 : decode cL_mark 13 = .ok (.lconst 1, 1) := by decide +kernel
theorem dL_mark_14 : decode cL_mark 14 = .ok (.goto 4, 3) := by decide +kernel
theorem dL_mark_17 : decode cL_mark 17 = .ok (.lconst 0, 1) := by decide +kernel
theorem dL_mark_18 : decode cL_mark 18 = .ok (.lastore, 1) := by decide +kernel
theorem dL_mark_19 : decode cL_mark 19 = .ok (.goto 11, 3) := by decide +kernel
theorem dL_mark_22 : decode cL_mark 22 = .ok (.astore 5, 2) := by decide +kernel
theorem dL_mark_24 : decode cL_mark 24 = .ok (.iconst 1, 1) := by decide +kernel
theorem dL_mark_25 : decode cL_mark 25 = .ok (.ireturn, 1) := by decide +kernel
theorem dL_mark_26 : decode cL_mark 26 = .ok (.astore 5, 2) := by decide +kernel
theorem dL_mark_28 : decode cL_mark 28 = .ok (.iconst 2, 1) := by decide +kernel
theorem dL_mark_29 : decode cL_mark 29 = .ok (.ireturn, 1) := by decide +kernel
theorem dL_mark_30 : decode cL_mark 30 = .ok (.iconst 0, 1) := by decide +kernel
theorem dL_mark_31 : decode cL_mark 31 = .ok (.ireturn, 1) := by decide +kernel
theorem dL_markRiver_0 : decode cL_markRiver 0 = .ok (.aload_n 3, 1) := by decide +kernel
theorem dL_markRiver_1 : decode cL_markRiver 1 = .ok (.iconst 0, 1) := by decide +kernel
theorem dL_markRiver_2 : decode cL_markRiver 2 = .ok (.aload_n 0, 1) := by decide +kernel
theorem dL_markRiver_3 : decode cL_markRiver 3 = .ok (.iload_n 1, 1) := by decide +kernel
theorem dL_markRiver_4 : decode cL_markRiver 4 = .ok (.iload_n 2, 1) := by decide +kernel
theorem dL_markRiver_5 : decode cL_markRiver 5 = .ok (.invokevirtual 113, 3) := by decide +kernel
theorem dL_markRiver_8 : decode cL_markRiver 8 = .ok (.i2l, 1) := by decide +kernel
theorem dL_markRiver_9 : decode cL_markRiver 9 = .ok (.lastore, 1) := by decide +kernel
theorem dL_markRiver_10 : decode cL_markRiver 10 = .ok (.goto 7, 3) := by decide +kernel
theorem dL_markRiver_13 : decode cL_markRiver 13 = .ok (.astore 4, 2) := by decide +kernel
theorem dL_markRiver_15 : decode cL_markRiver 15 = .ok (.iconst 1, 1) := by decide +kernel
theorem dL_markRiver_16 : decode cL_markRiver 16 = .ok (.ireturn, 1) := by decide +kernel
theorem dL_markRiver_17 : decode cL_markRiver 17 = .ok (.iconst 0, 1) := by decide +kernel
theorem dL_markRiver_18 : decode cL_markRiver 18 = .ok (.ireturn, 1) := by decide +kernel
theorem dL_sync_0 : decode cL_sync 0 = .ok (.aload_n 2, 1) := by decide +kernel
theorem dL_sync_1 : decode cL_sync 1 = .ok (.iconst 0, 1) := by decide +kernel
theorem dL_sync_2 : decode cL_sync 2 = .ok (.aload_n 0, 1) := by decide +kernel
theorem dL_sync_3 : decode cL_sync 3 = .ok (.iload_n 1, 1) := by decide +kernel
theorem dL_sync_4 : decode cL_sync 4 = .ok (.invokevirtual 116, 3) := by decide +kernel
theorem dL_sync_7 : decode cL_sync 7 = .ok (.i2l, 1) := by decide +kernel
theorem dL_sync_8 : decode cL_sync 8 = .ok (.lastore, 1) := by decide +kernel
theorem dL_sync_9 : decode cL_sync 9 = .ok (.goto 6, 3) := by decide +kernel
theorem dL_sync_12 : decode cL_sync 12 = .ok (.astore_n 3, 1) := by decide +kernel
theorem dL_sync_13 : decode cL_sync 13 = .ok (.iconst 1, 1) := by decide +kernel
theorem dL_sync_14 : decode cL_sync 14 = .ok (.ireturn, 1) := by decide +kernel
theorem dL_sync_15 : decode cL_sync 15 = .ok (.iconst 0, 1) := by decide +kernel
theorem dL_sync_16 : decode cL_sync 16 = .ok (.ireturn, 1) := by decide +kernel
theorem dL_isRead_0 : decode cL_isRead 0 = .ok (.aload_n 2, 1) := by decide +kernel
theorem dL_isRead_1 : decode cL_isRead 1 = .ok (.iconst 0, 1) := by decide +kernel
theorem dL_isRead_2 : decode cL_isRead 2 = .ok (.aload_n 0, 1) := by decide +kernel
theorem dL_isRead_3 : decode cL_isRead 3 = .ok (.iload_n 1, 1) := by decide +kernel
theorem dL_isRead_4 : decode cL_isRead 4 = .ok (.invokevirtual 119, 3) := by decide +kernel
theorem dL_isRead_7 : decode cL_isRead 7 = .ok (.ifCond .eq 7, 3) := by decide +kernel
theorem dL_isRead_10 : decode cL_isRead 10 = .ok (.lconst 1, 1) := by decide +kernel
theorem dL_isRead_11 : decode cL_isRead 11 = .ok (.goto 4, 3) := by decide +kernel
theorem dL_isRead_14 : decode cL_isRead 14 = .ok (.lconst 0, 1) := by decide +kernel
theorem dL_isRead_15 : decode cL_isRead 15 = .ok (.lastore, 1) := by decide +kernel
theorem dL_isRead_16 : decode cL_isRead 16 = .ok (.goto 6, 3) := by decide +kernel
theorem dL_isRead_19 : decode cL_isRead 19 = .ok (.astore_n 3, 1) := by decide +kernel
theorem dL_isRead_20 : decode cL_isRead 20 = .ok (.iconst 1, 1) := by decide +kernel
theorem dL_isRead_21 : decode cL_isRead 21 = .ok (.ireturn, 1) := by decide +kernel
theorem dL_isRead_22 : decode cL_isRead 22 = .ok (.iconst 0, 1) := by decide +kernel
theorem dL_isRead_23 : decode cL_isRead 23 = .ok (.ireturn, 1) := by decide +kernel
theorem dL_isReadOn_0 : decode cL_isReadOn 0 = .ok (.aload_n 3, 1) := by decide +kernel
theorem dL_isReadOn_1 : decode cL_isReadOn 1 = .ok (.iconst 0, 1) := by decide +kernel
theorem dL_isReadOn_2 : decode cL_isReadOn 2 = .ok (.aload_n 0, 1) := by decide +kernel
theorem dL_isReadOn_3 : decode cL_isReadOn 3 = .ok (.iload_n 1, 1) := by decide +kernel
theorem dL_isReadOn_4 : decode cL_isReadOn 4 = .ok (.iload_n 2, 1) := by decide +kernel
theorem dL_isReadOn_5 : decode cL_isReadOn 5 = .ok (.invokevirtual 122, 3) := by decide +kernel
theorem dL_isReadOn_8 : decode cL_isReadOn 8 = .ok (.ifCond .eq 7, 3) := by decide +kernel
theorem dL_isReadOn_11 : decode cL_isReadOn 11 = .ok (.lconst 1, 1) := by decide +kernel
theorem dL_isReadOn_12 : decode cL_isReadOn 12 = .ok (.goto 4, 3) := by decide +kernel
theorem dL_isReadOn_15 : decode cL_isReadOn 15 = .ok (.lconst 0, 1) := by decide +kernel
theorem dL_isReadOn_16 : decode cL_isReadOn 16 = .ok (.lastore, 1) := by decide +kernel
theorem dL_isReadOn_17 : decode cL_isReadOn 17 = .ok (.goto 11, 3) := by decide +kernel
theorem dL_isReadOn_20 : decode cL_isReadOn 20 = .ok (.astore 4, 2) := by decide +kernel
theorem dL_isReadOn_22 : decode cL_isReadOn 22 = .ok (.iconst 1, 1) := by decide +kernel
theorem dL_isReadOn_23 : decode cL_isReadOn 23 = .ok (.ireturn, 1) := by decide +kernel
theorem dL_isReadOn_24 : decode cL_isReadOn 24 = .ok (.astore 4, 2) := by decide +kernel
theorem dL_isReadOn_26 : decode cL_isReadOn 26 = .ok (.iconst 2, 1) := by decide +kernel
theorem dL_isReadOn_27 : decode cL_isReadOn 27 = .ok (.ireturn, 1) := by decide +kernel
theorem dL_isReadOn_28 : decode cL_isReadOn 28 = .ok (.iconst 0, 1) := by decide +kernel
theorem dL_isReadOn_29 : decode cL_isReadOn 29 = .ok (.ireturn, 1) := by decide +kernel
theorem dL_knownVersions_0 : decode cL_knownVersions 0 = .ok (.aload_n 3, 1) := by decide +kernel
theorem dL_knownVersions_1 : decode cL_knownVersions 1 = .ok (.iconst 0, 1) := by decide +kernel
theorem dL_knownVersions_2 : decode cL_knownVersions 2 = .ok (.aload_n 0, 1) := by decide +kernel
theorem dL_knownVersions_3 : decode cL_knownVersions 3 = .ok (.iload_n 1, 1) := by decide +kernel
theorem dL_knownVersions_4 : decode cL_knownVersions 4 = .ok (.iload_n 2, 1) := by decide +kernel
theorem dL_knownVersions_5 : decode cL_knownVersions 5 = .ok (.invokevirtual 126, 3) := by decide +kernel
theorem dL_knownVersions_8 : decode cL_knownVersions 8 = .ok (.i2l, 1) := by decide +kernel
theorem dL_knownVersions_9 : decode cL_knownVersions 9 = .ok (.lastore, 1) := by decide +kernel
theorem dL_knownVersions_10 : decode cL_knownVersions 10 = .ok (.goto 7, 3) := by decide +kernel
theorem dL_knownVersions_13 : decode cL_knownVersions 13 = .ok (.astore 4, 2) := by decide +kernel
theorem dL_knownVersions_15 : decode cL_knownVersions 15 = .ok (.iconst 1, 1) := by decide +kernel
theorem dL_knownVersions_16 : decode cL_knownVersions 16 = .ok (.ireturn, 1) := by decide +kernel
theorem dL_knownVersions_17 : decode cL_knownVersions 17 = .ok (.iconst 0, 1) := by decide +kernel
theorem dL_knownVersions_18 : decode cL_knownVersions 18 = .ok (.ireturn, 1) := by decide +kernel
theorem dL_meanVersions_0 : decode cL_meanVersions 0 = .ok (.aload_n 1, 1) := by decide +kernel
theorem dL_meanVersions_1 : decode cL_meanVersions 1 = .ok (.iconst 0, 1) := by decide +kernel
theorem dL_meanVersions_2 : decode cL_meanVersions 2 = .ok (.aload_n 0, 1) := by decide +kernel
theorem dL_meanVersions_3 : decode cL_meanVersions 3 = .ok (.invokevirtual 129, 3) := by decide +kernel
theorem dL_meanVersions_6 : decode cL_meanVersions 6 = .ok (.dastore, 1) := by decide +kernel
theorem dL_meanVersions_7 : decode cL_meanVersions 7 = .ok (.goto 6, 3) := by decide +kernel
theorem dL_meanVersions_10 : decode cL_meanVersions 10 = .ok (.astore_n 2, 1) := by decide +kernel
theorem dL_meanVersions_11 : decode cL_meanVersions 11 = .ok (.iconst 1, 1) := by decide +kernel
theorem dL_meanVersions_12 : decode cL_meanVersions 12 = .ok (.ireturn, 1) := by decide +kernel
theorem dL_meanVersions_13 : decode cL_meanVersions 13 = .ok (.iconst 0, 1) := by decide +kernel
theorem dL_meanVersions_14 : decode cL_meanVersions 14 = .ok (.ireturn, 1) := by decide +kernel
end
section
theorem dL_law_0 : decode cL_law 0 = .ok (.new 8, 3) := by decide +kernel
theorem dL_law_3 : decode cL_law 3 = .ok (.dup, 1) := by decide +kernel
theorem dL_law_4 : decode cL_law 4 = .ok (.invokespecial 133, 3) := by decide +kernel
theorem dL_law_7 : decode cL_law 7 = .ok (.astore_n 1, 1) := by decide +kernel
theorem dL_law_8 : decode cL_law 8 = .ok (.new 134, 3) := by decide +kernel
theorem dL_law_11 : decode cL_law 11 = .ok (.dup, 1) := by decide +kernel
theorem dL_law_12 : decode cL_law 12 = .ok (.invokespecial 136, 3) := by decide +kernel
theorem dL_law_15 : decode cL_law 15 = .ok (.astore_n 2, 1) := by decide +kernel
theorem dL_law_16 : decode cL_law 16 = .ok (.iconst 1, 1) := by decide +kernel
theorem dL_law_17 : decode cL_law 17 = .ok (.newarray .long, 2) := by decide +kernel
theorem dL_law_19 : decode cL_law 19 = .ok (.astore_n 3, 1) := by decide +kernel
theorem dL_law_20 : decode cL_law 20 = .ok (.iconst 1, 1) := by decide +kernel
theorem dL_law_21 : decode cL_law 21 = .ok (.newarray .double, 2) := by decide +kernel
theorem dL_law_23 : decode cL_law 23 = .ok (.astore 4, 2) := by decide +kernel
theorem dL_law_25 : decode cL_law 25 = .ok (.iconst 0, 1) := by decide +kernel
theorem dL_law_26 : decode cL_law 26 = .ok (.istore 5, 2) := by decide +kernel
theorem dL_law_28 : decode cL_law 28 = .ok (.iload 5, 2) := by decide +kernel
theorem dL_law_30 : decode cL_law 30 = .ok (.aload_n 0, 1) := by decide +kernel
theorem dL_law_31 : decode cL_law 31 = .ok (.arraylength, 1) := by decide +kernel
theorem dL_law_32 : decode cL_law 32 = .ok (.bipush 8, 2) := by decide +kernel
theorem dL_law_34 : decode cL_law 34 = .ok (.isub, 1) := by decide +kernel
theorem dL_law_35 : decode cL_law 35 = .ok (.if_icmp .gt 2578, 3) := by decide +kernel
theorem dL_law_38 : decode cL_law 38 = .ok (.aload_n 0, 1) := by decide +kernel
theorem dL_law_39 : decode cL_law 39 = .ok (.iload 5, 2) := by decide +kernel
theorem dL_law_41 : decode cL_law 41 = .ok (.iaload, 1) := by decide +kernel
theorem dL_law_42 : decode cL_law 42 = .ok (.bipush 63, 2) := by decide +kernel
theorem dL_law_44 : decode cL_law 44 = .ok (.iand, 1) := by decide +kernel
theorem dL_law_45 : decode cL_law 45 = .ok (.tableswitch 2562 0 36 #[163, 219, 232, 288, 344, 476, 520, 658, 671, 739, 795, 862, 918, 974, 1030, 1086, 1258, 1314, 1370, 1433, 1489, 1557, 1613, 1681, 1749, 1817, 1873, 1929, 2007, 2051, 2154, 2222, 2278, 2341, 2416, 2484, 2549], 163) := by decide +kernel
theorem dL_law_208 : decode cL_law 208 = .ok (.aload_n 1, 1) := by decide +kernel
theorem dL_law_209 : decode cL_law 209 = .ok (.aload_n 0, 1) := by decide +kernel
theorem dL_law_210 : decode cL_law 210 = .ok (.iload 5, 2) := by decide +kernel
theorem dL_law_212 : decode cL_law 212 = .ok (.iconst 1, 1) := by decide +kernel
theorem dL_law_213 : decode cL_law 213 = .ok (.iadd, 1) := by decide +kernel
theorem dL_law_214 : decode cL_law 214 = .ok (.iaload, 1) := by decide +kernel
theorem dL_law_215 : decode cL_law 215 = .ok (.aload_n 3, 1) := by decide +kernel
theorem dL_law_216 : decode cL_law 216 = .ok (.invokestatic 137, 3) := by decide +kernel
theorem dL_law_219 : decode cL_law 219 = .ok (.istore 6, 2) := by decide +kernel
theorem dL_law_221 : decode cL_law 221 = .ok (.aload_n 2, 1) := by decide +kernel
theorem dL_law_222 : decode cL_law 222 = .ok (.aload_n 0, 1) := by decide +kernel
theorem dL_law_223 : decode cL_law 223 = .ok (.iload 5, 2) := by decide +kernel
theorem dL_law_225 : decode cL_law 225 = .ok (.iconst 1, 1) := by decide +kernel
theorem dL_law_226 : decode cL_law 226 = .ok (.iadd, 1) := by decide +kernel
theorem dL_law_227 : decode cL_law 227 = .ok (.iaload, 1) := by decide +kernel
theorem dL_law_228 : decode cL_law 228 = .ok (.invokevirtual 142, 3) := by decide +kernel
theorem dL_law_231 : decode cL_law 231 = .ok (.istore 7, 2) := by decide +kernel
theorem dL_law_233 : decode cL_law 233 = .ok (.aload_n 2, 1) := by decide +kernel
theorem dL_law_234 : decode cL_law 234 = .ok (.invokevirtual 143, 3) := by decide +kernel
theorem dL_law_237 : decode cL_law 237 = .ok (.iload 6, 2) := by decide +kernel
theorem dL_law_239 : decode cL_law 239 = .ok (.if_icmp .eq 5, 3) := by decide +kernel
theorem dL_law_242 : decode cL_law 242 = .ok (.iconst 0, 1) := by decide +kernel
theorem dL_law_243 : decode cL_law 243 = .ok (.ireturn, 1) := by decide +kernel
theorem dL_law_244 : decode cL_law 244 = .ok (.iload 6, 2) := by decide +kernel
theorem dL_law_246 : decode cL_law 246 = .ok (.ifCond .ne 15, 3) := by decide +kernel
theorem dL_law_249 : decode cL_law 249 = .ok (.aload_n 3, 1) := by decide +kernel
theorem dL_law_250 : decode cL_law 250 = .ok (.iconst 0, 1) := by decide +kernel
theorem dL_law_251 : decode cL_law 251 = .ok (.laload, 1) := by decide +kernel
theorem dL_law_252 : decode cL_law 252 = .ok (.iload 7, 2) := by decide +kernel
theorem dL_law_254 : decode cL_law 254 = .ok (.i2l, 1) := by decide +kernel
theorem dL_law_255 : decode cL_law 255 = .ok (.lcmp, 1) := by decide +kernel
theorem dL_law_256 : decode cL_law 256 = .ok (.ifCond .eq 5, 3) := by decide +kernel
theorem dL_law_259 : decode cL_law 259 = .ok (.iconst 0, 1) := by decide +kernel
theorem dL_law_260 : decode cL_law 260 = .ok (.ireturn, 1) := by decide +kernel
theorem dL_law_261 : decode cL_law 261 = .ok (.goto 2346, 3) := by decide +kernel
theorem dL_law_264 : decode cL_law 264 = .ok (.aload_n 1, 1) := by decide +kernel
theorem dL_law_265 : decode cL_law 265 = .ok (.invokevirtual 146, 3) := by decide +kernel
theorem dL_law_268 : decode cL_law 268 = .ok (.aload_n 2, 1) := by decide +kernel
theorem dL_law_269 : decode cL_law 269 = .ok (.invokevirtual 149, 3) := by decide +kernel
theorem dL_law_272 : decode cL_law 272 = .ok (.if_icmp .eq 2335, 3) := by decide +kernel
theorem dL_law_275 : decode cL_law 275 = .ok (.iconst 0, 1) := by decide +kernel
theorem dL_law_276 : decode cL_law 276 = .ok (.ireturn, 1) := by decide +kernel
theorem dL_law_277 : decode cL_law 277 = .ok (.aload_n 1, 1) := by decide +kernel
theorem dL_law_278 : decode cL_law 278 = .ok (.aload_n 0, 1) := by decide +kernel
theorem dL_law_279 : decode cL_law 279 = .ok (.iload 5, 2) := by decide +kernel
theorem dL_law_281 : decode cL_law 281 = .ok (.iconst 1, 1) := by decide +kernel
theorem dL_law_282 : decode cL_law 282 = .ok (.iadd, 1) := by decide +kernel
theorem dL_law_283 : decode cL_law 283 = .ok (.iaload, 1) := by decide +kernel
theorem dL_law_284 : decode cL_law 284 = .ok (.aload_n 3, 1) := by decide +kernel
theorem dL_law_285 : decode cL_law 285 = .ok (.invokestatic 150, 3) := by decide +kernel
theorem dL_law_288 : decode cL_law 288 = .ok (.istore 6, 2) := by decide +kernel
theorem dL_law_290 : decode cL_law 290 = .ok (.aload_n 2, 1) := by decide +kernel
theorem dL_law_291 : decode cL_law 291 = .ok (.aload_n 0, 1) := by decide +kernel
theorem dL_law_292 : decode cL_law 292 = .ok (.iload 5, 2) := by decide +kernel
theorem dL_law_294 : decode cL_law 294 = .ok (.iconst 1, 1) := by decide +kernel
theorem dL_law_295 : decode cL_law 295 = .ok (.iadd, 1) := by decide +kernel
theorem dL_law_296 : decode cL_law 296 = .ok (.iaload, 1) := by decide +kernel
theorem dL_law_297 : decode cL_law 297 = .ok (.invokevirtual 152, 3) := by decide +kernel
theorem dL_law_300 : decode cL_law 300 = .ok (.istore 7, 2) := by decide +kernel
theorem dL_law_302 : decode cL_law 302 = .ok (.aload_n 2, 1) := by decide +kernel
theorem dL_law_303 : decode cL_law 303 = .ok (.invokevirtual 143, 3) := by decide +kernel
theorem dL_law_306 : decode cL_law 306 = .ok (.iload 6, 2) := by decide +kernel
theorem dL_law_308 : decode cL_law 308 = .ok (.if_icmp .eq 5, 3) := by decide +kernel
theorem dL_law_311 : decode cL_law 311 = .ok (.iconst 0, 1) := by decide +kernel
theorem dL_law_312 : decode cL_law 312 = .ok (.ireturn, 1) := by decide +kernel
theorem dL_law_313 : decode cL_law 313 = .ok (.iload 6, 2) := by decide +kernel
theorem dL_law_315 : decode cL_law 315 = .ok (.ifCond .ne 15, 3) := by decide +kernel
theorem dL_law_318 : decode cL_law 318 = .ok (.aload_n 3, 1) := by decide +kernel
theorem dL_law_319 : decode cL_law 319 = .ok (.iconst 0, 1) := by decide +kernel
theorem dL_law_320 : decode cL_law 320 = .ok (.laload, 1) := by decide +kernel
theorem dL_law_321 : decode cL_law 321 = .ok (.iload 7, 2) := by decide +kernel
theorem dL_law_323 : decode cL_law 323 = .ok (.i2l, 1) := by decide +kernel
theorem dL_law_324 : decode cL_law 324 = .ok (.lcmp, 1) := by decide +kernel
theorem dL_law_325 : decode cL_law 325 = .ok (.ifCond .eq 5, 3) := by decide +kernel
theorem dL_law_328 : decode cL_law 328 = .ok (.iconst 0, 1) := by decide +kernel
theorem dL_law_329 : decode cL_law 329 = .ok (.ireturn, 1) := by decide +kernel
theorem dL_law_330 : decode cL_law 330 = .ok (.goto 2277, 3) := by decide +kernel
theorem dL_law_333 : decode cL_law 333 = .ok (.aload_n 1, 1) := by decide +kernel
theorem dL_law_334 : decode cL_law 334 = .ok (.aload_n 0, 1) := by decide +kernel
theorem dL_law_335 : decode cL_law 335 = .ok (.iload 5, 2) := by decide +kernel
theorem dL_law_337 : decode cL_law 337 = .ok (.iconst 1, 1) := by decide +kernel
theorem dL_law_338 : decode cL_law 338 = .ok (.iadd, 1) := by decide +kernel
theorem dL_law_339 : decode cL_law 339 = .ok (.iaload, 1) := by decide +kernel
theorem dL_law_340 : decode cL_law 340 = .ok (.aload_n 3, 1) := by decide +kernel
theorem dL_law_341 : decode cL_law 341 = .ok (.invokestatic 153, 3) := by decide +kernel
theorem dL_law_344 : decode cL_law 344 = .ok (.istore 6, 2) := by decide +kernel
theorem dL_law_346 : decode cL_law 346 = .ok (.aload_n 2, 1) := by decide +kernel
theorem dL_law_347 : decode cL_law 347 = .ok (.aload_n 0, 1) := by decide +kernel
theorem dL_law_348 : decode cL_law 348 = .ok (.iload 5, 2) := by decide +kernel
theorem dL_law_350 : decode cL_law 350 = .ok (.iconst 1, 1) := by decide +kernel
theorem dL_law_351 : decode cL_law 351 = .ok (.iadd, 1) := by decide +kernel
theorem dL_law_352 : decode cL_law 352 = .ok (.iaload, 1) := by decide +kernel
theorem dL_law_353 : decode cL_law 353 = .ok (.invokevirtual 155, 3) := by decide +kernel
theorem dL_law_356 : decode cL_law 356 = .ok (.istore 7, 2) := by decide +kernel
theorem dL_law_358 : decode cL_law 358 = .ok (.aload_n 2, 1) := by decide +kernel
theorem dL_law_359 : decode cL_law 359 = .ok (.invokevirtual 143, 3) := by decide +kernel
theorem dL_law_362 : decode cL_law 362 = .ok (.iload 6, 2) := by decide +kernel
theorem dL_law_364 : decode cL_law 364 = .ok (.if_icmp .eq 5, 3) := by decide +kernel
theorem dL_law_367 : decode cL_law 367 = .ok (.iconst 0, 1) := by decide +kernel
theorem dL_law_368 : decode cL_law 368 = .ok (.ireturn, 1) := by decide +kernel
theorem dL_law_369 : decode cL_law 369 = .ok (.iload 6, 2) := by decide +kernel
theorem dL_law_371 : decode cL_law 371 = .ok (.ifCond .ne 15, 3) := by decide +kernel
theorem dL_law_374 : decode cL_law 374 = .ok (.aload_n 3, 1) := by decide +kernel
theorem dL_law_375 : decode cL_law 375 = .ok (.iconst 0, 1) := by decide +kernel
theorem dL_law_376 : decode cL_law 376 = .ok (.laload, 1) := by decide +kernel
theorem dL_law_377 : decode cL_law 377 = .ok (.iload 7, 2) := by decide +kernel
theorem dL_law_379 : decode cL_law 379 = .ok (.i2l, 1) := by decide +kernel
theorem dL_law_380 : decode cL_law 380 = .ok (.lcmp, 1) := by decide +kernel
theorem dL_law_381 : decode cL_law 381 = .ok (.ifCond .eq 5, 3) := by decide +kernel
theorem dL_law_384 : decode cL_law 384 = .ok (.iconst 0, 1) := by decide +kernel
theorem dL_law_385 : decode cL_law 385 = .ok (.ireturn, 1) := by decide +kernel
theorem dL_law_386 : decode cL_law 386 = .ok (.goto 2221, 3) := by decide +kernel
theorem dL_law_389 : decode cL_law 389 = .ok (.aload_n 1, 1) := by decide +kernel
theorem dL_law_390 : decode cL_law 390 = .ok (.aload_n 0, 1) := by decide +kernel
theorem dL_law_391 : decode cL_law 391 = .ok (.iload 5, 2) := by decide +kernel
theorem dL_law_393 : decode cL_law 393 = .ok (.iconst 1, 1) := by decide +kernel
theorem dL_law_394 : decode cL_law 394 = .ok (.iadd, 1) := by decide +kernel
theorem dL_law_395 : decode cL_law 395 = .ok (.iaload, 1) := by decide +kernel
theorem dL_law_396 : decode cL_law 396 = .ok (.i2l, 1) := by decide +kernel
theorem dL_law_397 : decode cL_law 397 = .ok (.bipush 32, 2) := by decide +kernel
theorem dL_law_399 : decode cL_law 399 = .ok (.lshl, 1) := by decide +kernel
theorem dL_law_400 : decode cL_law 400 = .ok (.aload_n 0, 1) := by decide +kernel
theorem dL_law_401 : decode cL_law 401 = .ok (.iload 5, 2) := by decide +kernel
theorem dL_law_403 : decode cL_law 403 = .ok (.iconst 2, 1) := by decide +kernel
theorem dL_law_404 : decode cL_law 404 = .ok (.iadd, 1) := by decide +kernel
theorem dL_law_405 : decode cL_law 405 = .ok (.iaload, 1) := by decide +kernel
theorem dL_law_406 : decode cL_law 406 = .ok (.i2l, 1) := by decide +kernel
theorem dL_law_407 : decode cL_law 407 = .ok (.ldc2_w 156, 3) := by decide +kernel
theorem dL_law_410 : decode cL_law 410 = .ok (.land, 1) := by decide +kernel
theorem dL_law_411 : decode cL_law 411 = .ok (.lor, 1) := by decide +kernel
theorem dL_law_412 : decode cL_law 412 = .ok (.aload_n 0, 1) := by decide +kernel
theorem dL_law_413 : decode cL_law 413 = .ok (.iload 5, 2) := by decide +kernel
theorem dL_law_415 : decode cL_law 415 = .ok (.iconst 3, 1) := by decide +kernel
theorem dL_law_416 : decode cL_law 416 = .ok (.iadd, 1) := by decide +kernel
theorem dL_law_417 : decode cL_law 417 = .ok (.iaload, 1) := by decide +kernel
theorem dL_law_418 : decode cL_law 418 = .ok (.i2l, 1) := by decide +kernel
theorem dL_law_419 : decode cL_law 419 = .ok (.bipush 32, 2) := by decide +kernel
theorem dL_law_421 : decode cL_law 421 = .ok (.lshl, 1) := by decide +kernel
theorem dL_law_422 : decode cL_law 422 = .ok (.aload_n 0, 1) := by decide +kernel
theorem dL_law_423 : decode cL_law 423 = .ok (.iload 5, 2) := by decide +kernel
theorem dL_law_425 : decode cL_law 425 = .ok (.iconst 4, 1) := by decide +kernel
theorem dL_law_426 : decode cL_law 426 = .ok (.iadd, 1) := by decide +kernel
theorem dL_law_427 : decode cL_law 427 = .ok (.iaload, 1) := by decide +kernel
theorem dL_law_428 : decode cL_law 428 = .ok (.i2l, 1) := by decide +kernel
theorem dL_law_429 : decode cL_law 429 = .ok (.ldc2_w 156, 3) := by decide +kernel
theorem dL_law_432 : decode cL_law 432 = .ok (.land, 1) := by decide +kernel
theorem dL_law_433 : decode cL_law 433 = .ok (.lor, 1) := by decide +kernel
theorem dL_law_434 : decode cL_law 434 = .ok (.aload_n 3, 1) := by decide +kernel
theorem dL_law_435 : decode cL_law 435 = .ok (.invokestatic 158, 3) := by decide +kernel
theorem dL_law_438 : decode cL_law 438 = .ok (.istore 6, 2) := by decide +kernel
theorem dL_law_440 : decode cL_law 440 = .ok (.aload_n 2, 1) := by decide +kernel
theorem dL_law_441 : decode cL_law 441 = .ok (.aload_n 0, 1) := by decide +kernel
theorem dL_law_442 : decode cL_law 442 = .ok (.iload 5, 2) := by decide +kernel
theorem dL_law_444 : decode cL_law 444 = .ok (.iconst 1, 1) := by decide +kernel
theorem dL_law_445 : decode cL_law 445 = .ok (.iadd, 1) := by decide +kernel
theorem dL_law_446 : decode cL_law 446 = .ok (.iaload, 1) := by decide +kernel
theorem dL_law_447 : decode cL_law 447 = .ok (.i2l, 1) := by decide +kernel
theorem dL_law_448 : decode cL_law 448 = .ok (.bipush 32, 2) := by decide +kernel
theorem dL_law_450 : decode cL_law 450 = .ok (.lshl, 1) := by decide +kernel
theorem dL_law_451 : decode cL_law 451 = .ok (.aload_n 0, 1) := by decide +kernel
theorem dL_law_452 : decode cL_law 452 = .ok (.iload 5, 2) := by decide +kernel
theorem dL_law_454 : decode cL_law 454 = .ok (.iconst 2, 1) := by decide +kernel
theorem dL_law_455 : decode cL_law 455 = .ok (.iadd, 1) := by decide +kernel
theorem dL_law_456 : decode cL_law 456 = .ok (.iaload, 1) := by decide +kernel
theorem dL_law_457 : decode cL_law 457 = .ok (.i2l, 1) := by decide +kernel
theorem dL_law_458 : decode cL_law 458 = .ok (.ldc2_w 156, 3) := by decide +kernel
theorem dL_law_461 : decode cL_law 461 = .ok (.land, 1) := by decide +kernel
theorem dL_law_462 : decode cL_law 462 = .ok (.lor, 1) := by decide +kernel
theorem dL_law_463 : decode cL_law 463 = .ok (.aload_n 0, 1) := by decide +kernel
theorem dL_law_464 : decode cL_law 464 = .ok (.iload 5, 2) := by decide +kernel
theorem dL_law_466 : decode cL_law 466 = .ok (.iconst 3, 1) := by decide +kernel
theorem dL_law_467 : decode cL_law 467 = .ok (.iadd, 1) := by decide +kernel
theorem dL_law_468 : decode cL_law 468 = .ok (.iaload, 1) := by decide +kernel
theorem dL_law_469 : decode cL_law 469 = .ok (.i2l, 1) := by decide +kernel
theorem dL_law_470 : decode cL_law 470 = .ok (.bipush 32, 2) := by decide +kernel
theorem dL_law_472 : decode cL_law 472 = .ok (.lshl, 1) := by decide +kernel
theorem dL_law_473 : decode cL_law 473 = .ok (.aload_n 0, 1) := by decide +kernel
theorem dL_law_474 : decode cL_law 474 = .ok (.iload 5, 2) := by decide +kernel
theorem dL_law_476 : decode cL_law 476 = .ok (.iconst 4, 1) := by decide +kernel
theorem dL_law_477 : decode cL_law 477 = .ok (.iadd, 1) := by decide +kernel
theorem dL_law_478 : decode cL_law 478 = .ok (.iaload, 1) := by decide +kernel
theorem dL_law_479 : decode cL_law 479 = .ok (.i2l, 1) := by decide +kernel
theorem dL_law_480 : decode cL_law 480 = .ok (.ldc2_w 156, 3) := by decide +kernel
theorem dL_law_483 : decode cL_law 483 = .ok (.land, 1) := by decide +kernel
theorem dL_law_484 : decode cL_law 484 = .ok (.lor, 1) := by decide +kernel
theorem dL_law_485 : decode cL_law 485 = .ok (.invokevirtual 161, 3) := by decide +kernel
theorem dL_law_488 : decode cL_law 488 = .ok (.istore 7, 2) := by decide +kernel
theorem dL_law_490 : decode cL_law 490 = .ok (.aload_n 2, 1) := by decide +kernel
theorem dL_law_491 : decode cL_law 491 = .ok (.invokevirtual 143, 3) := by decide +kernel
theorem dL_law_494 : decode cL_law 494 = .ok (.iload 6, 2) := by decide +kernel
theorem dL_law_496 : decode cL_law 496 = .ok (.if_icmp .eq 5, 3) := by decide +kernel
theorem dL_law_499 : decode cL_law 499 = .ok (.iconst 0, 1) := by decide +kernel
theorem dL_law_500 : decode cL_law 500 = .ok (.ireturn, 1) := by decide +kernel
theorem dL_law_501 : decode cL_law 501 = .ok (.iload 6, 2) := by decide +kernel
theorem dL_law_503 : decode cL_law 503 = .ok (.ifCond .ne 15, 3) := by decide +kernel
theorem dL_law_506 : decode cL_law 506 = .ok (.aload_n 3, 1) := by decide +kernel
theorem dL_law_507 : decode cL_law 507 = .ok (.iconst 0, 1) := by decide +kernel
theorem dL_law_508 : decode cL_law 508 = .ok (.laload, 1) := by decide +kernel
theorem dL_law_509 : decode cL_law 509 = .ok (.iload 7, 2) := by decide +kernel
theorem dL_law_511 : decode cL_law 511 = .ok (.i2l, 1) := by decide +kernel
theorem dL_law_512 : decode cL_law 512 = .ok (.lcmp, 1) := by decide +kernel
theorem dL_law_513 : decode cL_law 513 = .ok (.ifCond .eq 5, 3) := by decide +kernel
theorem dL_law_516 : decode cL_law 516 = .ok (.iconst 0, 1) := by decide +kernel
theorem dL_law_517 : decode cL_law 517 = .ok (.ireturn, 1) := by decide +kernel
theorem dL_law_518 : decode cL_law 518 = .ok (.goto 2089, 3) := by decide +kernel
theorem dL_law_521 : decode cL_law 521 = .ok (.aload_n 1, 1) := by decide +kernel
theorem dL_law_522 : decode cL_law 522 = .ok (.aload_n 3, 1) := by decide +kernel
theorem dL_law_523 : decode cL_law 523 = .ok (.invokestatic 162, 3) := by decide +kernel
theorem dL_law_526 : decode cL_law 526 = .ok (.istore 6, 2) := by decide +kernel
theorem dL_law_528 : decode cL_law 528 = .ok (.aload_n 2, 1) := by decide +kernel
theorem dL_law_529 : decode cL_law 529 = .ok (.invokevirtual 165, 3) := by decide +kernel
theorem dL_law_532 : decode cL_law 532 = .ok (.istore 7, 2) := by decide +kernel
theorem dL_law_534 : decode cL_law 534 = .ok (.aload_n 2, 1) := by decide +kernel
theorem dL_law_535 : decode cL_law 535 = .ok (.invokevirtual 143, 3) := by decide +kernel
theorem dL_law_538 : decode cL_law 538 = .ok (.iload 6, 2) := by decide +kernel
theorem dL_law_540 : decode cL_law 540 = .ok (.if_icmp .eq 5, 3) := by decide +kernel
theorem dL_law_543 : decode cL_law 543 = .ok (.iconst 0, 1) := by decide +kernel
theorem dL_law_544 : decode cL_law 544 = .ok (.ireturn, 1) := by decide +kernel
theorem dL_law_545 : decode cL_law 545 = .ok (.iload 6, 2) := by decide +kernel
theorem dL_law_547 : decode cL_law 547 = .ok (.ifCond .ne 15, 3) := by decide +kernel
theorem dL_law_550 : decode cL_law 550 = .ok (.aload_n 3, 1) := by decide +kernel
theorem dL_law_551 : decode cL_law 551 = .ok (.iconst 0, 1) := by decide +kernel
theorem dL_law_552 : decode cL_law 552 = .ok (.laload, 1) := by decide +kernel
theorem dL_law_553 : decode cL_law 553 = .ok (.iload 7, 2) := by decide +kernel
theorem dL_law_555 : decode cL_law 555 = .ok (.i2l, 1) := by decide +kernel
theorem dL_law_556 : decode cL_law 556 = .ok (.lcmp, 1) := by decide +kernel
theorem dL_law_557 : decode cL_law 557 = .ok (.ifCond .eq 5, 3) := by decide +kernel
theorem dL_law_560 : decode cL_law 560 = .ok (.iconst 0, 1) := by decide +kernel
theorem dL_law_561 : decode cL_law 561 = .ok (.ireturn, 1) := by decide +kernel
theorem dL_law_562 : decode cL_law 562 = .ok (.goto 2045, 3) := by decide +kernel
theorem dL_law_565 : decode cL_law 565 = .ok (.aload_n 1, 1) := by decide +kernel
theorem dL_law_566 : decode cL_law 566 = .ok (.aload_n 0, 1) := by decide +kernel
theorem dL_law_567 : decode cL_law 567 = .ok (.iload 5, 2) := by decide +kernel
theorem dL_law_569 : decode cL_law 569 = .ok (.iconst 1, 1) := by decide +kernel
theorem dL_law_570 : decode cL_law 570 = .ok (.iadd, 1) := by decide +kernel
theorem dL_law_571 : decode cL_law 571 = .ok (.iaload, 1) := by decide +kernel
theorem dL_law_572 : decode cL_law 572 = .ok (.aload_n 0, 1) := by decide +kernel
theorem dL_law_573 : decode cL_law 573 = .ok (.iload 5, 2) := by decide +kernel
theorem dL_law_575 : decode cL_law 575 = .ok (.iconst 2, 1) := by decide +kernel
theorem dL_law_576 : decode cL_law 576 = .ok (.iadd, 1) := by decide +kernel
theorem dL_law_577 : decode cL_law 577 = .ok (.iaload, 1) := by decide +kernel
theorem dL_law_578 : decode cL_law 578 = .ok (.aload_n 0, 1) := by decide +kernel
theorem dL_law_579 : decode cL_law 579 = .ok (.iload 5, 2) := by decide +kernel
theorem dL_law_581 : decode cL_law 581 = .ok (.iconst 3, 1) := by decide +kernel
theorem dL_law_582 : decode cL_law 582 = .ok (.iadd, 1) := by decide +kernel
theorem dL_law_583 : decode cL_law 583 = .ok (.iaload, 1) := by decide +kernel
theorem dL_law_584 : decode cL_law 584 = .ok (.aload_n 0, 1) := by decide +kernel
theorem dL_law_585 : decode cL_law 585 = .ok (.iload 5, 2) := by decide +kernel
theorem dL_law_587 : decode cL_law 587 = .ok (.iconst 4, 1) := by decide +kernel
theorem dL_law_588 : decode cL_law 588 = .ok (.iadd, 1) := by decide +kernel
theorem dL_law_589 : decode cL_law 589 = .ok (.iaload, 1) := by decide +kernel
theorem dL_law_590 : decode cL_law 590 = .ok (.i2l, 1) := by decide +kernel
theorem dL_law_591 : decode cL_law 591 = .ok (.bipush 32, 2) := by decide +kernel
theorem dL_law_593 : decode cL_law 593 = .ok (.lshl, 1) := by decide +kernel
theorem dL_law_594 : decode cL_law 594 = .ok (.aload_n 0, 1) := by decide +kernel
theorem dL_law_595 : decode cL_law 595 = .ok (.iload 5, 2) := by decide +kernel
theorem dL_law_597 : decode cL_law 597 = .ok (.iconst 5, 1) := by decide +kernel
theorem dL_law_598 : decode cL_law 598 = .ok (.iadd, 1) := by decide +kernel
theorem dL_law_599 : decode cL_law 599 = .ok (.iaload, 1) := by decide +kernel
theorem dL_law_600 : decode cL_law 600 = .ok (.i2l, 1) := by decide +kernel
theorem dL_law_601 : decode cL_law 601 = .ok (.ldc2_w 156, 3) := by decide +kernel
theorem dL_law_604 : decode cL_law 604 = .ok (.land, 1) := by decide +kernel
theorem dL_law_605 : decode cL_law 605 = .ok (.lor, 1) := by decide +kernel
theorem dL_law_606 : decode cL_law 606 = .ok (.aload_n 0, 1) := by decide +kernel
theorem dL_law_607 : decode cL_law 607 = .ok (.iload 5, 2) := by decide +kernel
theorem dL_law_609 : decode cL_law 609 = .ok (.bipush 6, 2) := by decide +kernel
theorem dL_law_611 : decode cL_law 611 = .ok (.iadd, 1) := by decide +kernel
theorem dL_law_612 : decode cL_law 612 = .ok (.iaload, 1) := by decide +kernel
theorem dL_law_613 : decode cL_law 613 = .ok (.aload_n 3, 1) := by decide +kernel
theorem dL_law_614 : decode cL_law 614 = .ok (.invokestatic 166, 3) := by decide +kernel
theorem dL_law_617 : decode cL_law 617 = .ok (.istore 6, 2) := by decide +kernel
theorem dL_law_619 : decode cL_law 619 = .ok (.aload_n 2, 1) := by decide +kernel
theorem dL_law_620 : decode cL_law 620 = .ok (.aload_n 0, 1) := by decide +kernel
theorem dL_law_621 : decode cL_law 621 = .ok (.iload 5, 2) := by decide +kernel
theorem dL_law_623 : decode cL_law 623 = .ok (.iconst 1, 1) := by decide +kernel
theorem dL_law_624 : decode cL_law 624 = .ok (.iadd, 1) := by decide +kernel
theorem dL_law_625 : decode cL_law 625 = .ok (.iaload, 1) := by decide +kernel
theorem dL_law_626 : decode cL_law 626 = .ok (.aload_n 0, 1) := by decide +kernel
theorem dL_law_627 : decode cL_law 627 = .ok (.iload 5, 2) := by decide +kernel
theorem dL_law_629 : decode cL_law 629 = .ok (.iconst 2, 1) := by decide +kernel
theorem dL_law_630 : decode cL_law 630 = .ok (.iadd, 1) := by decide +kernel
theorem dL_law_631 : decode cL_law 631 = .ok (.iaload, 1) := by decide +kernel
theorem dL_law_632 : decode cL_law 632 = .ok (.aload_n 0, 1) := by decide +kernel
theorem dL_law_633 : decode cL_law 633 = .ok (.iload 5, 2) := by decide +kernel
theorem dL_law_635 : decode cL_law 635 = .ok (.iconst 3, 1) := by decide +kernel
theorem dL_law_636 : decode cL_law 636 = .ok (.iadd, 1) := by decide +kernel
theorem dL_law_637 : decode cL_law 637 = .ok (.iaload, 1) := by decide +kernel
theorem dL_law_638 : decode cL_law 638 = .ok (.aload_n 0, 1) := by decide +kernel
theorem dL_law_639 : decode cL_law 639 = .ok (.iload 5, 2) := by decide +kernel
theorem dL_law_641 : decode cL_law 641 = .ok (.iconst 4, 1) := by decide +kernel
theorem dL_law_642 : decode cL_law 642 = .ok (.iadd, 1) := by decide +kernel
theorem dL_law_643 : decode cL_law 643 = .ok (.iaload, 1) := by decide +kernel
theorem dL_law_644 : decode cL_law 644 = .ok (.i2l, 1) := by decide +kernel
theorem dL_law_645 : decode cL_law 645 = .ok (.bipush 32, 2) := by decide +kernel
theorem dL_law_647 : decode cL_law 647 = .ok (.lshl, 1) := by decide +kernel
theorem dL_law_648 : decode cL_law 648 = .ok (.aload_n 0, 1) := by decide +kernel
theorem dL_law_649 : decode cL_law 649 = .ok (.iload 5, 2) := by decide +kernel
theorem dL_law_651 : decode cL_law 651 = .ok (.iconst 5, 1) := by decide +kernel
theorem dL_law_652 : decode cL_law 652 = .ok (.iadd, 1) := by decide +kernel
theorem dL_law_653 : decode cL_law 653 = .ok (.iaload, 1) := by decide +kernel
theorem dL_law_654 : decode cL_law 654 = .ok (.i2l, 1) := by decide +kernel
theorem dL_law_655 : decode cL_law 655 = .ok (.ldc2_w 156, 3) := by decide +kernel
theorem dL_law_658 : decode cL_law 658 = .ok (.land, 1) := by decide +kernel
theorem dL_law_659 : decode cL_law 659 = .ok (.lor, 1) := by decide +kernel
theorem dL_law_660 : decode cL_law 660 = .ok (.aload_n 0, 1) := by decide +kernel
theorem dL_law_661 : decode cL_law 661 = .ok (.iload 5, 2) := by decide +kernel
theorem dL_law_663 : decode cL_law 663 = .ok (.bipush 6, 2) := by decide +kernel
theorem dL_law_665 : decode cL_law 665 = .ok (.iadd, 1) := by decide +kernel
theorem dL_law_666 : decode cL_law 666 = .ok (.iaload, 1) := by decide +kernel
theorem dL_law_667 : decode cL_law 667 = .ok (.invokevirtual 169, 3) := by decide +kernel
theorem dL_law_670 : decode cL_law 670 = .ok (.istore 7, 2) := by decide +kernel
theorem dL_law_672 : decode cL_law 672 = .ok (.aload_n 2, 1) := by decide +kernel
theorem dL_law_673 : decode cL_law 673 = .ok (.invokevirtual 143, 3) := by decide +kernel
theorem dL_law_676 : decode cL_law 676 = .ok (.iload 6, 2) := by decide +kernel
theorem dL_law_678 : decode cL_law 678 = .ok (.if_icmp .eq 5, 3) := by decide +kernel
theorem dL_law_681 : decode cL_law 681 = .ok (.iconst 0, 1) := by decide +kernel
theorem dL_law_682 : decode cL_law 682 = .ok (.ireturn, 1) := by decide +kernel
theorem dL_law_683 : decode cL_law 683 = .ok (.iload 6, 2) := by decide +kernel
theorem dL_law_685 : decode cL_law 685 = .ok (.ifCond .ne 15, 3) := by decide +kernel
theorem dL_law_688 : decode cL_law 688 = .ok (.aload_n 3, 1) := by decide +kernel
theorem dL_law_689 : decode cL_law 689 = .ok (.iconst 0, 1) := by decide +kernel
theorem dL_law_690 : decode cL_law 690 = .ok (.laload, 1) := by decide +kernel
theorem dL_law_691 : decode cL_law 691 = .ok (.iload 7, 2) := by decide +kernel
theorem dL_law_693 : decode cL_law 693 = .ok (.i2l, 1) := by decide +kernel
theorem dL_law_694 : decode cL_law 694 = .ok (.lcmp, 1) := by decide +kernel
theorem dL_law_695 : decode cL_law 695 = .ok (.ifCond .eq 5, 3) := by decide +kernel
theorem dL_law_698 : decode cL_law 698 = .ok (.iconst 0, 1) := by decide +kernel
theorem dL_law_699 : decode cL_law 699 = .ok (.ireturn, 1) := by decide +kernel
theorem dL_law_700 : decode cL_law 700 = .ok (.goto 1907, 3) := by decide +kernel
theorem dL_law_703 : decode cL_law 703 = .ok (.aload_n 1, 1) := by decide +kernel
theorem dL_law_704 : decode cL_law 704 = .ok (.invokevirtual 170, 3) := by decide +kernel
theorem dL_law_707 : decode cL_law 707 = .ok (.aload_n 2, 1) := by decide +kernel
theorem dL_law_708 : decode cL_law 708 = .ok (.invokevirtual 173, 3) := by decide +kernel
theorem dL_law_711 : decode cL_law 711 = .ok (.if_icmp .eq 1896, 3) := by decide +kernel
theorem dL_law_714 : decode cL_law 714 = .ok (.iconst 0, 1) := by decide +kernel
theorem dL_law_715 : decode cL_law 715 = .ok (.ireturn, 1) := by decide +kernel
theorem dL_law_716 : decode cL_law 716 = .ok (.aload_n 1, 1) := by decide +kernel
theorem dL_law_717 : decode cL_law 717 = .ok (.aload_n 0, 1) := by decide +kernel
theorem dL_law_718 : decode cL_law 718 = .ok (.iload 5, 2) := by decide +kernel
theorem dL_law_720 : decode cL_law 720 = .ok (.iconst 1, 1) := by decide +kernel
theorem dL_law_721 : decode cL_law 721 = .ok (.iadd, 1) := by decide +kernel
theorem dL_law_722 : decode cL_law 722 = .ok (.iaload, 1) := by decide +kernel
theorem dL_law_723 : decode cL_law 723 = .ok (.aload_n 0, 1) := by decide +kernel
theorem dL_law_724 : decode cL_law 724 = .ok (.iload 5, 2) := by decide +kernel
theorem dL_law_726 : decode cL_law 726 = .ok (.iconst 2, 1) := by decide +kernel
theorem dL_law_727 : decode cL_law 727 = .ok (.iadd, 1) := by decide +kernel
theorem dL_law_728 : decode cL_law 728 = .ok (.iaload, 1) := by decide +kernel
theorem dL_law_729 : decode cL_law 729 = .ok (.aload_n 3, 1) := by decide +kernel
theorem dL_law_730 : decode cL_law 730 = .ok (.invokestatic 174, 3) := by decide +kernel
theorem dL_law_733 : decode cL_law 733 = .ok (.istore 6, 2) := by decide +kernel
theorem dL_law_735 : decode cL_law 735 = .ok (.aload_n 2, 1) := by decide +kernel
theorem dL_law_736 : decode cL_law 736 = .ok (.aload_n 0, 1) := by decide +kernel
theorem dL_law_737 : decode cL_law 737 = .ok (.iload 5, 2) := by decide +kernel
theorem dL_law_739 : decode cL_law 739 = .ok (.iconst 1, 1) := by decide +kernel
theorem dL_law_740 : decode cL_law 740 = .ok (.iadd, 1) := by decide +kernel
theorem dL_law_741 : decode cL_law 741 = .ok (.iaload, 1) := by decide +kernel
theorem dL_law_742 : decode cL_law 742 = .ok (.aload_n 0, 1) := by decide +kernel
theorem dL_law_743 : decode cL_law 743 = .ok (.iload 5, 2) := by decide +kernel
theorem dL_law_745 : decode cL_law 745 = .ok (.iconst 2, 1) := by decide +kernel
theorem dL_law_746 : decode cL_law 746 = .ok (.iadd, 1) := by decide +kernel
theorem dL_law_747 : decode cL_law 747 = .ok (.iaload, 1) := by decide +kernel
theorem dL_law_748 : decode cL_law 748 = .ok (.invokevirtual 177, 3) := by decide +kernel
theorem dL_law_751 : decode cL_law 751 = .ok (.istore 7, 2) := by decide +kernel
theorem dL_law_753 : decode cL_law 753 = .ok (.aload_n 2, 1) := by decide +kernel
theorem dL_law_754 : decode cL_law 754 = .ok (.invokevirtual 143, 3) := by decide +kernel
theorem dL_law_757 : decode cL_law 757 = .ok (.iload 6, 2) := by decide +kernel
theorem dL_law_759 : decode cL_law 759 = .ok (.if_icmp .eq 5, 3) := by decide +kernel
theorem dL_law_762 : decode cL_law 762 = .ok (.iconst 0, 1) := by decide +kernel
theorem dL_law_763 : decode cL_law 763 = .ok (.ireturn, 1) := by decide +kernel
theorem dL_law_764 : decode cL_law 764 = .ok (.iload 6, 2) := by decide +kernel
theorem dL_law_766 : decode cL_law 766 = .ok (.ifCond .ne 15, 3) := by decide +kernel
theorem dL_law_769 : decode cL_law 769 = .ok (.aload_n 3, 1) := by decide +kernel
end
section
theorem dL_law_770 : decode cL_law 770 = .ok (.iconst 0, 1) := by decide +kernel
theorem dL_law_771 : decode cL_law 771 = .ok (.laload, 1) := by decide +kernel
theorem dL_law_772 : decode cL_law 772 = .ok (.iload 7, 2) := by decide +kernel
theorem dL_law_774 : decode cL_law 774 = .ok (.i2l, 1) := by decide +kernel
theorem dL_law_775 : decode cL_law 775 = .ok (.lcmp, 1) := by decide +kernel
theorem dL_law_776 : decode cL_law 776 = .ok (.ifCond .eq 5, 3) := by decide +kernel
theorem dL_law_779 : decode cL_law 779 = .ok (.iconst 0, 1) := by decide +kernel
theorem dL_law_780 : decode cL_law 780 = .ok (.ireturn, 1) := by decide +kernel
theorem dL_law_781 : decode cL_law 781 = .ok (.goto 1826, 3) := by decide +kernel
theorem dL_law_784 : decode cL_law 784 = .ok (.aload_n 1, 1) := by decide +kernel
theorem dL_law_785 : decode cL_law 785 = .ok (.aload_n 0, 1) := by decide +kernel
theorem dL_law_786 : decode cL_law 786 = .ok (.iload 5, 2) := by decide +kernel
theorem dL_law_788 : decode cL_law 788 = .ok (.iconst 1, 1) := by decide +kernel
theorem dL_law_789 : decode cL_law 789 = .ok (.iadd, 1) := by decide +kernel
theorem dL_law_790 : decode cL_law 790 = .ok (.iaload, 1) := by decide +kernel
theorem dL_law_791 : decode cL_law 791 = .ok (.aload_n 3, 1) := by decide +kernel
theorem dL_law_792 : decode cL_law 792 = .ok (.invokestatic 178, 3) := by decide +kernel
theorem dL_law_795 : decode cL_law 795 = .ok (.istore 6, 2) := by decide +kernel
theorem dL_law_797 : decode cL_law 797 = .ok (.aload_n 2, 1) := by decide +kernel
theorem dL_law_798 : decode cL_law 798 = .ok (.aload_n 0, 1) := by decide +kernel
theorem dL_law_799 : decode cL_law 799 = .ok (.iload 5, 2) := by decide +kernel
theorem dL_law_801 : decode cL_law 801 = .ok (.iconst 1, 1) := by decide +kernel
theorem dL_law_802 : decode cL_law 802 = .ok (.iadd, 1) := by decide +kernel
theorem dL_law_803 : decode cL_law 803 = .ok (.iaload, 1) := by decide +kernel
theorem dL_law_804 : decode cL_law 804 = .ok (.invokevirtual 180, 3) := by decide +kernel
theorem dL_law_807 : decode cL_law 807 = .ok (.istore 7, 2) := by decide +kernel
theorem dL_law_809 : decode cL_law 809 = .ok (.aload_n 2, 1) := by decide +kernel
theorem dL_law_810 : decode cL_law 810 = .ok (.invokevirtual 143, 3) := by decide +kernel
theorem dL_law_813 : decode cL_law 813 = .ok (.iload 6, 2) := by decide +kernel
theorem dL_law_815 : decode cL_law 815 = .ok (.if_icmp .eq 5, 3) := by decide +kernel
theorem dL_law_818 : decode cL_law 818 = .ok (.iconst 0, 1) := by decide +kernel
theorem dL_law_819 : decode cL_law 819 = .ok (.ireturn, 1) := by decide +kernel
theorem dL_law_820 : decode cL_law 820 = .ok (.iload 6, 2) := by decide +kernel
theorem dL_law_822 : decode cL_law 822 = .ok (.ifCond .ne 15, 3) := by decide +kernel
theorem dL_law_825 : decode cL_law 825 = .ok (.aload_n 3, 1) := by decide +kernel
theorem dL_law_826 : decode cL_law 826 = .ok (.iconst 0, 1) := by decide +kernel
theorem dL_law_827 : decode cL_law 827 = .ok (.laload, 1) := by decide +kernel
theorem dL_law_828 : decode cL_law 828 = .ok (.iload 7, 2) := by decide +kernel
theorem dL_law_830 : decode cL_law 830 = .ok (.i2l, 1) := by decide +kernel
theorem dL_law_831 : decode cL_law 831 = .ok (.lcmp, 1) := by decide +kernel
theorem dL_law_832 : decode cL_law 832 = .ok (.ifCond .eq 5, 3) := by decide +kernel
theorem dL_law_835 : decode cL_law 835 = .ok (.iconst 0, 1) := by decide +kernel
theorem dL_law_836 : decode cL_law 836 = .ok (.ireturn, 1) := by decide +kernel
theorem dL_law_837 : decode cL_law 837 = .ok (.goto 1770, 3) := by decide +kernel
theorem dL_law_840 : decode cL_law 840 = .ok (.aload_n 1, 1) := by decide +kernel
theorem dL_law_841 : decode cL_law 841 = .ok (.aload_n 0, 1) := by decide +kernel
theorem dL_law_842 : decode cL_law 842 = .ok (.iload 5, 2) := by decide +kernel
theorem dL_law_844 : decode cL_law 844 = .ok (.iconst 1, 1) := by decide +kernel
theorem dL_law_845 : decode cL_law 845 = .ok (.iadd, 1) := by decide +kernel
theorem dL_law_846 : decode cL_law 846 = .ok (.iaload, 1) := by decide +kernel
theorem dL_law_847 : decode cL_law 847 = .ok (.aload_n 0, 1) := by decide +kernel
theorem dL_law_848 : decode cL_law 848 = .ok (.iload 5, 2) := by decide +kernel
theorem dL_law_850 : decode cL_law 850 = .ok (.iconst 2, 1) := by decide +kernel
theorem dL_law_851 : decode cL_law 851 = .ok (.iadd, 1) := by decide +kernel
theorem dL_law_852 : decode cL_law 852 = .ok (.iaload, 1) := by decide +kernel
theorem dL_law_853 : decode cL_law 853 = .ok (.aload_n 3, 1) := by decide +kernel
theorem dL_law_854 : decode cL_law 854 = .ok (.invokestatic 181, 3) := by decide +kernel
theorem dL_law_857 : decode cL_law 857 = .ok (.istore 6, 2) := by decide +kernel
theorem dL_law_859 : decode cL_law 859 = .ok (.aload_n 2, 1) := by decide +kernel
theorem dL_law_860 : decode cL_law 860 = .ok (.aload_n 0, 1) := by decide +kernel
theorem dL_law_861 : decode cL_law 861 = .ok (.iload 5, 2) := by decide +kernel
theorem dL_law_863 : decode cL_law 863 = .ok (.iconst 1, 1) := by decide +kernel
theorem dL_law_864 : decode cL_law 864 = .ok (.iadd, 1) := by decide +kernel
theorem dL_law_865 : decode cL_law 865 = .ok (.iaload, 1) := by decide +kernel
theorem dL_law_866 : decode cL_law 866 = .ok (.aload_n 0, 1) := by decide +kernel
theorem dL_law_867 : decode cL_law 867 = .ok (.iload 5, 2) := by decide +kernel
theorem dL_law_869 : decode cL_law 869 = .ok (.iconst 2, 1) := by decide +kernel
theorem dL_law_870 : decode cL_law 870 = .ok (.iadd, 1) := by decide +kernel
theorem dL_law_871 : decode cL_law 871 = .ok (.iaload, 1) := by decide +kernel
theorem dL_law_872 : decode cL_law 872 = .ok (.invokevirtual 183, 3) := by decide +kernel
theorem dL_law_875 : decode cL_law 875 = .ok (.lstore 7, 2) := by decide +kernel
theorem dL_law_877 : decode cL_law 877 = .ok (.aload_n 2, 1) := by decide +kernel
theorem dL_law_878 : decode cL_law 878 = .ok (.invokevirtual 143, 3) := by decide +kernel
theorem dL_law_881 : decode cL_law 881 = .ok (.iload 6, 2) := by decide +kernel
theorem dL_law_883 : decode cL_law 883 = .ok (.if_icmp .eq 5, 3) := by decide +kernel
theorem dL_law_886 : decode cL_law 886 = .ok (.iconst 0, 1) := by decide +kernel
theorem dL_law_887 : decode cL_law 887 = .ok (.ireturn, 1) := by decide +kernel
theorem dL_law_888 : decode cL_law 888 = .ok (.iload 6, 2) := by decide +kernel
theorem dL_law_890 : decode cL_law 890 = .ok (.ifCond .ne 14, 3) := by decide +kernel
theorem dL_law_893 : decode cL_law 893 = .ok (.aload_n 3, 1) := by decide +kernel
theorem dL_law_894 : decode cL_law 894 = .ok (.iconst 0, 1) := by decide +kernel
theorem dL_law_895 : decode cL_law 895 = .ok (.laload, 1) := by decide +kernel
theorem dL_law_896 : decode cL_law 896 = .ok (.lload 7, 2) := by decide +kernel
theorem dL_law_898 : decode cL_law 898 = .ok (.lcmp, 1) := by decide +kernel
theorem dL_law_899 : decode cL_law 899 = .ok (.ifCond .eq 5, 3) := by decide +kernel
theorem dL_law_902 : decode cL_law 902 = .ok (.iconst 0, 1) := by decide +kernel
theorem dL_law_903 : decode cL_law 903 = .ok (.ireturn, 1) := by decide +kernel
theorem dL_law_904 : decode cL_law 904 = .ok (.goto 1703, 3) := by decide +kernel
theorem dL_law_907 : decode cL_law 907 = .ok (.aload_n 1, 1) := by decide +kernel
theorem dL_law_908 : decode cL_law 908 = .ok (.aload_n 0, 1) := by decide +kernel
theorem dL_law_909 : decode cL_law 909 = .ok (.iload 5, 2) := by decide +kernel
theorem dL_law_911 : decode cL_law 911 = .ok (.iconst 1, 1) := by decide +kernel
theorem dL_law_912 : decode cL_law 912 = .ok (.iadd, 1) := by decide +kernel
theorem dL_law_913 : decode cL_law 913 = .ok (.iaload, 1) := by decide +kernel
theorem dL_law_914 : decode cL_law 914 = .ok (.aload_n 3, 1) := by decide +kernel
theorem dL_law_915 : decode cL_law 915 = .ok (.invokestatic 184, 3) := by decide +kernel
theorem dL_law_918 : decode cL_law 918 = .ok (.istore 6, 2) := by decide +kernel
theorem dL_law_920 : decode cL_law 920 = .ok (.aload_n 2, 1) := by decide +kernel
theorem dL_law_921 : decode cL_law 921 = .ok (.aload_n 0, 1) := by decide +kernel
theorem dL_law_922 : decode cL_law 922 = .ok (.iload 5, 2) := by decide +kernel
theorem dL_law_924 : decode cL_law 924 = .ok (.iconst 1, 1) := by decide +kernel
theorem dL_law_925 : decode cL_law 925 = .ok (.iadd, 1) := by decide +kernel
theorem dL_law_926 : decode cL_law 926 = .ok (.iaload, 1) := by decide +kernel
theorem dL_law_927 : decode cL_law 927 = .ok (.invokevirtual 186, 3) := by decide +kernel
theorem dL_law_930 : decode cL_law 930 = .ok (.istore 7, 2) := by decide +kernel
theorem dL_law_932 : decode cL_law 932 = .ok (.aload_n 2, 1) := by decide +kernel
theorem dL_law_933 : decode cL_law 933 = .ok (.invokevirtual 143, 3) := by decide +kernel
theorem dL_law_936 : decode cL_law 936 = .ok (.iload 6, 2) := by decide +kernel
theorem dL_law_938 : decode cL_law 938 = .ok (.if_icmp .eq 5, 3) := by decide +kernel
theorem dL_law_941 : decode cL_law 941 = .ok (.iconst 0, 1) := by decide +kernel
theorem dL_law_942 : decode cL_law 942 = .ok (.ireturn, 1) := by decide +kernel
theorem dL_law_943 : decode cL_law 943 = .ok (.iload 6, 2) := by decide +kernel
theorem dL_law_945 : decode cL_law 945 = .ok (.ifCond .ne 15, 3) := by decide +kernel
theorem dL_law_948 : decode cL_law 948 = .ok (.aload_n 3, 1) := by decide +kernel
theorem dL_law_949 : decode cL_law 949 = .ok (.iconst 0, 1) := by decide +kernel
theorem dL_law_950 : decode cL_law 950 = .ok (.laload, 1) := by decide +kernel
theorem dL_law_951 : decode cL_law 951 = .ok (.iload 7, 2) := by decide +kernel
theorem dL_law_953 : decode cL_law 953 = .ok (.i2l, 1) := by decide +kernel
theorem dL_law_954 : decode cL_law 954 = .ok (.lcmp, 1) := by decide +kernel
theorem dL_law_955 : decode cL_law 955 = .ok (.ifCond .eq 5, 3) := by decide +kernel
theorem dL_law_958 : decode cL_law 958 = .ok (.iconst 0, 1) := by decide +kernel
theorem dL_law_959 : decode cL_law 959 = .ok (.ireturn, 1) := by decide +kernel
theorem dL_law_960 : decode cL_law 960 = .ok (.goto 1647, 3) := by decide +kernel
theorem dL_law_963 : decode cL_law 963 = .ok (.aload_n 1, 1) := by decide +kernel
theorem dL_law_964 : decode cL_law 964 = .ok (.aload_n 0, 1) := by decide +kernel
theorem dL_law_965 : decode cL_law 965 = .ok (.iload 5, 2) := by decide +kernel
theorem dL_law_967 : decode cL_law 967 = .ok (.iconst 1, 1) := by decide +kernel
theorem dL_law_968 : decode cL_law 968 = .ok (.iadd, 1) := by decide +kernel
theorem dL_law_969 : decode cL_law 969 = .ok (.iaload, 1) := by decide +kernel
theorem dL_law_970 : decode cL_law 970 = .ok (.aload_n 3, 1) := by decide +kernel
theorem dL_law_971 : decode cL_law 971 = .ok (.invokestatic 187, 3) := by decide +kernel
theorem dL_law_974 : decode cL_law 974 = .ok (.istore 6, 2) := by decide +kernel
theorem dL_law_976 : decode cL_law 976 = .ok (.aload_n 2, 1) := by decide +kernel
theorem dL_law_977 : decode cL_law 977 = .ok (.aload_n 0, 1) := by decide +kernel
theorem dL_law_978 : decode cL_law 978 = .ok (.iload 5, 2) := by decide +kernel
theorem dL_law_980 : decode cL_law 980 = .ok (.iconst 1, 1) := by decide +kernel
theorem dL_law_981 : decode cL_law 981 = .ok (.iadd, 1) := by decide +kernel
theorem dL_law_982 : decode cL_law 982 = .ok (.iaload, 1) := by decide +kernel
theorem dL_law_983 : decode cL_law 983 = .ok (.invokevirtual 189, 3) := by decide +kernel
theorem dL_law_986 : decode cL_law 986 = .ok (.istore 7, 2) := by decide +kernel
theorem dL_law_988 : decode cL_law 988 = .ok (.aload_n 2, 1) := by decide +kernel
theorem dL_law_989 : decode cL_law 989 = .ok (.invokevirtual 143, 3) := by decide +kernel
theorem dL_law_992 : decode cL_law 992 = .ok (.iload 6, 2) := by decide +kernel
theorem dL_law_994 : decode cL_law 994 = .ok (.if_icmp .eq 5, 3) := by decide +kernel
theorem dL_law_997 : decode cL_law 997 = .ok (.iconst 0, 1) := by decide +kernel
theorem dL_law_998 : decode cL_law 998 = .ok (.ireturn, 1) := by decide +kernel
theorem dL_law_999 : decode cL_law 999 = .ok (.iload 6, 2) := by decide +kernel
theorem dL_law_1001 : decode cL_law 1001 = .ok (.ifCond .ne 15, 3) := by decide +kernel
theorem dL_law_1004 : decode cL_law 1004 = .ok (.aload_n 3, 1) := by decide +kernel
theorem dL_law_1005 : decode cL_law 1005 = .ok (.iconst 0, 1) := by decide +kernel
theorem dL_law_1006 : decode cL_law 1006 = .ok (.laload, 1) := by decide +kernel
theorem dL_law_1007 : decode cL_law 1007 = .ok (.iload 7, 2) := by decide +kernel
theorem dL_law_1009 : decode cL_law 1009 = .ok (.i2l, 1) := by decide +kernel
theorem dL_law_1010 : decode cL_law 1010 = .ok (.lcmp, 1) := by decide +kernel
theorem dL_law_1011 : decode cL_law 1011 = .ok (.ifCond .eq 5, 3) := by decide +kernel
theorem dL_law_1014 : decode cL_law 1014 = .ok (.iconst 0, 1) := by decide +kernel
theorem dL_law_1015 : decode cL_law 1015 = .ok (.ireturn, 1) := by decide +kernel
theorem dL_law_1016 : decode cL_law 1016 = .ok (.goto 1591, 3) := by decide +kernel
theorem dL_law_1019 : decode cL_law 1019 = .ok (.aload_n 1, 1) := by decide +kernel
theorem dL_law_1020 : decode cL_law 1020 = .ok (.aload_n 0, 1) := by decide +kernel
theorem dL_law_1021 : decode cL_law 1021 = .ok (.iload 5, 2) := by decide +kernel
theorem dL_law_1023 : decode cL_law 1023 = .ok (.iconst 1, 1) := by decide +kernel
theorem dL_law_1024 : decode cL_law 1024 = .ok (.iadd, 1) := by decide +kernel
theorem dL_law_1025 : decode cL_law 1025 = .ok (.iaload, 1) := by decide +kernel
theorem dL_law_1026 : decode cL_law 1026 = .ok (.aload_n 3, 1) := by decide +kernel
theorem dL_law_1027 : decode cL_law 1027 = .ok (.invokestatic 190, 3) := by decide +kernel
theorem dL_law_1030 : decode cL_law 1030 = .ok (.istore 6, 2) := by decide +kernel
theorem dL_law_1032 : decode cL_law 1032 = .ok (.aload_n 2, 1) := by decide +kernel
theorem dL_law_1033 : decode cL_law 1033 = .ok (.aload_n 0, 1) := by decide +kernel
theorem dL_law_1034 : decode cL_law 1034 = .ok (.iload 5, 2) := by decide +kernel
theorem dL_law_1036 : decode cL_law 1036 = .ok (.iconst 1, 1) := by decide +kernel
theorem dL_law_1037 : decode cL_law 1037 = .ok (.iadd, 1) := by decide +kernel
theorem dL_law_1038 : decode cL_law 1038 = .ok (.iaload, 1) := by decide +kernel
theorem dL_law_1039 : decode cL_law 1039 = .ok (.invokevirtual 192, 3) := by decide +kernel
theorem dL_law_1042 : decode cL_law 1042 = .ok (.istore 7, 2) := by decide +kernel
theorem dL_law_1044 : decode cL_law 1044 = .ok (.aload_n 2, 1) := by decide +kernel
theorem dL_law_1045 : decode cL_law 1045 = .ok (.invokevirtual 143, 3) := by decide +kernel
theorem dL_law_1048 : decode cL_law 1048 = .ok (.iload 6, 2) := by decide +kernel
theorem dL_law_1050 : decode cL_law 1050 = .ok (.if_icmp .eq 5, 3) := by decide +kernel
theorem dL_law_1053 : decode cL_law 1053 = .ok (.iconst 0, 1) := by decide +kernel
theorem dL_law_1054 : decode cL_law 1054 = .ok (.ireturn, 1) := by decide +kernel
theorem dL_law_1055 : decode cL_law 1055 = .ok (.iload 6, 2) := by decide +kernel
theorem dL_law_1057 : decode cL_law 1057 = .ok (.ifCond .ne 15, 3) := by decide +kernel
theorem dL_law_1060 : decode cL_law 1060 = .ok (.aload_n 3, 1) := by decide +kernel
theorem dL_law_1061 : decode cL_law 1061 = .ok (.iconst 0, 1) := by decide +kernel
theorem dL_law_1062 : decode cL_law 1062 = .ok (.laload, 1) := by decide +kernel
theorem dL_law_1063 : decode cL_law 1063 = .ok (.iload 7, 2) := by decide +kernel
theorem dL_law_1065 : decode cL_law 1065 = .ok (.i2l, 1) := by decide +kernel
theorem dL_law_1066 : decode cL_law 1066 = .ok (.lcmp, 1) := by decide +kernel
theorem dL_law_1067 : decode cL_law 1067 = .ok (.ifCond .eq 5, 3) := by decide +kernel
theorem dL_law_1070 : decode cL_law 1070 = .ok (.iconst 0, 1) := by decide +kernel
theorem dL_law_1071 : decode cL_law 1071 = .ok (.ireturn, 1) := by decide +kernel
theorem dL_law_1072 : decode cL_law 1072 = .ok (.goto 1535, 3) := by decide +kernel
theorem dL_law_1075 : decode cL_law 1075 = .ok (.aload_n 1, 1) := by decide +kernel
theorem dL_law_1076 : decode cL_law 1076 = .ok (.aload_n 0, 1) := by decide +kernel
theorem dL_law_1077 : decode cL_law 1077 = .ok (.iload 5, 2) := by decide +kernel
theorem dL_law_1079 : decode cL_law 1079 = .ok (.iconst 1, 1) := by decide +kernel
theorem dL_law_1080 : decode cL_law 1080 = .ok (.iadd, 1) := by decide +kernel
theorem dL_law_1081 : decode cL_law 1081 = .ok (.iaload, 1) := by decide +kernel
theorem dL_law_1082 : decode cL_law 1082 = .ok (.aload_n 3, 1) := by decide +kernel
theorem dL_law_1083 : decode cL_law 1083 = .ok (.invokestatic 193, 3) := by decide +kernel
theorem dL_law_1086 : decode cL_law 1086 = .ok (.istore 6, 2) := by decide +kernel
theorem dL_law_1088 : decode cL_law 1088 = .ok (.aload_n 2, 1) := by decide +kernel
theorem dL_law_1089 : decode cL_law 1089 = .ok (.aload_n 0, 1) := by decide +kernel
theorem dL_law_1090 : decode cL_law 1090 = .ok (.iload 5, 2) := by decide +kernel
theorem dL_law_1092 : decode cL_law 1092 = .ok (.iconst 1, 1) := by decide +kernel
theorem dL_law_1093 : decode cL_law 1093 = .ok (.iadd, 1) := by decide +kernel
theorem dL_law_1094 : decode cL_law 1094 = .ok (.iaload, 1) := by decide +kernel
theorem dL_law_1095 : decode cL_law 1095 = .ok (.invokevirtual 195, 3) := by decide +kernel
theorem dL_law_1098 : decode cL_law 1098 = .ok (.istore 7, 2) := by decide +kernel
theorem dL_law_1100 : decode cL_law 1100 = .ok (.aload_n 2, 1) := by decide +kernel
theorem dL_law_1101 : decode cL_law 1101 = .ok (.invokevirtual 143, 3) := by decide +kernel
theorem dL_law_1104 : decode cL_law 1104 = .ok (.iload 6, 2) := by decide +kernel
theorem dL_law_1106 : decode cL_law 1106 = .ok (.if_icmp .eq 5, 3) := by decide +kernel
theorem dL_law_1109 : decode cL_law 1109 = .ok (.iconst 0, 1) := by decide +kernel
theorem dL_law_1110 : decode cL_law 1110 = .ok (.ireturn, 1) := by decide +kernel
theorem dL_law_1111 : decode cL_law 1111 = .ok (.iload 6, 2) := by decide +kernel
theorem dL_law_1113 : decode cL_law 1113 = .ok (.ifCond .ne 15, 3) := by decide +kernel
theorem dL_law_1116 : decode cL_law 1116 = .ok (.aload_n 3, 1) := by decide +kernel
theorem dL_law_1117 : decode cL_law 1117 = .ok (.iconst 0, 1) := by decide +kernel
theorem dL_law_1118 : decode cL_law 1118 = .ok (.laload, 1) := by decide +kernel
theorem dL_law_1119 : decode cL_law 1119 = .ok (.iload 7, 2) := by decide +kernel
theorem dL_law_1121 : decode cL_law 1121 = .ok (.i2l, 1) := by decide +kernel
theorem dL_law_1122 : decode cL_law 1122 = .ok (.lcmp, 1) := by decide +kernel
theorem dL_law_1123 : decode cL_law 1123 = .ok (.ifCond .eq 5, 3) := by decide +kernel
theorem dL_law_1126 : decode cL_law 1126 = .ok (.iconst 0, 1) := by decide +kernel
theorem dL_law_1127 : decode cL_law 1127 = .ok (.ireturn, 1) := by decide +kernel
theorem dL_law_1128 : decode cL_law 1128 = .ok (.goto 1479, 3) := by decide +kernel
theorem dL_law_1131 : decode cL_law 1131 = .ok (.aload_n 1, 1) := by decide +kernel
theorem dL_law_1132 : decode cL_law 1132 = .ok (.aload_n 0, 1) := by decide +kernel
theorem dL_law_1133 : decode cL_law 1133 = .ok (.iload 5, 2) := by decide +kernel
theorem dL_law_1135 : decode cL_law 1135 = .ok (.iconst 1, 1) := by decide +kernel
theorem dL_law_1136 : decode cL_law 1136 = .ok (.iadd, 1) := by decide +kernel
theorem dL_law_1137 : decode cL_law 1137 = .ok (.iaload, 1) := by decide +kernel
theorem dL_law_1138 : decode cL_law 1138 = .ok (.i2l, 1) := by decide +kernel
theorem dL_law_1139 : decode cL_law 1139 = .ok (.bipush 32, 2) := by decide +kernel
theorem dL_law_1141 : decode cL_law 1141 = .ok (.lshl, 1) := by decide +kernel
theorem dL_law_1142 : decode cL_law 1142 = .ok (.aload_n 0, 1) := by decide +kernel
theorem dL_law_1143 : decode cL_law 1143 = .ok (.iload 5, 2) := by decide +kernel
theorem dL_law_1145 : decode cL_law 1145 = .ok (.iconst 2, 1) := by decide +kernel
theorem dL_law_1146 : decode cL_law 1146 = .ok (.iadd, 1) := by decide +kernel
theorem dL_law_1147 : decode cL_law 1147 = .ok (.iaload, 1) := by decide +kernel
theorem dL_law_1148 : decode cL_law 1148 = .ok (.i2l, 1) := by decide +kernel
theorem dL_law_1149 : decode cL_law 1149 = .ok (.ldc2_w 156, 3) := by decide +kernel
theorem dL_law_1152 : decode cL_law 1152 = .ok (.land, 1) := by decide +kernel
theorem dL_law_1153 : decode cL_law 1153 = .ok (.lor, 1) := by decide +kernel
theorem dL_law_1154 : decode cL_law 1154 = .ok (.aload_n 0, 1) := by decide +kernel
theorem dL_law_1155 : decode cL_law 1155 = .ok (.iload 5, 2) := by decide +kernel
theorem dL_law_1157 : decode cL_law 1157 = .ok (.iconst 3, 1) := by decide +kernel
theorem dL_law_1158 : decode cL_law 1158 = .ok (.iadd, 1) := by decide +kernel
theorem dL_law_1159 : decode cL_law 1159 = .ok (.iaload, 1) := by decide +kernel
theorem dL_law_1160 : decode cL_law 1160 = .ok (.i2l, 1) := by decide +kernel
theorem dL_law_1161 : decode cL_law 1161 = .ok (.bipush 32, 2) := by decide +kernel
theorem dL_law_1163 : decode cL_law 1163 = .ok (.lshl, 1) := by decide +kernel
theorem dL_law_1164 : decode cL_law 1164 = .ok (.aload_n 0, 1) := by decide +kernel
theorem dL_law_1165 : decode cL_law 1165 = .ok (.iload 5, 2) := by decide +kernel
theorem dL_law_1167 : decode cL_law 1167 = .ok (.iconst 4, 1) := by decide +kernel
theorem dL_law_1168 : decode cL_law 1168 = .ok (.iadd, 1) := by decide +kernel
theorem dL_law_1169 : decode cL_law 1169 = .ok (.iaload, 1) := by decide +kernel
theorem dL_law_1170 : decode cL_law 1170 = .ok (.i2l, 1) := by decide +kernel
theorem dL_law_1171 : decode cL_law 1171 = .ok (.ldc2_w 156, 3) := by decide +kernel
theorem dL_law_1174 : decode cL_law 1174 = .ok (.land, 1) := by decide +kernel
theorem dL_law_1175 : decode cL_law 1175 = .ok (.lor, 1) := by decide +kernel
theorem dL_law_1176 : decode cL_law 1176 = .ok (.aload_n 0, 1) := by decide +kernel
theorem dL_law_1177 : decode cL_law 1177 = .ok (.iload 5, 2) := by decide +kernel
theorem dL_law_1179 : decode cL_law 1179 = .ok (.iconst 5, 1) := by decide +kernel
theorem dL_law_1180 : decode cL_law 1180 = .ok (.iadd, 1) := by decide +kernel
theorem dL_law_1181 : decode cL_law 1181 = .ok (.iaload, 1) := by decide +kernel
theorem dL_law_1182 : decode cL_law 1182 = .ok (.aload_n 0, 1) := by decide +kernel
theorem dL_law_1183 : decode cL_law 1183 = .ok (.iload 5, 2) := by decide +kernel
theorem dL_law_1185 : decode cL_law 1185 = .ok (.bipush 6, 2) := by decide +kernel
theorem dL_law_1187 : decode cL_law 1187 = .ok (.iadd, 1) := by decide +kernel
theorem dL_law_1188 : decode cL_law 1188 = .ok (.iaload, 1) := by decide +kernel
theorem dL_law_1189 : decode cL_law 1189 = .ok (.aload_n 0, 1) := by decide +kernel
theorem dL_law_1190 : decode cL_law 1190 = .ok (.iload 5, 2) := by decide +kernel
theorem dL_law_1192 : decode cL_law 1192 = .ok (.bipush 7, 2) := by decide +kernel
theorem dL_law_1194 : decode cL_law 1194 = .ok (.iadd, 1) := by decide +kernel
theorem dL_law_1195 : decode cL_law 1195 = .ok (.iaload, 1) := by decide +kernel
theorem dL_law_1196 : decode cL_law 1196 = .ok (.aload_n 3, 1) := by decide +kernel
theorem dL_law_1197 : decode cL_law 1197 = .ok (.invokestatic 196, 3) := by decide +kernel
theorem dL_law_1200 : decode cL_law 1200 = .ok (.istore 6, 2) := by decide +kernel
theorem dL_law_1202 : decode cL_law 1202 = .ok (.aload_n 2, 1) := by decide +kernel
theorem dL_law_1203 : decode cL_law 1203 = .ok (.aload_n 0, 1) := by decide +kernel
theorem dL_law_1204 : decode cL_law 1204 = .ok (.iload 5, 2) := by decide +kernel
theorem dL_law_1206 : decode cL_law 1206 = .ok (.iconst 1, 1) := by decide +kernel
theorem dL_law_1207 : decode cL_law 1207 = .ok (.iadd, 1) := by decide +kernel
theorem dL_law_1208 : decode cL_law 1208 = .ok (.iaload, 1) := by decide +kernel
theorem dL_law_1209 : decode cL_law 1209 = .ok (.i2l, 1) := by decide +kernel
theorem dL_law_1210 : decode cL_law 1210 = .ok (.bipush 32, 2) := by decide +kernel
theorem dL_law_1212 : decode cL_law 1212 = .ok (.lshl, 1) := by decide +kernel
theorem dL_law_1213 : decode cL_law 1213 = .ok (.aload_n 0, 1) := by decide +kernel
theorem dL_law_1214 : decode cL_law 1214 = .ok (.iload 5, 2) := by decide +kernel
theorem dL_law_1216 : decode cL_law 1216 = .ok (.iconst 2, 1) := by decide +kernel
theorem dL_law_1217 : decode cL_law 1217 = .ok (.iadd, 1) := by decide +kernel
theorem dL_law_1218 : decode cL_law 1218 = .ok (.iaload, 1) := by decide +kernel
theorem dL_law_1219 : decode cL_law 1219 = .ok (.i2l, 1) := by decide +kernel
theorem dL_law_1220 : decode cL_law 1220 = .ok (.ldc2_w 156, 3) := by decide +kernel
theorem dL_law_1223 : decode cL_law 1223 = .ok (.land, 1) := by decide +kernel
theorem dL_law_1224 : decode cL_law 1224 = .ok (.lor, 1) := by decide +kernel
theorem dL_law_1225 : decode cL_law 1225 = .ok (.aload_n 0, 1) := by decide +kernel
theorem dL_law_1226 : decode cL_law 1226 = .ok (.iload 5, 2) := by decide +kernel
theorem dL_law_1228 : decode cL_law 1228 = .ok (.iconst 3, 1) := by decide +kernel
theorem dL_law_1229 : decode cL_law 1229 = .ok (.iadd, 1) := by decide +kernel
theorem dL_law_1230 : decode cL_law 1230 = .ok (.iaload, 1) := by decide +kernel
theorem dL_law_1231 : decode cL_law 1231 = .ok (.i2l, 1) := by decide +kernel
theorem dL_law_1232 : decode cL_law 1232 = .ok (.bipush 32, 2) := by decide +kernel
theorem dL_law_1234 : decode cL_law 1234 = .ok (.lshl, 1) := by decide +kernel
theorem dL_law_1235 : decode cL_law 1235 = .ok (.aload_n 0, 1) := by decide +kernel
theorem dL_law_1236 : decode cL_law 1236 = .ok (.iload 5, 2) := by decide +kernel
theorem dL_law_1238 : decode cL_law 1238 = .ok (.iconst 4, 1) := by decide +kernel
theorem dL_law_1239 : decode cL_law 1239 = .ok (.iadd, 1) := by decide +kernel
theorem dL_law_1240 : decode cL_law 1240 = .ok (.iaload, 1) := by decide +kernel
theorem dL_law_1241 : decode cL_law 1241 = .ok (.i2l, 1) := by decide +kernel
theorem dL_law_1242 : decode cL_law 1242 = .ok (.ldc2_w 156, 3) := by decide +kernel
theorem dL_law_1245 : decode cL_law 1245 = .ok (.land, 1) := by decide +kernel
theorem dL_law_1246 : decode cL_law 1246 = .ok (.lor, 1) := by decide +kernel
theorem dL_law_1247 : decode cL_law 1247 = .ok (.aload_n 0, 1) := by decide +kernel
theorem dL_law_1248 : decode cL_law 1248 = .ok (.iload 5, 2) := by decide +kernel
theorem dL_law_1250 : decode cL_law 1250 = .ok (.iconst 5, 1) := by decide +kernel
theorem dL_law_1251 : decode cL_law 1251 = .ok (.iadd, 1) := by decide +kernel
theorem dL_law_1252 : decode cL_law 1252 = .ok (.iaload, 1) := by decide +kernel
theorem dL_law_1253 : decode cL_law 1253 = .ok (.aload_n 0, 1) := by decide +kernel
theorem dL_law_1254 : decode cL_law 1254 = .ok (.iload 5, 2) := by decide +kernel
theorem dL_law_1256 : decode cL_law 1256 = .ok (.bipush 6, 2) := by decide +kernel
theorem dL_law_1258 : decode cL_law 1258 = .ok (.iadd, 1) := by decide +kernel
theorem dL_law_1259 : decode cL_law 1259 = .ok (.iaload, 1) := by decide +kernel
theorem dL_law_1260 : decode cL_law 1260 = .ok (.aload_n 0, 1) := by decide +kernel
theorem dL_law_1261 : decode cL_law 1261 = .ok (.iload 5, 2) := by decide +kernel
theorem dL_law_1263 : decode cL_law 1263 = .ok (.bipush 7, 2) := by decide +kernel
theorem dL_law_1265 : decode cL_law 1265 = .ok (.iadd, 1) := by decide +kernel
theorem dL_law_1266 : decode cL_law 1266 = .ok (.iaload, 1) := by decide +kernel
theorem dL_law_1267 : decode cL_law 1267 = .ok (.invokevirtual 199, 3) := by decide +kernel
theorem dL_law_1270 : decode cL_law 1270 = .ok (.istore 7, 2) := by decide +kernel
theorem dL_law_1272 : decode cL_law 1272 = .ok (.aload_n 2, 1) := by decide +kernel
theorem dL_law_1273 : decode cL_law 1273 = .ok (.invokevirtual 143, 3) := by decide +kernel
theorem dL_law_1276 : decode cL_law 1276 = .ok (.iload 6, 2) := by decide +kernel
theorem dL_law_1278 : decode cL_law 1278 = .ok (.if_icmp .eq 5, 3) := by decide +kernel
theorem dL_law_1281 : decode cL_law 1281 = .ok (.iconst 0, 1) := by decide +kernel
theorem dL_law_1282 : decode cL_law 1282 = .ok (.ireturn, 1) := by decide +kernel
theorem dL_law_1283 : decode cL_law 1283 = .ok (.iload 6, 2) := by decide +kernel
theorem dL_law_1285 : decode cL_law 1285 = .ok (.ifCond .ne 15, 3) := by decide +kernel
theorem dL_law_1288 : decode cL_law 1288 = .ok (.aload_n 3, 1) := by decide +kernel
theorem dL_law_1289 : decode cL_law 1289 = .ok (.iconst 0, 1) := by decide +kernel
theorem dL_law_1290 : decode cL_law 1290 = .ok (.laload, 1) := by decide +kernel
theorem dL_law_1291 : decode cL_law 1291 = .ok (.iload 7, 2) := by decide +kernel
theorem dL_law_1293 : decode cL_law 1293 = .ok (.i2l, 1) := by decide +kernel
theorem dL_law_1294 : decode cL_law 1294 = .ok (.lcmp, 1) := by decide +kernel
theorem dL_law_1295 : decode cL_law 1295 = .ok (.ifCond .eq 5, 3) := by decide +kernel
theorem dL_law_1298 : decode cL_law 1298 = .ok (.iconst 0, 1) := by decide +kernel
theorem dL_law_1299 : decode cL_law 1299 = .ok (.ireturn, 1) := by decide +kernel
theorem dL_law_1300 : decode cL_law 1300 = .ok (.goto 1307, 3) := by decide +kernel
theorem dL_law_1303 : decode cL_law 1303 = .ok (.aload_n 1, 1) := by decide +kernel
theorem dL_law_1304 : decode cL_law 1304 = .ok (.aload_n 0, 1) := by decide +kernel
theorem dL_law_1305 : decode cL_law 1305 = .ok (.iload 5, 2) := by decide +kernel
theorem dL_law_1307 : decode cL_law 1307 = .ok (.iconst 1, 1) := by decide +kernel
theorem dL_law_1308 : decode cL_law 1308 = .ok (.iadd, 1) := by decide +kernel
theorem dL_law_1309 : decode cL_law 1309 = .ok (.iaload, 1) := by decide +kernel
theorem dL_law_1310 : decode cL_law 1310 = .ok (.aload_n 3, 1) := by decide +kernel
theorem dL_law_1311 : decode cL_law 1311 = .ok (.invokestatic 200, 3) := by decide +kernel
theorem dL_law_1314 : decode cL_law 1314 = .ok (.istore 6, 2) := by decide +kernel
theorem dL_law_1316 : decode cL_law 1316 = .ok (.aload_n 2, 1) := by decide +kernel
theorem dL_law_1317 : decode cL_law 1317 = .ok (.aload_n 0, 1) := by decide +kernel
theorem dL_law_1318 : decode cL_law 1318 = .ok (.iload 5, 2) := by decide +kernel
theorem dL_law_1320 : decode cL_law 1320 = .ok (.iconst 1, 1) := by decide +kernel
theorem dL_law_1321 : decode cL_law 1321 = .ok (.iadd, 1) := by decide +kernel
theorem dL_law_1322 : decode cL_law 1322 = .ok (.iaload, 1) := by decide +kernel
theorem dL_law_1323 : decode cL_law 1323 = .ok (.invokevirtual 202, 3) := by decide +kernel
theorem dL_law_1326 : decode cL_law 1326 = .ok (.istore 7, 2) := by decide +kernel
theorem dL_law_1328 : decode cL_law 1328 = .ok (.aload_n 2, 1) := by decide +kernel
theorem dL_law_1329 : decode cL_law 1329 = .ok (.invokevirtual 143, 3) := by decide +kernel
theorem dL_law_1332 : decode cL_law 1332 = .ok (.iload 6, 2) := by decide +kernel
theorem dL_law_1334 : decode cL_law 1334 = .ok (.if_icmp .eq 5, 3) := by decide +kernel
theorem dL_law_1337 : decode cL_law 1337 = .ok (.iconst 0, 1) := by decide +kernel
theorem dL_law_1338 : decode cL_law 1338 = .ok (.ireturn, 1) := by decide +kernel
theorem dL_law_1339 : decode cL_law 1339 = .ok (.iload 6, 2) := by decide +kernel
theorem dL_law_1341 : decode cL_law 1341 = .ok (.ifCond .ne 15, 3) := by decide +kernel
theorem dL_law_1344 : decode cL_law 1344 = .ok (.aload_n 3, 1) := by decide +kernel
theorem dL_law_1345 : decode cL_law 1345 = .ok (.iconst 0, 1) := by decide +kernel
theorem dL_law_1346 : decode cL_law 1346 = .ok (.laload, 1) := by decide +kernel
theorem dL_law_1347 : decode cL_law 1347 = .ok (.iload 7, 2) := by decide +kernel
theorem dL_law_1349 : decode cL_law 1349 = .ok (.i2l, 1) := by decide +kernel
theorem dL_law_1350 : decode cL_law 1350 = .ok (.lcmp, 1) := by decide +kernel
theorem dL_law_1351 : decode cL_law 1351 = .ok (.ifCond .eq 5, 3) := by decide +kernel
theorem dL_law_1354 : decode cL_law 1354 = .ok (.iconst 0, 1) := by decide +kernel
theorem dL_law_1355 : decode cL_law 1355 = .ok (.ireturn, 1) := by decide +kernel
theorem dL_law_1356 : decode cL_law 1356 = .ok (.goto 1251, 3) := by decide +kernel
theorem dL_law_1359 : decode cL_law 1359 = .ok (.aload_n 1, 1) := by decide +kernel
theorem dL_law_1360 : decode cL_law 1360 = .ok (.aload_n 0, 1) := by decide +kernel
theorem dL_law_1361 : decode cL_law 1361 = .ok (.iload 5, 2) := by decide +kernel
theorem dL_law_1363 : decode cL_law 1363 = .ok (.iconst 1, 1) := by decide +kernel
theorem dL_law_1364 : decode cL_law 1364 = .ok (.iadd, 1) := by decide +kernel
theorem dL_law_1365 : decode cL_law 1365 = .ok (.iaload, 1) := by decide +kernel
theorem dL_law_1366 : decode cL_law 1366 = .ok (.aload_n 3, 1) := by decide +kernel
theorem dL_law_1367 : decode cL_law 1367 = .ok (.invokestatic 203, 3) := by decide +kernel
theorem dL_law_1370 : decode cL_law 1370 = .ok (.istore 6, 2) := by decide +kernel
theorem dL_law_1372 : decode cL_law 1372 = .ok (.aload_n 2, 1) := by decide +kernel
end
section
theorem dL_law_1373 : decode cL_law 1373 = .ok (.aload_n 0, 1) := by decide +kernel
theorem dL_law_1374 : decode cL_law 1374 = .ok (.iload 5, 2) := by decide +kernel
theorem dL_law_1376 : decode cL_law 1376 = .ok (.iconst 1, 1) := by decide +kernel
theorem dL_law_1377 : decode cL_law 1377 = .ok (.iadd, 1) := by decide +kernel
theorem dL_law_1378 : decode cL_law 1378 = .ok (.iaload, 1) := by decide +kernel
theorem dL_law_1379 : decode cL_law 1379 = .ok (.invokevirtual 205, 3) := by decide +kernel
theorem dL_law_1382 : decode cL_law 1382 = .ok (.istore 7, 2) := by decide +kernel
theorem dL_law_1384 : decode cL_law 1384 = .ok (.aload_n 2, 1) := by decide +kernel
theorem dL_law_1385 : decode cL_law 1385 = .ok (.invokevirtual 143, 3) := by decide +kernel
theorem dL_law_1388 : decode cL_law 1388 = .ok (.iload 6, 2) := by decide +kernel
theorem dL_law_1390 : decode cL_law 1390 = .ok (.if_icmp .eq 5, 3) := by decide +kernel
theorem dL_law_1393 : decode cL_law 1393 = .ok (.iconst 0, 1) := by decide +kernel
theorem dL_law_1394 : decode cL_law 1394 = .ok (.ireturn, 1) := by decide +kernel
theorem dL_law_1395 : decode cL_law 1395 = .ok (.iload 6, 2) := by decide +kernel
theorem dL_law_1397 : decode cL_law 1397 = .ok (.ifCond .ne 15, 3) := by decide +kernel
theorem dL_law_1400 : decode cL_law 1400 = .ok (.aload_n 3, 1) := by decide +kernel
theorem dL_law_1401 : decode cL_law 1401 = .ok (.iconst 0, 1) := by decide +kernel
theorem dL_law_1402 : decode cL_law 1402 = .ok (.laload, 1) := by decide +kernel
theorem dL_law_1403 : decode cL_law 1403 = .ok (.iload 7, 2) := by decide +kernel
theorem dL_law_1405 : decode cL_law 1405 = .ok (.i2l, 1) := by decide +kernel
theorem dL_law_1406 : decode cL_law 1406 = .ok (.lcmp, 1) := by decide +kernel
theorem dL_law_1407 : decode cL_law 1407 = .ok (.ifCond .eq 5, 3) := by decide +kernel
theorem dL_law_1410 : decode cL_law 1410 = .ok (.iconst 0, 1) := by decide +kernel
theorem dL_law_1411 : decode cL_law 1411 = .ok (.ireturn, 1) := by decide +kernel
theorem dL_law_1412 : decode cL_law 1412 = .ok (.goto 1195, 3) := by decide +kernel
theorem dL_law_1415 : decode cL_law 1415 = .ok (.aload_n 1, 1) := by decide +kernel
theorem dL_law_1416 : decode cL_law 1416 = .ok (.aload_n 0, 1) := by decide +kernel
theorem dL_law_1417 : decode cL_law 1417 = .ok (.iload 5, 2) := by decide +kernel
theorem dL_law_1419 : decode cL_law 1419 = .ok (.iconst 1, 1) := by decide +kernel
theorem dL_law_1420 : decode cL_law 1420 = .ok (.iadd, 1) := by decide +kernel
theorem dL_law_1421 : decode cL_law 1421 = .ok (.iaload, 1) := by decide +kernel
theorem dL_law_1422 : decode cL_law 1422 = .ok (.aload_n 3, 1) := by decide +kernel
theorem dL_law_1423 : decode cL_law 1423 = .ok (.invokestatic 206, 3) := by decide +kernel
theorem dL_law_1426 : decode cL_law 1426 = .ok (.istore 6, 2) := by decide +kernel
theorem dL_law_1428 : decode cL_law 1428 = .ok (.aload_n 2, 1) := by decide +kernel
theorem dL_law_1429 : decode cL_law 1429 = .ok (.aload_n 0, 1) := by decide +kernel
theorem dL_law_1430 : decode cL_law 1430 = .ok (.iload 5, 2) := by decide +kernel
theorem dL_law_1432 : decode cL_law 1432 = .ok (.iconst 1, 1) := by decide +kernel
theorem dL_law_1433 : decode cL_law 1433 = .ok (.iadd, 1) := by decide +kernel
theorem dL_law_1434 : decode cL_law 1434 = .ok (.iaload, 1) := by decide +kernel
theorem dL_law_1435 : decode cL_law 1435 = .ok (.invokevirtual 208, 3) := by decide +kernel
theorem dL_law_1438 : decode cL_law 1438 = .ok (.istore 7, 2) := by decide +kernel
theorem dL_law_1440 : decode cL_law 1440 = .ok (.aload_n 2, 1) := by decide +kernel
theorem dL_law_1441 : decode cL_law 1441 = .ok (.invokevirtual 143, 3) := by decide +kernel
theorem dL_law_1444 : decode cL_law 1444 = .ok (.iload 6, 2) := by decide +kernel
theorem dL_law_1446 : decode cL_law 1446 = .ok (.if_icmp .eq 5, 3) := by decide +kernel
theorem dL_law_1449 : decode cL_law 1449 = .ok (.iconst 0, 1) := by decide +kernel
theorem dL_law_1450 : decode cL_law 1450 = .ok (.ireturn, 1) := by decide +kernel
theorem dL_law_1451 : decode cL_law 1451 = .ok (.iload 6, 2) := by decide +kernel
theorem dL_law_1453 : decode cL_law 1453 = .ok (.ifCond .ne 22, 3) := by decide +kernel
theorem dL_law_1456 : decode cL_law 1456 = .ok (.aload_n 3, 1) := by decide +kernel
theorem dL_law_1457 : decode cL_law 1457 = .ok (.iconst 0, 1) := by decide +kernel
theorem dL_law_1458 : decode cL_law 1458 = .ok (.laload, 1) := by decide +kernel
theorem dL_law_1459 : decode cL_law 1459 = .ok (.iload 7, 2) := by decide +kernel
theorem dL_law_1461 : decode cL_law 1461 = .ok (.ifCond .eq 7, 3) := by decide +kernel
theorem dL_law_1464 : decode cL_law 1464 = .ok (.lconst 1, 1) := by decide +kernel
theorem dL_law_1465 : decode cL_law 1465 = .ok (.goto 4, 3) := by decide +kernel
theorem dL_law_1468 : decode cL_law 1468 = .ok (.lconst 0, 1) := by decide +kernel
theorem dL_law_1469 : decode cL_law 1469 = .ok (.lcmp, 1) := by decide +kernel
theorem dL_law_1470 : decode cL_law 1470 = .ok (.ifCond .eq 5, 3) := by decide +kernel
theorem dL_law_1473 : decode cL_law 1473 = .ok (.iconst 0, 1) := by decide +kernel
theorem dL_law_1474 : decode cL_law 1474 = .ok (.ireturn, 1) := by decide +kernel
theorem dL_law_1475 : decode cL_law 1475 = .ok (.goto 1132, 3) := by decide +kernel
theorem dL_law_1478 : decode cL_law 1478 = .ok (.aload_n 1, 1) := by decide +kernel
theorem dL_law_1479 : decode cL_law 1479 = .ok (.aload_n 0, 1) := by decide +kernel
theorem dL_law_1480 : decode cL_law 1480 = .ok (.iload 5, 2) := by decide +kernel
theorem dL_law_1482 : decode cL_law 1482 = .ok (.iconst 1, 1) := by decide +kernel
theorem dL_law_1483 : decode cL_law 1483 = .ok (.iadd, 1) := by decide +kernel
theorem dL_law_1484 : decode cL_law 1484 = .ok (.iaload, 1) := by decide +kernel
theorem dL_law_1485 : decode cL_law 1485 = .ok (.aload_n 3, 1) := by decide +kernel
theorem dL_law_1486 : decode cL_law 1486 = .ok (.invokestatic 209, 3) := by decide +kernel
theorem dL_law_1489 : decode cL_law 1489 = .ok (.istore 6, 2) := by decide +kernel
theorem dL_law_1491 : decode cL_law 1491 = .ok (.aload_n 2, 1) := by decide +kernel
theorem dL_law_1492 : decode cL_law 1492 = .ok (.aload_n 0, 1) := by decide +kernel
theorem dL_law_1493 : decode cL_law 1493 = .ok (.iload 5, 2) := by decide +kernel
theorem dL_law_1495 : decode cL_law 1495 = .ok (.iconst 1, 1) := by decide +kernel
theorem dL_law_1496 : decode cL_law 1496 = .ok (.iadd, 1) := by decide +kernel
theorem dL_law_1497 : decode cL_law 1497 = .ok (.iaload, 1) := by decide +kernel
theorem dL_law_1498 : decode cL_law 1498 = .ok (.invokevirtual 211, 3) := by decide +kernel
theorem dL_law_1501 : decode cL_law 1501 = .ok (.istore 7, 2) := by decide +kernel
theorem dL_law_1503 : decode cL_law 1503 = .ok (.aload_n 2, 1) := by decide +kernel
theorem dL_law_1504 : decode cL_law 1504 = .ok (.invokevirtual 143, 3) := by decide +kernel
theorem dL_law_1507 : decode cL_law 1507 = .ok (.iload 6, 2) := by decide +kernel
theorem dL_law_1509 : decode cL_law 1509 = .ok (.if_icmp .eq 5, 3) := by decide +kernel
theorem dL_law_1512 : decode cL_law 1512 = .ok (.iconst 0, 1) := by decide +kernel
theorem dL_law_1513 : decode cL_law 1513 = .ok (.ireturn, 1) := by decide +kernel
theorem dL_law_1514 : decode cL_law 1514 = .ok (.iload 6, 2) := by decide +kernel
theorem dL_law_1516 : decode cL_law 1516 = .ok (.ifCond .ne 15, 3) := by decide +kernel
theorem dL_law_1519 : decode cL_law 1519 = .ok (.aload_n 3, 1) := by decide +kernel
theorem dL_law_1520 : decode cL_law 1520 = .ok (.iconst 0, 1) := by decide +kernel
theorem dL_law_1521 : decode cL_law 1521 = .ok (.laload, 1) := by decide +kernel
theorem dL_law_1522 : decode cL_law 1522 = .ok (.iload 7, 2) := by decide +kernel
theorem dL_law_1524 : decode cL_law 1524 = .ok (.i2l, 1) := by decide +kernel
theorem dL_law_1525 : decode cL_law 1525 = .ok (.lcmp, 1) := by decide +kernel
theorem dL_law_1526 : decode cL_law 1526 = .ok (.ifCond .eq 5, 3) := by decide +kernel
theorem dL_law_1529 : decode cL_law 1529 = .ok (.iconst 0, 1) := by decide +kernel
theorem dL_law_1530 : decode cL_law 1530 = .ok (.ireturn, 1) := by decide +kernel
theorem dL_law_1531 : decode cL_law 1531 = .ok (.goto 1076, 3) := by decide +kernel
theorem dL_law_1534 : decode cL_law 1534 = .ok (.aload_n 1, 1) := by decide +kernel
theorem dL_law_1535 : decode cL_law 1535 = .ok (.aload_n 0, 1) := by decide +kernel
theorem dL_law_1536 : decode cL_law 1536 = .ok (.iload 5, 2) := by decide +kernel
theorem dL_law_1538 : decode cL_law 1538 = .ok (.iconst 1, 1) := by decide +kernel
theorem dL_law_1539 : decode cL_law 1539 = .ok (.iadd, 1) := by decide +kernel
theorem dL_law_1540 : decode cL_law 1540 = .ok (.iaload, 1) := by decide +kernel
theorem dL_law_1541 : decode cL_law 1541 = .ok (.aload_n 0, 1) := by decide +kernel
theorem dL_law_1542 : decode cL_law 1542 = .ok (.iload 5, 2) := by decide +kernel
theorem dL_law_1544 : decode cL_law 1544 = .ok (.iconst 2, 1) := by decide +kernel
theorem dL_law_1545 : decode cL_law 1545 = .ok (.iadd, 1) := by decide +kernel
theorem dL_law_1546 : decode cL_law 1546 = .ok (.iaload, 1) := by decide +kernel
theorem dL_law_1547 : decode cL_law 1547 = .ok (.aload_n 3, 1) := by decide +kernel
theorem dL_law_1548 : decode cL_law 1548 = .ok (.invokestatic 212, 3) := by decide +kernel
theorem dL_law_1551 : decode cL_law 1551 = .ok (.istore 6, 2) := by decide +kernel
theorem dL_law_1553 : decode cL_law 1553 = .ok (.aload_n 2, 1) := by decide +kernel
theorem dL_law_1554 : decode cL_law 1554 = .ok (.aload_n 0, 1) := by decide +kernel
theorem dL_law_1555 : decode cL_law 1555 = .ok (.iload 5, 2) := by decide +kernel
theorem dL_law_1557 : decode cL_law 1557 = .ok (.iconst 1, 1) := by decide +kernel
theorem dL_law_1558 : decode cL_law 1558 = .ok (.iadd, 1) := by decide +kernel
theorem dL_law_1559 : decode cL_law 1559 = .ok (.iaload, 1) := by decide +kernel
theorem dL_law_1560 : decode cL_law 1560 = .ok (.aload_n 0, 1) := by decide +kernel
theorem dL_law_1561 : decode cL_law 1561 = .ok (.iload 5, 2) := by decide +kernel
theorem dL_law_1563 : decode cL_law 1563 = .ok (.iconst 2, 1) := by decide +kernel
theorem dL_law_1564 : decode cL_law 1564 = .ok (.iadd, 1) := by decide +kernel
theorem dL_law_1565 : decode cL_law 1565 = .ok (.iaload, 1) := by decide +kernel
theorem dL_law_1566 : decode cL_law 1566 = .ok (.invokevirtual 214, 3) := by decide +kernel
theorem dL_law_1569 : decode cL_law 1569 = .ok (.istore 7, 2) := by decide +kernel
theorem dL_law_1571 : decode cL_law 1571 = .ok (.aload_n 2, 1) := by decide +kernel
theorem dL_law_1572 : decode cL_law 1572 = .ok (.invokevirtual 143, 3) := by decide +kernel
theorem dL_law_1575 : decode cL_law 1575 = .ok (.iload 6, 2) := by decide +kernel
theorem dL_law_1577 : decode cL_law 1577 = .ok (.if_icmp .eq 5, 3) := by decide +kernel
theorem dL_law_1580 : decode cL_law 1580 = .ok (.iconst 0, 1) := by decide +kernel
theorem dL_law_1581 : decode cL_law 1581 = .ok (.ireturn, 1) := by decide +kernel
theorem dL_law_1582 : decode cL_law 1582 = .ok (.iload 6, 2) := by decide +kernel
theorem dL_law_1584 : decode cL_law 1584 = .ok (.ifCond .ne 15, 3) := by decide +kernel
theorem dL_law_1587 : decode cL_law 1587 = .ok (.aload_n 3, 1) := by decide +kernel
theorem dL_law_1588 : decode cL_law 1588 = .ok (.iconst 0, 1) := by decide +kernel
theorem dL_law_1589 : decode cL_law 1589 = .ok (.laload, 1) := by decide +kernel
theorem dL_law_1590 : decode cL_law 1590 = .ok (.iload 7, 2) := by decide +kernel
theorem dL_law_1592 : decode cL_law 1592 = .ok (.i2l, 1) := by decide +kernel
theorem dL_law_1593 : decode cL_law 1593 = .ok (.lcmp, 1) := by decide +kernel
theorem dL_law_1594 : decode cL_law 1594 = .ok (.ifCond .eq 5, 3) := by decide +kernel
theorem dL_law_1597 : decode cL_law 1597 = .ok (.iconst 0, 1) := by decide +kernel
theorem dL_law_1598 : decode cL_law 1598 = .ok (.ireturn, 1) := by decide +kernel
theorem dL_law_1599 : decode cL_law 1599 = .ok (.goto 1008, 3) := by decide +kernel
theorem dL_law_1602 : decode cL_law 1602 = .ok (.aload_n 1, 1) := by decide +kernel
theorem dL_law_1603 : decode cL_law 1603 = .ok (.aload_n 0, 1) := by decide +kernel
theorem dL_law_1604 : decode cL_law 1604 = .ok (.iload 5, 2) := by decide +kernel
theorem dL_law_1606 : decode cL_law 1606 = .ok (.iconst 1, 1) := by decide +kernel
theorem dL_law_1607 : decode cL_law 1607 = .ok (.iadd, 1) := by decide +kernel
theorem dL_law_1608 : decode cL_law 1608 = .ok (.iaload, 1) := by decide +kernel
theorem dL_law_1609 : decode cL_law 1609 = .ok (.aload_n 3, 1) := by decide +kernel
theorem dL_law_1610 : decode cL_law 1610 = .ok (.invokestatic 215, 3) := by decide +kernel
theorem dL_law_1613 : decode cL_law 1613 = .ok (.istore 6, 2) := by decide +kernel
theorem dL_law_1615 : decode cL_law 1615 = .ok (.aload_n 2, 1) := by decide +kernel
theorem dL_law_1616 : decode cL_law 1616 = .ok (.aload_n 0, 1) := by decide +kernel
theorem dL_law_1617 : decode cL_law 1617 = .ok (.iload 5, 2) := by decide +kernel
theorem dL_law_1619 : decode cL_law 1619 = .ok (.iconst 1, 1) := by decide +kernel
theorem dL_law_1620 : decode cL_law 1620 = .ok (.iadd, 1) := by decide +kernel
theorem dL_law_1621 : decode cL_law 1621 = .ok (.iaload, 1) := by decide +kernel
theorem dL_law_1622 : decode cL_law 1622 = .ok (.invokevirtual 217, 3) := by decide +kernel
theorem dL_law_1625 : decode cL_law 1625 = .ok (.istore 7, 2) := by decide +kernel
theorem dL_law_1627 : decode cL_law 1627 = .ok (.aload_n 2, 1) := by decide +kernel
theorem dL_law_1628 : decode cL_law 1628 = .ok (.invokevirtual 143, 3) := by decide +kernel
theorem dL_law_1631 : decode cL_law 1631 = .ok (.iload 6, 2) := by decide +kernel
theorem dL_law_1633 : decode cL_law 1633 = .ok (.if_icmp .eq 5, 3) := by decide +kernel
theorem dL_law_1636 : decode cL_law 1636 = .ok (.iconst 0, 1) := by decide +kernel
theorem dL_law_1637 : decode cL_law 1637 = .ok (.ireturn, 1) := by decide +kernel
theorem dL_law_1638 : decode cL_law 1638 = .ok (.iload 6, 2) := by decide +kernel
theorem dL_law_1640 : decode cL_law 1640 = .ok (.ifCond .ne 15, 3) := by decide +kernel
theorem dL_law_1643 : decode cL_law 1643 = .ok (.aload_n 3, 1) := by decide +kernel
theorem dL_law_1644 : decode cL_law 1644 = .ok (.iconst 0, 1) := by decide +kernel
theorem dL_law_1645 : decode cL_law 1645 = .ok (.laload, 1) := by decide +kernel
theorem dL_law_1646 : decode cL_law 1646 = .ok (.iload 7, 2) := by decide +kernel
theorem dL_law_1648 : decode cL_law 1648 = .ok (.i2l, 1) := by decide +kernel
theorem dL_law_1649 : decode cL_law 1649 = .ok (.lcmp, 1) := by decide +kernel
theorem dL_law_1650 : decode cL_law 1650 = .ok (.ifCond .eq 5, 3) := by decide +kernel
theorem dL_law_1653 : decode cL_law 1653 = .ok (.iconst 0, 1) := by decide +kernel
theorem dL_law_1654 : decode cL_law 1654 = .ok (.ireturn, 1) := by decide +kernel
theorem dL_law_1655 : decode cL_law 1655 = .ok (.goto 952, 3) := by decide +kernel
theorem dL_law_1658 : decode cL_law 1658 = .ok (.aload_n 1, 1) := by decide +kernel
theorem dL_law_1659 : decode cL_law 1659 = .ok (.aload_n 0, 1) := by decide +kernel
theorem dL_law_1660 : decode cL_law 1660 = .ok (.iload 5, 2) := by decide +kernel
theorem dL_law_1662 : decode cL_law 1662 = .ok (.iconst 1, 1) := by decide +kernel
theorem dL_law_1663 : decode cL_law 1663 = .ok (.iadd, 1) := by decide +kernel
theorem dL_law_1664 : decode cL_law 1664 = .ok (.iaload, 1) := by decide +kernel
theorem dL_law_1665 : decode cL_law 1665 = .ok (.aload_n 0, 1) := by decide +kernel
theorem dL_law_1666 : decode cL_law 1666 = .ok (.iload 5, 2) := by decide +kernel
theorem dL_law_1668 : decode cL_law 1668 = .ok (.iconst 2, 1) := by decide +kernel
theorem dL_law_1669 : decode cL_law 1669 = .ok (.iadd, 1) := by decide +kernel
theorem dL_law_1670 : decode cL_law 1670 = .ok (.iaload, 1) := by decide +kernel
theorem dL_law_1671 : decode cL_law 1671 = .ok (.aload_n 3, 1) := by decide +kernel
theorem dL_law_1672 : decode cL_law 1672 = .ok (.invokestatic 218, 3) := by decide +kernel
theorem dL_law_1675 : decode cL_law 1675 = .ok (.istore 6, 2) := by decide +kernel
theorem dL_law_1677 : decode cL_law 1677 = .ok (.aload_n 2, 1) := by decide +kernel
theorem dL_law_1678 : decode cL_law 1678 = .ok (.aload_n 0, 1) := by decide +kernel
theorem dL_law_1679 : decode cL_law 1679 = .ok (.iload 5, 2) := by decide +kernel
theorem dL_law_1681 : decode cL_law 1681 = .ok (.iconst 1, 1) := by decide +kernel
theorem dL_law_1682 : decode cL_law 1682 = .ok (.iadd, 1) := by decide +kernel
theorem dL_law_1683 : decode cL_law 1683 = .ok (.iaload, 1) := by decide +kernel
theorem dL_law_1684 : decode cL_law 1684 = .ok (.aload_n 0, 1) := by decide +kernel
theorem dL_law_1685 : decode cL_law 1685 = .ok (.iload 5, 2) := by decide +kernel
theorem dL_law_1687 : decode cL_law 1687 = .ok (.iconst 2, 1) := by decide +kernel
theorem dL_law_1688 : decode cL_law 1688 = .ok (.iadd, 1) := by decide +kernel
theorem dL_law_1689 : decode cL_law 1689 = .ok (.iaload, 1) := by decide +kernel
theorem dL_law_1690 : decode cL_law 1690 = .ok (.invokevirtual 220, 3) := by decide +kernel
theorem dL_law_1693 : decode cL_law 1693 = .ok (.istore 7, 2) := by decide +kernel
theorem dL_law_1695 : decode cL_law 1695 = .ok (.aload_n 2, 1) := by decide +kernel
theorem dL_law_1696 : decode cL_law 1696 = .ok (.invokevirtual 143, 3) := by decide +kernel
theorem dL_law_1699 : decode cL_law 1699 = .ok (.iload 6, 2) := by decide +kernel
theorem dL_law_1701 : decode cL_law 1701 = .ok (.if_icmp .eq 5, 3) := by decide +kernel
theorem dL_law_1704 : decode cL_law 1704 = .ok (.iconst 0, 1) := by decide +kernel
theorem dL_law_1705 : decode cL_law 1705 = .ok (.ireturn, 1) := by decide +kernel
theorem dL_law_1706 : decode cL_law 1706 = .ok (.iload 6, 2) := by decide +kernel
theorem dL_law_1708 : decode cL_law 1708 = .ok (.ifCond .ne 15, 3) := by decide +kernel
theorem dL_law_1711 : decode cL_law 1711 = .ok (.aload_n 3, 1) := by decide +kernel
theorem dL_law_1712 : decode cL_law 1712 = .ok (.iconst 0, 1) := by decide +kernel
theorem dL_law_1713 : decode cL_law 1713 = .ok (.laload, 1) := by decide +kernel
theorem dL_law_1714 : decode cL_law 1714 = .ok (.iload 7, 2) := by decide +kernel
theorem dL_law_1716 : decode cL_law 1716 = .ok (.i2l, 1) := by decide +kernel
theorem dL_law_1717 : decode cL_law 1717 = .ok (.lcmp, 1) := by decide +kernel
theorem dL_law_1718 : decode cL_law 1718 = .ok (.ifCond .eq 5, 3) := by decide +kernel
theorem dL_law_1721 : decode cL_law 1721 = .ok (.iconst 0, 1) := by decide +kernel
theorem dL_law_1722 : decode cL_law 1722 = .ok (.ireturn, 1) := by decide +kernel
theorem dL_law_1723 : decode cL_law 1723 = .ok (.goto 884, 3) := by decide +kernel
theorem dL_law_1726 : decode cL_law 1726 = .ok (.aload_n 1, 1) := by decide +kernel
theorem dL_law_1727 : decode cL_law 1727 = .ok (.aload_n 0, 1) := by decide +kernel
theorem dL_law_1728 : decode cL_law 1728 = .ok (.iload 5, 2) := by decide +kernel
theorem dL_law_1730 : decode cL_law 1730 = .ok (.iconst 1, 1) := by decide +kernel
theorem dL_law_1731 : decode cL_law 1731 = .ok (.iadd, 1) := by decide +kernel
theorem dL_law_1732 : decode cL_law 1732 = .ok (.iaload, 1) := by decide +kernel
theorem dL_law_1733 : decode cL_law 1733 = .ok (.aload_n 0, 1) := by decide +kernel
theorem dL_law_1734 : decode cL_law 1734 = .ok (.iload 5, 2) := by decide +kernel
theorem dL_law_1736 : decode cL_law 1736 = .ok (.iconst 2, 1) := by decide +kernel
theorem dL_law_1737 : decode cL_law 1737 = .ok (.iadd, 1) := by decide +kernel
theorem dL_law_1738 : decode cL_law 1738 = .ok (.iaload, 1) := by decide +kernel
theorem dL_law_1739 : decode cL_law 1739 = .ok (.aload_n 3, 1) := by decide +kernel
theorem dL_law_1740 : decode cL_law 1740 = .ok (.invokestatic 221, 3) := by decide +kernel
theorem dL_law_1743 : decode cL_law 1743 = .ok (.istore 6, 2) := by decide +kernel
theorem dL_law_1745 : decode cL_law 1745 = .ok (.aload_n 2, 1) := by decide +kernel
theorem dL_law_1746 : decode cL_law 1746 = .ok (.aload_n 0, 1) := by decide +kernel
theorem dL_law_1747 : decode cL_law 1747 = .ok (.iload 5, 2) := by decide +kernel
theorem dL_law_1749 : decode cL_law 1749 = .ok (.iconst 1, 1) := by decide +kernel
theorem dL_law_1750 : decode cL_law 1750 = .ok (.iadd, 1) := by decide +kernel
theorem dL_law_1751 : decode cL_law 1751 = .ok (.iaload, 1) := by decide +kernel
theorem dL_law_1752 : decode cL_law 1752 = .ok (.aload_n 0, 1) := by decide +kernel
theorem dL_law_1753 : decode cL_law 1753 = .ok (.iload 5, 2) := by decide +kernel
theorem dL_law_1755 : decode cL_law 1755 = .ok (.iconst 2, 1) := by decide +kernel
theorem dL_law_1756 : decode cL_law 1756 = .ok (.iadd, 1) := by decide +kernel
theorem dL_law_1757 : decode cL_law 1757 = .ok (.iaload, 1) := by decide +kernel
theorem dL_law_1758 : decode cL_law 1758 = .ok (.invokevirtual 223, 3) := by decide +kernel
theorem dL_law_1761 : decode cL_law 1761 = .ok (.istore 7, 2) := by decide +kernel
theorem dL_law_1763 : decode cL_law 1763 = .ok (.aload_n 2, 1) := by decide +kernel
theorem dL_law_1764 : decode cL_law 1764 = .ok (.invokevirtual 143, 3) := by decide +kernel
theorem dL_law_1767 : decode cL_law 1767 = .ok (.iload 6, 2) := by decide +kernel
theorem dL_law_1769 : decode cL_law 1769 = .ok (.if_icmp .eq 5, 3) := by decide +kernel
theorem dL_law_1772 : decode cL_law 1772 = .ok (.iconst 0, 1) := by decide +kernel
theorem dL_law_1773 : decode cL_law 1773 = .ok (.ireturn, 1) := by decide +kernel
theorem dL_law_1774 : decode cL_law 1774 = .ok (.iload 6, 2) := by decide +kernel
theorem dL_law_1776 : decode cL_law 1776 = .ok (.ifCond .ne 15, 3) := by decide +kernel
theorem dL_law_1779 : decode cL_law 1779 = .ok (.aload_n 3, 1) := by decide +kernel
theorem dL_law_1780 : decode cL_law 1780 = .ok (.iconst 0, 1) := by decide +kernel
theorem dL_law_1781 : decode cL_law 1781 = .ok (.laload, 1) := by decide +kernel
theorem dL_law_1782 : decode cL_law 1782 = .ok (.iload 7, 2) := by decide +kernel
theorem dL_law_1784 : decode cL_law 1784 = .ok (.i2l, 1) := by decide +kernel
theorem dL_law_1785 : decode cL_law 1785 = .ok (.lcmp, 1) := by decide +kernel
theorem dL_law_1786 : decode cL_law 1786 = .ok (.ifCond .eq 5, 3) := by decide +kernel
theorem dL_law_1789 : decode cL_law 1789 = .ok (.iconst 0, 1) := by decide +kernel
theorem dL_law_1790 : decode cL_law 1790 = .ok (.ireturn, 1) := by decide +kernel
theorem dL_law_1791 : decode cL_law 1791 = .ok (.goto 816, 3) := by decide +kernel
theorem dL_law_1794 : decode cL_law 1794 = .ok (.aload_n 1, 1) := by decide +kernel
theorem dL_law_1795 : decode cL_law 1795 = .ok (.aload_n 0, 1) := by decide +kernel
theorem dL_law_1796 : decode cL_law 1796 = .ok (.iload 5, 2) := by decide +kernel
theorem dL_law_1798 : decode cL_law 1798 = .ok (.iconst 1, 1) := by decide +kernel
theorem dL_law_1799 : decode cL_law 1799 = .ok (.iadd, 1) := by decide +kernel
theorem dL_law_1800 : decode cL_law 1800 = .ok (.iaload, 1) := by decide +kernel
theorem dL_law_1801 : decode cL_law 1801 = .ok (.aload_n 0, 1) := by decide +kernel
theorem dL_law_1802 : decode cL_law 1802 = .ok (.iload 5, 2) := by decide +kernel
theorem dL_law_1804 : decode cL_law 1804 = .ok (.iconst 2, 1) := by decide +kernel
theorem dL_law_1805 : decode cL_law 1805 = .ok (.iadd, 1) := by decide +kernel
theorem dL_law_1806 : decode cL_law 1806 = .ok (.iaload, 1) := by decide +kernel
theorem dL_law_1807 : decode cL_law 1807 = .ok (.aload_n 3, 1) := by decide +kernel
theorem dL_law_1808 : decode cL_law 1808 = .ok (.invokestatic 224, 3) := by decide +kernel
theorem dL_law_1811 : decode cL_law 1811 = .ok (.istore 6, 2) := by decide +kernel
theorem dL_law_1813 : decode cL_law 1813 = .ok (.aload_n 2, 1) := by decide +kernel
theorem dL_law_1814 : decode cL_law 1814 = .ok (.aload_n 0, 1) := by decide +kernel
theorem dL_law_1815 : decode cL_law 1815 = .ok (.iload 5, 2) := by decide +kernel
theorem dL_law_1817 : decode cL_law 1817 = .ok (.iconst 1, 1) := by decide +kernel
theorem dL_law_1818 : decode cL_law 1818 = .ok (.iadd, 1) := by decide +kernel
theorem dL_law_1819 : decode cL_law 1819 = .ok (.iaload, 1) := by decide +kernel
theorem dL_law_1820 : decode cL_law 1820 = .ok (.aload_n 0, 1) := by decide +kernel
theorem dL_law_1821 : decode cL_law 1821 = .ok (.iload 5, 2) := by decide +kernel
theorem dL_law_1823 : decode cL_law 1823 = .ok (.iconst 2, 1) := by decide +kernel
theorem dL_law_1824 : decode cL_law 1824 = .ok (.iadd, 1) := by decide +kernel
theorem dL_law_1825 : decode cL_law 1825 = .ok (.iaload, 1) := by decide +kernel
theorem dL_law_1826 : decode cL_law 1826 = .ok (.invokevirtual 226, 3) := by decide +kernel
theorem dL_law_1829 : decode cL_law 1829 = .ok (.istore 7, 2) := by decide +kernel
theorem dL_law_1831 : decode cL_law 1831 = .ok (.aload_n 2, 1) := by decide +kernel
theorem dL_law_1832 : decode cL_law 1832 = .ok (.invokevirtual 143, 3) := by decide +kernel
theorem dL_law_1835 : decode cL_law 1835 = .ok (.iload 6, 2) := by decide +kernel
theorem dL_law_1837 : decode cL_law 1837 = .ok (.if_icmp .eq 5, 3) := by decide +kernel
theorem dL_law_1840 : decode cL_law 1840 = .ok (.iconst 0, 1) := by decide +kernel
theorem dL_law_1841 : decode cL_law 1841 = .ok (.ireturn, 1) := by decide +kernel
theorem dL_law_1842 : decode cL_law 1842 = .ok (.iload 6, 2) := by decide +kernel
theorem dL_law_1844 : decode cL_law 1844 = .ok (.ifCond .ne 15, 3) := by decide +kernel
theorem dL_law_1847 : decode cL_law 1847 = .ok (.aload_n 3, 1) := by decide +kernel
theorem dL_law_1848 : decode cL_law 1848 = .ok (.iconst 0, 1) := by decide +kernel
theorem dL_law_1849 : decode cL_law 1849 = .ok (.laload, 1) := by decide +kernel
theorem dL_law_1850 : decode cL_law 1850 = .ok (.iload 7, 2) := by decide +kernel
theorem dL_law_1852 : decode cL_law 1852 = .ok (.i2l, 1) := by decide +kernel
theorem dL_law_1853 : decode cL_law 1853 = .ok (.lcmp, 1) := by decide +kernel
theorem dL_law_1854 : decode cL_law 1854 = .ok (.ifCond .eq 5, 3) := by decide +kernel
theorem dL_law_1857 : decode cL_law 1857 = .ok (.iconst 0, 1) := by decide +kernel
theorem dL_law_1858 : decode cL_law 1858 = .ok (.ireturn, 1) := by decide +kernel
theorem dL_law_1859 : decode cL_law 1859 = .ok (.goto 748, 3) := by decide +kernel
theorem dL_law_1862 : decode cL_law 1862 = .ok (.aload_n 1, 1) := by decide +kernel
theorem dL_law_1863 : decode cL_law 1863 = .ok (.aload_n 0, 1) := by decide +kernel
theorem dL_law_1864 : decode cL_law 1864 = .ok (.iload 5, 2) := by decide +kernel
theorem dL_law_1866 : decode cL_law 1866 = .ok (.iconst 1, 1) := by decide +kernel
theorem dL_law_1867 : decode cL_law 1867 = .ok (.iadd, 1) := by decide +kernel
theorem dL_law_1868 : decode cL_law 1868 = .ok (.iaload, 1) := by decide +kernel
theorem dL_law_1869 : decode cL_law 1869 = .ok (.aload_n 3, 1) := by decide +kernel
theorem dL_law_1870 : decode cL_law 1870 = .ok (.invokestatic 227, 3) := by decide +kernel
theorem dL_law_1873 : decode cL_law 1873 = .ok (.istore 6, 2) := by decide +kernel
theorem dL_law_1875 : decode cL_law 1875 = .ok (.aload_n 2, 1) := by decide +kernel
theorem dL_law_1876 : decode cL_law 1876 = .ok (.aload_n 0, 1) := by decide +kernel
theorem dL_law_1877 : decode cL_law 1877 = .ok (.iload 5, 2) := by decide +kernel
theorem dL_law_1879 : decode cL_law 1879 = .ok (.iconst 1, 1) := by decide +kernel
theorem dL_law_1880 : decode cL_law 1880 = .ok (.iadd, 1) := by decide +kernel
theorem dL_law_1881 : decode cL_law 1881 = .ok (.iaload, 1) := by decide +kernel
theorem dL_law_1882 : decode cL_law 1882 = .ok (.invokevirtual 229, 3) := by decide +kernel
theorem dL_law_1885 : decode cL_law 1885 = .ok (.istore 7, 2) := by decide +kernel
theorem dL_law_1887 : decode cL_law 1887 = .ok (.aload_n 2, 1) := by decide +kernel
theorem dL_law_1888 : decode cL_law 1888 = .ok (.invokevirtual 143, 3) := by decide +kernel
theorem dL_law_1891 : decode cL_law 1891 = .ok (.iload 6, 2) := by decide +kernel
theorem dL_law_1893 : decode cL_law 1893 = .ok (.if_icmp .eq 5, 3) := by decide +kernel
theorem dL_law_1896 : decode cL_law 1896 = .ok (.iconst 0, 1) := by decide +kernel
theorem dL_law_1897 : decode cL_law 1897 = .ok (.ireturn, 1) := by decide +kernel
theorem dL_law_1898 : decode cL_law 1898 = .ok (.iload 6, 2) := by decide +kernel
theorem dL_law_1900 : decode cL_law 1900 = .ok (.ifCond .ne 15, 3) := by decide +kernel
theorem dL_law_1903 : decode cL_law 1903 = .ok (.aload_n 3, 1) := by decide +kernel
theorem dL_law_1904 : decode cL_law 1904 = .ok (.iconst 0, 1) := by decide +kernel
theorem dL_law_1905 : decode cL_law 1905 = .ok (.laload, 1) := by decide +kernel
theorem dL_law_1906 : decode cL_law 1906 = .ok (.iload 7, 2) := by decide +kernel
theorem dL_law_1908 : decode cL_law 1908 = .ok (.i2l, 1) := by decide +kernel
theorem dL_law_1909 : decode cL_law 1909 = .ok (.lcmp, 1) := by decide +kernel
theorem dL_law_1910 : decode cL_law 1910 = .ok (.ifCond .eq 5, 3) := by decide +kernel
theorem dL_law_1913 : decode cL_law 1913 = .ok (.iconst 0, 1) := by decide +kernel
theorem dL_law_1914 : decode cL_law 1914 = .ok (.ireturn, 1) := by decide +kernel
theorem dL_law_1915 : decode cL_law 1915 = .ok (.goto 692, 3) := by decide +kernel
theorem dL_law_1918 : decode cL_law 1918 = .ok (.aload_n 1, 1) := by decide +kernel
theorem dL_law_1919 : decode cL_law 1919 = .ok (.aload_n 0, 1) := by decide +kernel
theorem dL_law_1920 : decode cL_law 1920 = .ok (.iload 5, 2) := by decide +kernel
theorem dL_law_1922 : decode cL_law 1922 = .ok (.iconst 1, 1) := by decide +kernel
theorem dL_law_1923 : decode cL_law 1923 = .ok (.iadd, 1) := by decide +kernel
theorem dL_law_1924 : decode cL_law 1924 = .ok (.iaload, 1) := by decide +kernel
theorem dL_law_1925 : decode cL_law 1925 = .ok (.aload_n 3, 1) := by decide +kernel
theorem dL_law_1926 : decode cL_law 1926 = .ok (.invokestatic 230, 3) := by decide +kernel
theorem dL_law_1929 : decode cL_law 1929 = .ok (.istore 6, 2) := by decide +kernel
theorem dL_law_1931 : decode cL_law 1931 = .ok (.aload_n 2, 1) := by decide +kernel
theorem dL_law_1932 : decode cL_law 1932 = .ok (.aload_n 0, 1) := by decide +kernel
theorem dL_law_1933 : decode cL_law 1933 = .ok (.iload 5, 2) := by decide +kernel
theorem dL_law_1935 : decode cL_law 1935 = .ok (.iconst 1, 1) := by decide +kernel
theorem dL_law_1936 : decode cL_law 1936 = .ok (.iadd, 1) := by decide +kernel
theorem dL_law_1937 : decode cL_law 1937 = .ok (.iaload, 1) := by decide +kernel
theorem dL_law_1938 : decode cL_law 1938 = .ok (.invokevirtual 232, 3) := by decide +kernel
theorem dL_law_1941 : decode cL_law 1941 = .ok (.istore 7, 2) := by decide +kernel
theorem dL_law_1943 : decode cL_law 1943 = .ok (.aload_n 2, 1) := by decide +kernel
theorem dL_law_1944 : decode cL_law 1944 = .ok (.invokevirtual 143, 3) := by decide +kernel
theorem dL_law_1947 : decode cL_law 1947 = .ok (.iload 6, 2) := by decide +kernel
theorem dL_law_1949 : decode cL_law 1949 = .ok (.if_icmp .eq 5, 3) := by decide +kernel
theorem dL_law_1952 : decode cL_law 1952 = .ok (.iconst 0, 1) := by decide +kernel
theorem dL_law_1953 : decode cL_law 1953 = .ok (.ireturn, 1) := by decide +kernel
theorem dL_law_1954 : decode cL_law 1954 = .ok (.iload 6, 2) := by decide +kernel
theorem dL_law_1956 : decode cL_law 1956 = .ok (.ifCond .ne 15, 3) := by decide +kernel
theorem dL_law_1959 : decode cL_law 1959 = .ok (.aload_n 3, 1) := by decide +kernel
theorem dL_law_1960 : decode cL_law 1960 = .ok (.iconst 0, 1) := by decide +kernel
theorem dL_law_1961 : decode cL_law 1961 = .ok (.laload, 1) := by decide +kernel
theorem dL_law_1962 : decode cL_law 1962 = .ok (.iload 7, 2) := by decide +kernel
theorem dL_law_1964 : decode cL_law 1964 = .ok (.i2l, 1) := by decide +kernel
theorem dL_law_1965 : decode cL_law 1965 = .ok (.lcmp, 1) := by decide +kernel
theorem dL_law_1966 : decode cL_law 1966 = .ok (.ifCond .eq 5, 3) := by decide +kernel
theorem dL_law_1969 : decode cL_law 1969 = .ok (.iconst 0, 1) := by decide +kernel
theorem dL_law_1970 : decode cL_law 1970 = .ok (.ireturn, 1) := by decide +kernel
theorem dL_law_1971 : decode cL_law 1971 = .ok (.goto 636, 3) := by decide +kernel
theorem dL_law_1974 : decode cL_law 1974 = .ok (.aload_n 1, 1) := by decide +kernel
theorem dL_law_1975 : decode cL_law 1975 = .ok (.aload_n 0, 1) := by decide +kernel
theorem dL_law_1976 : decode cL_law 1976 = .ok (.iload 5, 2) := by decide +kernel
theorem dL_law_1978 : decode cL_law 1978 = .ok (.iconst 1, 1) := by decide +kernel
theorem dL_law_1979 : decode cL_law 1979 = .ok (.iadd, 1) := by decide +kernel
theorem dL_law_1980 : decode cL_law 1980 = .ok (.iaload, 1) := by decide +kernel
theorem dL_law_1981 : decode cL_law 1981 = .ok (.aload 4, 2) := by decide +kernel
end
section
theorem dL_law_1983 : decode cL_law 1983 = .ok (.invokestatic 233, 3) := by decide +kernel
theorem dL_law_1986 : decode cL_law 1986 = .ok (.istore 6, 2) := by decide +kernel
theorem dL_law_1988 : decode cL_law 1988 = .ok (.aload_n 2, 1) := by decide +kernel
theorem dL_law_1989 : decode cL_law 1989 = .ok (.aload_n 0, 1) := by decide +kernel
theorem dL_law_1990 : decode cL_law 1990 = .ok (.iload 5, 2) := by decide +kernel
theorem dL_law_1992 : decode cL_law 1992 = .ok (.iconst 1, 1) := by decide +kernel
theorem dL_law_1993 : decode cL_law 1993 = .ok (.iadd, 1) := by decide +kernel
theorem dL_law_1994 : decode cL_law 1994 = .ok (.iaload, 1) := by decide +kernel
theorem dL_law_1995 : decode cL_law 1995 = .ok (.invokevirtual 236, 3) := by decide +kernel
theorem dL_law_1998 : decode cL_law 1998 = .ok (.fstore 7, 2) := by decide +kernel
theorem dL_law_2000 : decode cL_law 2000 = .ok (.aload_n 2, 1) := by decide +kernel
theorem dL_law_2001 : decode cL_law 2001 = .ok (.invokevirtual 143, 3) := by decide +kernel
theorem dL_law_2004 : decode cL_law 2004 = .ok (.iload 6, 2) := by decide +kernel
theorem dL_law_2006 : decode cL_law 2006 = .ok (.if_icmp .eq 5, 3) := by decide +kernel
theorem dL_law_2009 : decode cL_law 2009 = .ok (.iconst 0, 1) := by decide +kernel
theorem dL_law_2010 : decode cL_law 2010 = .ok (.ireturn, 1) := by decide +kernel
theorem dL_law_2011 : decode cL_law 2011 = .ok (.iload 6, 2) := by decide +kernel
theorem dL_law_2013 : decode cL_law 2013 = .ok (.ifCond .ne 36, 3) := by decide +kernel
theorem dL_law_2016 : decode cL_law 2016 = .ok (.aload 4, 2) := by decide +kernel
theorem dL_law_2018 : decode cL_law 2018 = .ok (.iconst 0, 1) := by decide +kernel
theorem dL_law_2019 : decode cL_law 2019 = .ok (.daload, 1) := by decide +kernel
theorem dL_law_2020 : decode cL_law 2020 = .ok (.fload 7, 2) := by decide +kernel
theorem dL_law_2022 : decode cL_law 2022 = .ok (.f2d, 1) := by decide +kernel
theorem dL_law_2023 : decode cL_law 2023 = .ok (.dcmp .l, 1) := by decide +kernel
theorem dL_law_2024 : decode cL_law 2024 = .ok (.ifCond .eq 25, 3) := by decide +kernel
theorem dL_law_2027 : decode cL_law 2027 = .ok (.aload 4, 2) := by decide +kernel
theorem dL_law_2029 : decode cL_law 2029 = .ok (.iconst 0, 1) := by decide +kernel
theorem dL_law_2030 : decode cL_law 2030 = .ok (.daload, 1) := by decide +kernel
theorem dL_law_2031 : decode cL_law 2031 = .ok (.aload 4, 2) := by decide +kernel
theorem dL_law_2033 : decode cL_law 2033 = .ok (.iconst 0, 1) := by decide +kernel
theorem dL_law_2034 : decode cL_law 2034 = .ok (.daload, 1) := by decide +kernel
theorem dL_law_2035 : decode cL_law 2035 = .ok (.dcmp .l, 1) := by decide +kernel
theorem dL_law_2036 : decode cL_law 2036 = .ok (.ifCond .eq 11, 3) := by decide +kernel
theorem dL_law_2039 : decode cL_law 2039 = .ok (.fload 7, 2) := by decide +kernel
theorem dL_law_2041 : decode cL_law 2041 = .ok (.fload 7, 2) := by decide +kernel
theorem dL_law_2043 : decode cL_law 2043 = .ok (.fcmp .l, 1) := by decide +kernel
theorem dL_law_2044 : decode cL_law 2044 = .ok (.ifCond .ne 5, 3) := by decide +kernel
theorem dL_law_2047 : decode cL_law 2047 = .ok (.iconst 0, 1) := by decide +kernel
theorem dL_law_2048 : decode cL_law 2048 = .ok (.ireturn, 1) := by decide +kernel
theorem dL_law_2049 : decode cL_law 2049 = .ok (.goto 558, 3) := by decide +kernel
theorem dL_law_2052 : decode cL_law 2052 = .ok (.aload_n 1, 1) := by decide +kernel
theorem dL_law_2053 : decode cL_law 2053 = .ok (.aload_n 3, 1) := by decide +kernel
theorem dL_law_2054 : decode cL_law 2054 = .ok (.invokestatic 237, 3) := by decide +kernel
theorem dL_law_2057 : decode cL_law 2057 = .ok (.istore 6, 2) := by decide +kernel
theorem dL_law_2059 : decode cL_law 2059 = .ok (.aload_n 2, 1) := by decide +kernel
theorem dL_law_2060 : decode cL_law 2060 = .ok (.invokevirtual 239, 3) := by decide +kernel
theorem dL_law_2063 : decode cL_law 2063 = .ok (.istore 7, 2) := by decide +kernel
theorem dL_law_2065 : decode cL_law 2065 = .ok (.aload_n 2, 1) := by decide +kernel
theorem dL_law_2066 : decode cL_law 2066 = .ok (.invokevirtual 143, 3) := by decide +kernel
theorem dL_law_2069 : decode cL_law 2069 = .ok (.iload 6, 2) := by decide +kernel
theorem dL_law_2071 : decode cL_law 2071 = .ok (.if_icmp .eq 5, 3) := by decide +kernel
theorem dL_law_2074 : decode cL_law 2074 = .ok (.iconst 0, 1) := by decide +kernel
theorem dL_law_2075 : decode cL_law 2075 = .ok (.ireturn, 1) := by decide +kernel
theorem dL_law_2076 : decode cL_law 2076 = .ok (.iload 6, 2) := by decide +kernel
theorem dL_law_2078 : decode cL_law 2078 = .ok (.ifCond .ne 15, 3) := by decide +kernel
theorem dL_law_2081 : decode cL_law 2081 = .ok (.aload_n 3, 1) := by decide +kernel
theorem dL_law_2082 : decode cL_law 2082 = .ok (.iconst 0, 1) := by decide +kernel
theorem dL_law_2083 : decode cL_law 2083 = .ok (.laload, 1) := by decide +kernel
theorem dL_law_2084 : decode cL_law 2084 = .ok (.iload 7, 2) := by decide +kernel
theorem dL_law_2086 : decode cL_law 2086 = .ok (.i2l, 1) := by decide +kernel
theorem dL_law_2087 : decode cL_law 2087 = .ok (.lcmp, 1) := by decide +kernel
theorem dL_law_2088 : decode cL_law 2088 = .ok (.ifCond .eq 5, 3) := by decide +kernel
theorem dL_law_2091 : decode cL_law 2091 = .ok (.iconst 0, 1) := by decide +kernel
theorem dL_law_2092 : decode cL_law 2092 = .ok (.ireturn, 1) := by decide +kernel
theorem dL_law_2093 : decode cL_law 2093 = .ok (.goto 514, 3) := by decide +kernel
theorem dL_law_2096 : decode cL_law 2096 = .ok (.aload_n 1, 1) := by decide +kernel
theorem dL_law_2097 : decode cL_law 2097 = .ok (.aload_n 0, 1) := by decide +kernel
theorem dL_law_2098 : decode cL_law 2098 = .ok (.iload 5, 2) := by decide +kernel
theorem dL_law_2100 : decode cL_law 2100 = .ok (.iconst 1, 1) := by decide +kernel
theorem dL_law_2101 : decode cL_law 2101 = .ok (.iadd, 1) := by decide +kernel
theorem dL_law_2102 : decode cL_law 2102 = .ok (.iaload, 1) := by decide +kernel
theorem dL_law_2103 : decode cL_law 2103 = .ok (.aload_n 0, 1) := by decide +kernel
theorem dL_law_2104 : decode cL_law 2104 = .ok (.iload 5, 2) := by decide +kernel
theorem dL_law_2106 : decode cL_law 2106 = .ok (.iconst 2, 1) := by decide +kernel
theorem dL_law_2107 : decode cL_law 2107 = .ok (.iadd, 1) := by decide +kernel
theorem dL_law_2108 : decode cL_law 2108 = .ok (.iaload, 1) := by decide +kernel
theorem dL_law_2109 : decode cL_law 2109 = .ok (.aload_n 0, 1) := by decide +kernel
theorem dL_law_2110 : decode cL_law 2110 = .ok (.iload 5, 2) := by decide +kernel
theorem dL_law_2112 : decode cL_law 2112 = .ok (.iconst 3, 1) := by decide +kernel
theorem dL_law_2113 : decode cL_law 2113 = .ok (.iadd, 1) := by decide +kernel
theorem dL_law_2114 : decode cL_law 2114 = .ok (.iaload, 1) := by decide +kernel
theorem dL_law_2115 : decode cL_law 2115 = .ok (.ifCond .eq 7, 3) := by decide +kernel
theorem dL_law_2118 : decode cL_law 2118 = .ok (.iconst 1, 1) := by decide +kernel
theorem dL_law_2119 : decode cL_law 2119 = .ok (.goto 4, 3) := by decide +kernel
theorem dL_law_2122 : decode cL_law 2122 = .ok (.iconst 0, 1) := by decide +kernel
theorem dL_law_2123 : decode cL_law 2123 = .ok (.aload_n 3, 1) := by decide +kernel
theorem dL_law_2124 : decode cL_law 2124 = .ok (.invokestatic 240, 3) := by decide +kernel
theorem dL_law_2127 : decode cL_law 2127 = .ok (.istore 6, 2) := by decide +kernel
theorem dL_law_2129 : decode cL_law 2129 = .ok (.aload_n 2, 1) := by decide +kernel
theorem dL_law_2130 : decode cL_law 2130 = .ok (.aload_n 0, 1) := by decide +kernel
theorem dL_law_2131 : decode cL_law 2131 = .ok (.iload 5, 2) := by decide +kernel
theorem dL_law_2133 : decode cL_law 2133 = .ok (.iconst 1, 1) := by decide +kernel
theorem dL_law_2134 : decode cL_law 2134 = .ok (.iadd, 1) := by decide +kernel
theorem dL_law_2135 : decode cL_law 2135 = .ok (.iaload, 1) := by decide +kernel
theorem dL_law_2136 : decode cL_law 2136 = .ok (.aload_n 0, 1) := by decide +kernel
theorem dL_law_2137 : decode cL_law 2137 = .ok (.iload 5, 2) := by decide +kernel
theorem dL_law_2139 : decode cL_law 2139 = .ok (.iconst 2, 1) := by decide +kernel
theorem dL_law_2140 : decode cL_law 2140 = .ok (.iadd, 1) := by decide +kernel
theorem dL_law_2141 : decode cL_law 2141 = .ok (.iaload, 1) := by decide +kernel
theorem dL_law_2142 : decode cL_law 2142 = .ok (.aload_n 0, 1) := by decide +kernel
theorem dL_law_2143 : decode cL_law 2143 = .ok (.iload 5, 2) := by decide +kernel
theorem dL_law_2145 : decode cL_law 2145 = .ok (.iconst 3, 1) := by decide +kernel
theorem dL_law_2146 : decode cL_law 2146 = .ok (.iadd, 1) := by decide +kernel
theorem dL_law_2147 : decode cL_law 2147 = .ok (.iaload, 1) := by decide +kernel
theorem dL_law_2148 : decode cL_law 2148 = .ok (.ifCond .eq 7, 3) := by decide +kernel
theorem dL_law_2151 : decode cL_law 2151 = .ok (.iconst 1, 1) := by decide +kernel
theorem dL_law_2152 : decode cL_law 2152 = .ok (.goto 4, 3) := by decide +kernel
theorem dL_law_2155 : decode cL_law 2155 = .ok (.iconst 0, 1) := by decide +kernel
theorem dL_law_2156 : decode cL_law 2156 = .ok (.invokevirtual 243, 3) := by decide +kernel
theorem dL_law_2159 : decode cL_law 2159 = .ok (.istore 7, 2) := by decide +kernel
theorem dL_law_2161 : decode cL_law 2161 = .ok (.aload_n 2, 1) := by decide +kernel
theorem dL_law_2162 : decode cL_law 2162 = .ok (.invokevirtual 143, 3) := by decide +kernel
theorem dL_law_2165 : decode cL_law 2165 = .ok (.iload 6, 2) := by decide +kernel
theorem dL_law_2167 : decode cL_law 2167 = .ok (.if_icmp .eq 5, 3) := by decide +kernel
theorem dL_law_2170 : decode cL_law 2170 = .ok (.iconst 0, 1) := by decide +kernel
theorem dL_law_2171 : decode cL_law 2171 = .ok (.ireturn, 1) := by decide +kernel
theorem dL_law_2172 : decode cL_law 2172 = .ok (.iload 6, 2) := by decide +kernel
theorem dL_law_2174 : decode cL_law 2174 = .ok (.ifCond .ne 22, 3) := by decide +kernel
theorem dL_law_2177 : decode cL_law 2177 = .ok (.aload_n 3, 1) := by decide +kernel
theorem dL_law_2178 : decode cL_law 2178 = .ok (.iconst 0, 1) := by decide +kernel
theorem dL_law_2179 : decode cL_law 2179 = .ok (.laload, 1) := by decide +kernel
theorem dL_law_2180 : decode cL_law 2180 = .ok (.iload 7, 2) := by decide +kernel
theorem dL_law_2182 : decode cL_law 2182 = .ok (.ifCond .eq 7, 3) := by decide +kernel
theorem dL_law_2185 : decode cL_law 2185 = .ok (.lconst 1, 1) := by decide +kernel
theorem dL_law_2186 : decode cL_law 2186 = .ok (.goto 4, 3) := by decide +kernel
theorem dL_law_2189 : decode cL_law 2189 = .ok (.lconst 0, 1) := by decide +kernel
theorem dL_law_2190 : decode cL_law 2190 = .ok (.lcmp, 1) := by decide +kernel
theorem dL_law_2191 : decode cL_law 2191 = .ok (.ifCond .eq 5, 3) := by decide +kernel
theorem dL_law_2194 : decode cL_law 2194 = .ok (.iconst 0, 1) := by decide +kernel
theorem dL_law_2195 : decode cL_law 2195 = .ok (.ireturn, 1) := by decide +kernel
theorem dL_law_2196 : decode cL_law 2196 = .ok (.goto 411, 3) := by decide +kernel
theorem dL_law_2199 : decode cL_law 2199 = .ok (.aload_n 1, 1) := by decide +kernel
theorem dL_law_2200 : decode cL_law 2200 = .ok (.aload_n 0, 1) := by decide +kernel
theorem dL_law_2201 : decode cL_law 2201 = .ok (.iload 5, 2) := by decide +kernel
theorem dL_law_2203 : decode cL_law 2203 = .ok (.iconst 1, 1) := by decide +kernel
theorem dL_law_2204 : decode cL_law 2204 = .ok (.iadd, 1) := by decide +kernel
theorem dL_law_2205 : decode cL_law 2205 = .ok (.iaload, 1) := by decide +kernel
theorem dL_law_2206 : decode cL_law 2206 = .ok (.aload_n 0, 1) := by decide +kernel
theorem dL_law_2207 : decode cL_law 2207 = .ok (.iload 5, 2) := by decide +kernel
theorem dL_law_2209 : decode cL_law 2209 = .ok (.iconst 2, 1) := by decide +kernel
theorem dL_law_2210 : decode cL_law 2210 = .ok (.iadd, 1) := by decide +kernel
theorem dL_law_2211 : decode cL_law 2211 = .ok (.iaload, 1) := by decide +kernel
theorem dL_law_2212 : decode cL_law 2212 = .ok (.aload_n 3, 1) := by decide +kernel
theorem dL_law_2213 : decode cL_law 2213 = .ok (.invokestatic 244, 3) := by decide +kernel
theorem dL_law_2216 : decode cL_law 2216 = .ok (.istore 6, 2) := by decide +kernel
theorem dL_law_2218 : decode cL_law 2218 = .ok (.aload_n 2, 1) := by decide +kernel
theorem dL_law_2219 : decode cL_law 2219 = .ok (.aload_n 0, 1) := by decide +kernel
theorem dL_law_2220 : decode cL_law 2220 = .ok (.iload 5, 2) := by decide +kernel
theorem dL_law_2222 : decode cL_law 2222 = .ok (.iconst 1, 1) := by decide +kernel
theorem dL_law_2223 : decode cL_law 2223 = .ok (.iadd, 1) := by decide +kernel
theorem dL_law_2224 : decode cL_law 2224 = .ok (.iaload, 1) := by decide +kernel
theorem dL_law_2225 : decode cL_law 2225 = .ok (.aload_n 0, 1) := by decide +kernel
theorem dL_law_2226 : decode cL_law 2226 = .ok (.iload 5, 2) := by decide +kernel
theorem dL_law_2228 : decode cL_law 2228 = .ok (.iconst 2, 1) := by decide +kernel
theorem dL_law_2229 : decode cL_law 2229 = .ok (.iadd, 1) := by decide +kernel
theorem dL_law_2230 : decode cL_law 2230 = .ok (.iaload, 1) := by decide +kernel
theorem dL_law_2231 : decode cL_law 2231 = .ok (.invokevirtual 246, 3) := by decide +kernel
theorem dL_law_2234 : decode cL_law 2234 = .ok (.istore 7, 2) := by decide +kernel
theorem dL_law_2236 : decode cL_law 2236 = .ok (.aload_n 2, 1) := by decide +kernel
theorem dL_law_2237 : decode cL_law 2237 = .ok (.invokevirtual 143, 3) := by decide +kernel
theorem dL_law_2240 : decode cL_law 2240 = .ok (.iload 6, 2) := by decide +kernel
theorem dL_law_2242 : decode cL_law 2242 = .ok (.if_icmp .eq 5, 3) := by decide +kernel
theorem dL_law_2245 : decode cL_law 2245 = .ok (.iconst 0, 1) := by decide +kernel
theorem dL_law_2246 : decode cL_law 2246 = .ok (.ireturn, 1) := by decide +kernel
theorem dL_law_2247 : decode cL_law 2247 = .ok (.iload 6, 2) := by decide +kernel
theorem dL_law_2249 : decode cL_law 2249 = .ok (.ifCond .ne 15, 3) := by decide +kernel
theorem dL_law_2252 : decode cL_law 2252 = .ok (.aload_n 3, 1) := by decide +kernel
theorem dL_law_2253 : decode cL_law 2253 = .ok (.iconst 0, 1) := by decide +kernel
theorem dL_law_2254 : decode cL_law 2254 = .ok (.laload, 1) := by decide +kernel
theorem dL_law_2255 : decode cL_law 2255 = .ok (.iload 7, 2) := by decide +kernel
theorem dL_law_2257 : decode cL_law 2257 = .ok (.i2l, 1) := by decide +kernel
theorem dL_law_2258 : decode cL_law 2258 = .ok (.lcmp, 1) := by decide +kernel
theorem dL_law_2259 : decode cL_law 2259 = .ok (.ifCond .eq 5, 3) := by decide +kernel
theorem dL_law_2262 : decode cL_law 2262 = .ok (.iconst 0, 1) := by decide +kernel
theorem dL_law_2263 : decode cL_law 2263 = .ok (.ireturn, 1) := by decide +kernel
theorem dL_law_2264 : decode cL_law 2264 = .ok (.goto 343, 3) := by decide +kernel
theorem dL_law_2267 : decode cL_law 2267 = .ok (.aload_n 1, 1) := by decide +kernel
theorem dL_law_2268 : decode cL_law 2268 = .ok (.aload_n 0, 1) := by decide +kernel
theorem dL_law_2269 : decode cL_law 2269 = .ok (.iload 5, 2) := by decide +kernel
theorem dL_law_2271 : decode cL_law 2271 = .ok (.iconst 1, 1) := by decide +kernel
theorem dL_law_2272 : decode cL_law 2272 = .ok (.iadd, 1) := by decide +kernel
theorem dL_law_2273 : decode cL_law 2273 = .ok (.iaload, 1) := by decide +kernel
theorem dL_law_2274 : decode cL_law 2274 = .ok (.aload_n 3, 1) := by decide +kernel
theorem dL_law_2275 : decode cL_law 2275 = .ok (.invokestatic 247, 3) := by decide +kernel
theorem dL_law_2278 : decode cL_law 2278 = .ok (.istore 6, 2) := by decide +kernel
theorem dL_law_2280 : decode cL_law 2280 = .ok (.aload_n 2, 1) := by decide +kernel
theorem dL_law_2281 : decode cL_law 2281 = .ok (.aload_n 0, 1) := by decide +kernel
theorem dL_law_2282 : decode cL_law 2282 = .ok (.iload 5, 2) := by decide +kernel
theorem dL_law_2284 : decode cL_law 2284 = .ok (.iconst 1, 1) := by decide +kernel
theorem dL_law_2285 : decode cL_law 2285 = .ok (.iadd, 1) := by decide +kernel
theorem dL_law_2286 : decode cL_law 2286 = .ok (.iaload, 1) := by decide +kernel
theorem dL_law_2287 : decode cL_law 2287 = .ok (.invokevirtual 249, 3) := by decide +kernel
theorem dL_law_2290 : decode cL_law 2290 = .ok (.istore 7, 2) := by decide +kernel
theorem dL_law_2292 : decode cL_law 2292 = .ok (.aload_n 2, 1) := by decide +kernel
theorem dL_law_2293 : decode cL_law 2293 = .ok (.invokevirtual 143, 3) := by decide +kernel
theorem dL_law_2296 : decode cL_law 2296 = .ok (.iload 6, 2) := by decide +kernel
theorem dL_law_2298 : decode cL_law 2298 = .ok (.if_icmp .eq 5, 3) := by decide +kernel
theorem dL_law_2301 : decode cL_law 2301 = .ok (.iconst 0, 1) := by decide +kernel
theorem dL_law_2302 : decode cL_law 2302 = .ok (.ireturn, 1) := by decide +kernel
theorem dL_law_2303 : decode cL_law 2303 = .ok (.iload 6, 2) := by decide +kernel
theorem dL_law_2305 : decode cL_law 2305 = .ok (.ifCond .ne 15, 3) := by decide +kernel
theorem dL_law_2308 : decode cL_law 2308 = .ok (.aload_n 3, 1) := by decide +kernel
theorem dL_law_2309 : decode cL_law 2309 = .ok (.iconst 0, 1) := by decide +kernel
theorem dL_law_2310 : decode cL_law 2310 = .ok (.laload, 1) := by decide +kernel
theorem dL_law_2311 : decode cL_law 2311 = .ok (.iload 7, 2) := by decide +kernel
theorem dL_law_2313 : decode cL_law 2313 = .ok (.i2l, 1) := by decide +kernel
theorem dL_law_2314 : decode cL_law 2314 = .ok (.lcmp, 1) := by decide +kernel
theorem dL_law_2315 : decode cL_law 2315 = .ok (.ifCond .eq 5, 3) := by decide +kernel
theorem dL_law_2318 : decode cL_law 2318 = .ok (.iconst 0, 1) := by decide +kernel
theorem dL_law_2319 : decode cL_law 2319 = .ok (.ireturn, 1) := by decide +kernel
theorem dL_law_2320 : decode cL_law 2320 = .ok (.goto 287, 3) := by decide +kernel
theorem dL_law_2323 : decode cL_law 2323 = .ok (.aload_n 1, 1) := by decide +kernel
theorem dL_law_2324 : decode cL_law 2324 = .ok (.aload_n 0, 1) := by decide +kernel
theorem dL_law_2325 : decode cL_law 2325 = .ok (.iload 5, 2) := by decide +kernel
theorem dL_law_2327 : decode cL_law 2327 = .ok (.iconst 1, 1) := by decide +kernel
theorem dL_law_2328 : decode cL_law 2328 = .ok (.iadd, 1) := by decide +kernel
theorem dL_law_2329 : decode cL_law 2329 = .ok (.iaload, 1) := by decide +kernel
theorem dL_law_2330 : decode cL_law 2330 = .ok (.aload_n 3, 1) := by decide +kernel
theorem dL_law_2331 : decode cL_law 2331 = .ok (.invokestatic 250, 3) := by decide +kernel
theorem dL_law_2334 : decode cL_law 2334 = .ok (.istore 6, 2) := by decide +kernel
theorem dL_law_2336 : decode cL_law 2336 = .ok (.aload_n 2, 1) := by decide +kernel
theorem dL_law_2337 : decode cL_law 2337 = .ok (.aload_n 0, 1) := by decide +kernel
theorem dL_law_2338 : decode cL_law 2338 = .ok (.iload 5, 2) := by decide +kernel
theorem dL_law_2340 : decode cL_law 2340 = .ok (.iconst 1, 1) := by decide +kernel
theorem dL_law_2341 : decode cL_law 2341 = .ok (.iadd, 1) := by decide +kernel
theorem dL_law_2342 : decode cL_law 2342 = .ok (.iaload, 1) := by decide +kernel
theorem dL_law_2343 : decode cL_law 2343 = .ok (.invokevirtual 252, 3) := by decide +kernel
theorem dL_law_2346 : decode cL_law 2346 = .ok (.istore 7, 2) := by decide +kernel
theorem dL_law_2348 : decode cL_law 2348 = .ok (.aload_n 2, 1) := by decide +kernel
theorem dL_law_2349 : decode cL_law 2349 = .ok (.invokevirtual 143, 3) := by decide +kernel
theorem dL_law_2352 : decode cL_law 2352 = .ok (.iload 6, 2) := by decide +kernel
theorem dL_law_2354 : decode cL_law 2354 = .ok (.if_icmp .eq 5, 3) := by decide +kernel
theorem dL_law_2357 : decode cL_law 2357 = .ok (.iconst 0, 1) := by decide +kernel
theorem dL_law_2358 : decode cL_law 2358 = .ok (.ireturn, 1) := by decide +kernel
theorem dL_law_2359 : decode cL_law 2359 = .ok (.iload 6, 2) := by decide +kernel
theorem dL_law_2361 : decode cL_law 2361 = .ok (.ifCond .ne 22, 3) := by decide +kernel
theorem dL_law_2364 : decode cL_law 2364 = .ok (.aload_n 3, 1) := by decide +kernel
theorem dL_law_2365 : decode cL_law 2365 = .ok (.iconst 0, 1) := by decide +kernel
theorem dL_law_2366 : decode cL_law 2366 = .ok (.laload, 1) := by decide +kernel
theorem dL_law_2367 : decode cL_law 2367 = .ok (.iload 7, 2) := by decide +kernel
theorem dL_law_2369 : decode cL_law 2369 = .ok (.ifCond .eq 7, 3) := by decide +kernel
theorem dL_law_2372 : decode cL_law 2372 = .ok (.lconst 1, 1) := by decide +kernel
theorem dL_law_2373 : decode cL_law 2373 = .ok (.goto 4, 3) := by decide +kernel
theorem dL_law_2376 : decode cL_law 2376 = .ok (.lconst 0, 1) := by decide +kernel
theorem dL_law_2377 : decode cL_law 2377 = .ok (.lcmp, 1) := by decide +kernel
theorem dL_law_2378 : decode cL_law 2378 = .ok (.ifCond .eq 5, 3) := by decide +kernel
theorem dL_law_2381 : decode cL_law 2381 = .ok (.iconst 0, 1) := by decide +kernel
theorem dL_law_2382 : decode cL_law 2382 = .ok (.ireturn, 1) := by decide +kernel
theorem dL_law_2383 : decode cL_law 2383 = .ok (.goto 224, 3) := by decide +kernel
theorem dL_law_2386 : decode cL_law 2386 = .ok (.aload_n 1, 1) := by decide +kernel
theorem dL_law_2387 : decode cL_law 2387 = .ok (.aload_n 0, 1) := by decide +kernel
theorem dL_law_2388 : decode cL_law 2388 = .ok (.iload 5, 2) := by decide +kernel
theorem dL_law_2390 : decode cL_law 2390 = .ok (.iconst 1, 1) := by decide +kernel
theorem dL_law_2391 : decode cL_law 2391 = .ok (.iadd, 1) := by decide +kernel
theorem dL_law_2392 : decode cL_law 2392 = .ok (.iaload, 1) := by decide +kernel
theorem dL_law_2393 : decode cL_law 2393 = .ok (.aload_n 0, 1) := by decide +kernel
theorem dL_law_2394 : decode cL_law 2394 = .ok (.iload 5, 2) := by decide +kernel
theorem dL_law_2396 : decode cL_law 2396 = .ok (.iconst 2, 1) := by decide +kernel
theorem dL_law_2397 : decode cL_law 2397 = .ok (.iadd, 1) := by decide +kernel
theorem dL_law_2398 : decode cL_law 2398 = .ok (.iaload, 1) := by decide +kernel
theorem dL_law_2399 : decode cL_law 2399 = .ok (.aload_n 3, 1) := by decide +kernel
theorem dL_law_2400 : decode cL_law 2400 = .ok (.invokestatic 253, 3) := by decide +kernel
theorem dL_law_2403 : decode cL_law 2403 = .ok (.istore 6, 2) := by decide +kernel
theorem dL_law_2405 : decode cL_law 2405 = .ok (.aload_n 2, 1) := by decide +kernel
theorem dL_law_2406 : decode cL_law 2406 = .ok (.aload_n 0, 1) := by decide +kernel
theorem dL_law_2407 : decode cL_law 2407 = .ok (.iload 5, 2) := by decide +kernel
theorem dL_law_2409 : decode cL_law 2409 = .ok (.iconst 1, 1) := by decide +kernel
theorem dL_law_2410 : decode cL_law 2410 = .ok (.iadd, 1) := by decide +kernel
theorem dL_law_2411 : decode cL_law 2411 = .ok (.iaload, 1) := by decide +kernel
theorem dL_law_2412 : decode cL_law 2412 = .ok (.aload_n 0, 1) := by decide +kernel
theorem dL_law_2413 : decode cL_law 2413 = .ok (.iload 5, 2) := by decide +kernel
theorem dL_law_2415 : decode cL_law 2415 = .ok (.iconst 2, 1) := by decide +kernel
theorem dL_law_2416 : decode cL_law 2416 = .ok (.iadd, 1) := by decide +kernel
theorem dL_law_2417 : decode cL_law 2417 = .ok (.iaload, 1) := by decide +kernel
theorem dL_law_2418 : decode cL_law 2418 = .ok (.invokevirtual 255, 3) := by decide +kernel
theorem dL_law_2421 : decode cL_law 2421 = .ok (.istore 7, 2) := by decide +kernel
theorem dL_law_2423 : decode cL_law 2423 = .ok (.aload_n 2, 1) := by decide +kernel
theorem dL_law_2424 : decode cL_law 2424 = .ok (.invokevirtual 143, 3) := by decide +kernel
theorem dL_law_2427 : decode cL_law 2427 = .ok (.iload 6, 2) := by decide +kernel
theorem dL_law_2429 : decode cL_law 2429 = .ok (.if_icmp .eq 5, 3) := by decide +kernel
theorem dL_law_2432 : decode cL_law 2432 = .ok (.iconst 0, 1) := by decide +kernel
theorem dL_law_2433 : decode cL_law 2433 = .ok (.ireturn, 1) := by decide +kernel
theorem dL_law_2434 : decode cL_law 2434 = .ok (.iload 6, 2) := by decide +kernel
theorem dL_law_2436 : decode cL_law 2436 = .ok (.ifCond .ne 22, 3) := by decide +kernel
theorem dL_law_2439 : decode cL_law 2439 = .ok (.aload_n 3, 1) := by decide +kernel
theorem dL_law_2440 : decode cL_law 2440 = .ok (.iconst 0, 1) := by decide +kernel
theorem dL_law_2441 : decode cL_law 2441 = .ok (.laload, 1) := by decide +kernel
theorem dL_law_2442 : decode cL_law 2442 = .ok (.iload 7, 2) := by decide +kernel
theorem dL_law_2444 : decode cL_law 2444 = .ok (.ifCond .eq 7, 3) := by decide +kernel
theorem dL_law_2447 : decode cL_law 2447 = .ok (.lconst 1, 1) := by decide +kernel
theorem dL_law_2448 : decode cL_law 2448 = .ok (.goto 4, 3) := by decide +kernel
theorem dL_law_2451 : decode cL_law 2451 = .ok (.lconst 0, 1) := by decide +kernel
theorem dL_law_2452 : decode cL_law 2452 = .ok (.lcmp, 1) := by decide +kernel
theorem dL_law_2453 : decode cL_law 2453 = .ok (.ifCond .eq 5, 3) := by decide +kernel
theorem dL_law_2456 : decode cL_law 2456 = .ok (.iconst 0, 1) := by decide +kernel
theorem dL_law_2457 : decode cL_law 2457 = .ok (.ireturn, 1) := by decide +kernel
theorem dL_law_2458 : decode cL_law 2458 = .ok (.goto 149, 3) := by decide +kernel
theorem dL_law_2461 : decode cL_law 2461 = .ok (.aload_n 1, 1) := by decide +kernel
theorem dL_law_2462 : decode cL_law 2462 = .ok (.aload_n 0, 1) := by decide +kernel
theorem dL_law_2463 : decode cL_law 2463 = .ok (.iload 5, 2) := by decide +kernel
theorem dL_law_2465 : decode cL_law 2465 = .ok (.iconst 1, 1) := by decide +kernel
theorem dL_law_2466 : decode cL_law 2466 = .ok (.iadd, 1) := by decide +kernel
theorem dL_law_2467 : decode cL_law 2467 = .ok (.iaload, 1) := by decide +kernel
theorem dL_law_2468 : decode cL_law 2468 = .ok (.aload_n 0, 1) := by decide +kernel
theorem dL_law_2469 : decode cL_law 2469 = .ok (.iload 5, 2) := by decide +kernel
theorem dL_law_2471 : decode cL_law 2471 = .ok (.iconst 2, 1) := by decide +kernel
theorem dL_law_2472 : decode cL_law 2472 = .ok (.iadd, 1) := by decide +kernel
theorem dL_law_2473 : decode cL_law 2473 = .ok (.iaload, 1) := by decide +kernel
theorem dL_law_2474 : decode cL_law 2474 = .ok (.aload_n 3, 1) := by decide +kernel
theorem dL_law_2475 : decode cL_law 2475 = .ok (.invokestatic 256, 3) := by decide +kernel
theorem dL_law_2478 : decode cL_law 2478 = .ok (.istore 6, 2) := by decide +kernel
theorem dL_law_2480 : decode cL_law 2480 = .ok (.aload_n 2, 1) := by decide +kernel
theorem dL_law_2481 : decode cL_law 2481 = .ok (.aload_n 0, 1) := by decide +kernel
theorem dL_law_2482 : decode cL_law 2482 = .ok (.iload 5, 2) := by decide +kernel
theorem dL_law_2484 : decode cL_law 2484 = .ok (.iconst 1, 1) := by decide +kernel
theorem dL_law_2485 : decode cL_law 2485 = .ok (.iadd, 1) := by decide +kernel
theorem dL_law_2486 : decode cL_law 2486 = .ok (.iaload, 1) := by decide +kernel
theorem dL_law_2487 : decode cL_law 2487 = .ok (.aload_n 0, 1) := by decide +kernel
theorem dL_law_2488 : decode cL_law 2488 = .ok (.iload 5, 2) := by decide +kernel
theorem dL_law_2490 : decode cL_law 2490 = .ok (.iconst 2, 1) := by decide +kernel
theorem dL_law_2491 : decode cL_law 2491 = .ok (.iadd, 1) := by decide +kernel
theorem dL_law_2492 : decode cL_law 2492 = .ok (.iaload, 1) := by decide +kernel
theorem dL_law_2493 : decode cL_law 2493 = .ok (.invokevirtual 258, 3) := by decide +kernel
theorem dL_law_2496 : decode cL_law 2496 = .ok (.istore 7, 2) := by decide +kernel
theorem dL_law_2498 : decode cL_law 2498 = .ok (.aload_n 2, 1) := by decide +kernel
theorem dL_law_2499 : decode cL_law 2499 = .ok (.invokevirtual 143, 3) := by decide +kernel
theorem dL_law_2502 : decode cL_law 2502 = .ok (.iload 6, 2) := by decide +kernel
theorem dL_law_2504 : decode cL_law 2504 = .ok (.if_icmp .eq 5, 3) := by decide +kernel
theorem dL_law_2507 : decode cL_law 2507 = .ok (.iconst 0, 1) := by decide +kernel
theorem dL_law_2508 : decode cL_law 2508 = .ok (.ireturn, 1) := by decide +kernel
theorem dL_law_2509 : decode cL_law 2509 = .ok (.iload 6, 2) := by decide +kernel
theorem dL_law_2511 : decode cL_law 2511 = .ok (.ifCond .ne 15, 3) := by decide +kernel
theorem dL_law_2514 : decode cL_law 2514 = .ok (.aload_n 3, 1) := by decide +kernel
theorem dL_law_2515 : decode cL_law 2515 = .ok (.iconst 0, 1) := by decide +kernel
theorem dL_law_2516 : decode cL_law 2516 = .ok (.laload, 1) := by decide +kernel
theorem dL_law_2517 : decode cL_law 2517 = .ok (.iload 7, 2) := by decide +kernel
theorem dL_law_2519 : decode cL_law 2519 = .ok (.i2l, 1) := by decide +kernel
theorem dL_law_2520 : decode cL_law 2520 = .ok (.lcmp, 1) := by decide +kernel
theorem dL_law_2521 : decode cL_law 2521 = .ok (.ifCond .eq 5, 3) := by decide +kernel
theorem dL_law_2524 : decode cL_law 2524 = .ok (.iconst 0, 1) := by decide +kernel
theorem dL_law_2525 : decode cL_law 2525 = .ok (.ireturn, 1) := by decide +kernel
theorem dL_law_2526 : decode cL_law 2526 = .ok (.goto 81, 3) := by decide +kernel
theorem dL_law_2529 : decode cL_law 2529 = .ok (.aload_n 1, 1) := by decide +kernel
theorem dL_law_2530 : decode cL_law 2530 = .ok (.aload 4, 2) := by decide +kernel
theorem dL_law_2532 : decode cL_law 2532 = .ok (.invokestatic 259, 3) := by decide +kernel
theorem dL_law_2535 : decode cL_law 2535 = .ok (.istore 6, 2) := by decide +kernel
theorem dL_law_2537 : decode cL_law 2537 = .ok (.aload_n 2, 1) := by decide +kernel
theorem dL_law_2538 : decode cL_law 2538 = .ok (.invokevirtual 262, 3) := by decide +kernel
theorem dL_law_2541 : decode cL_law 2541 = .ok (.dstore 7, 2) := by decide +kernel
theorem dL_law_2543 : decode cL_law 2543 = .ok (.aload_n 2, 1) := by decide +kernel
theorem dL_law_2544 : decode cL_law 2544 = .ok (.invokevirtual 143, 3) := by decide +kernel
theorem dL_law_2547 : decode cL_law 2547 = .ok (.iload 6, 2) := by decide +kernel
theorem dL_law_2549 : decode cL_law 2549 = .ok (.if_icmp .eq 5, 3) := by decide +kernel
theorem dL_law_2552 : decode cL_law 2552 = .ok (.iconst 0, 1) := by decide +kernel
theorem dL_law_2553 : decode cL_law 2553 = .ok (.ireturn, 1) := by decide +kernel
theorem dL_law_2554 : decode cL_law 2554 = .ok (.iload 6, 2) := by decide +kernel
theorem dL_law_2556 : decode cL_law 2556 = .ok (.ifCond .ne 35, 3) := by decide +kernel
theorem dL_law_2559 : decode cL_law 2559 = .ok (.aload 4, 2) := by decide +kernel
theorem dL_law_2561 : decode cL_law 2561 = .ok (.iconst 0, 1) := by decide +kernel
theorem dL_law_2562 : decode cL_law 2562 = .ok (.daload, 1) := by decide +kernel
theorem dL_law_2563 : decode cL_law 2563 = .ok (.dload 7, 2) := by decide +kernel
theorem dL_law_2565 : decode cL_law 2565 = .ok (.dcmp .l, 1) := by decide +kernel
theorem dL_law_2566 : decode cL_law 2566 = .ok (.ifCond .eq 25, 3) := by decide +kernel
theorem dL_law_2569 : decode cL_law 2569 = .ok (.aload 4, 2) := by decide +kernel
theorem dL_law_2571 : decode cL_law 2571 = .ok (.iconst 0, 1) := by decide +kernel
theorem dL_law_2572 : decode cL_law 2572 = .ok (.daload, 1) := by decide +kernel
theorem dL_law_2573 : decode cL_law 2573 = .ok (.aload 4, 2) := by decide +kernel
theorem dL_law_2575 : decode cL_law 2575 = .ok (.iconst 0, 1) := by decide +kernel
theorem dL_law_2576 : decode cL_law 2576 = .ok (.daload, 1) := by decide +kernel
theorem dL_law_2577 : decode cL_law 2577 = .ok (.dcmp .l, 1) := by decide +kernel
theorem dL_law_2578 : decode cL_law 2578 = .ok (.ifCond .eq 11, 3) := by decide +kernel
theorem dL_law_2581 : decode cL_law 2581 = .ok (.dload 7, 2) := by decide +kernel
theorem dL_law_2583 : decode cL_law 2583 = .ok (.dload 7, 2) := by decide +kernel
theorem dL_law_2585 : decode cL_law 2585 = .ok (.dcmp .l, 1) := by decide +kernel
theorem dL_law_2586 : decode cL_law 2586 = .ok (.ifCond .ne 5, 3) := by decide +kernel
theorem dL_law_2589 : decode cL_law 2589 = .ok (.iconst 0, 1) := by decide +kernel
theorem dL_law_2590 : decode cL_law 2590 = .ok (.ireturn, 1) := by decide +kernel
theorem dL_law_2591 : decode cL_law 2591 = .ok (.goto 16, 3) := by decide +kernel
theorem dL_law_2594 : decode cL_law 2594 = .ok (.aload_n 1, 1) := by decide +kernel
theorem dL_law_2595 : decode cL_law 2595 = .ok (.invokevirtual 263, 3) := by decide +kernel
theorem dL_law_2598 : decode cL_law 2598 = .ok (.aload_n 2, 1) := by decide +kernel
theorem dL_law_2599 : decode cL_law 2599 = .ok (.invokevirtual 267, 3) := by decide +kernel
theorem dL_law_2602 : decode cL_law 2602 = .ok (.if_icmp .eq 5, 3) := by decide +kernel
theorem dL_law_2605 : decode cL_law 2605 = .ok (.iconst 0, 1) := by decide +kernel
theorem dL_law_2606 : decode cL_law 2606 = .ok (.ireturn, 1) := by decide +kernel
theorem dL_law_2607 : decode cL_law 2607 = .ok (.iinc 5 8, 3) := by decide +kernel
theorem dL_law_2610 : decode cL_law 2610 = .ok (.goto (-2582), 3) := by decide +kernel
theorem dL_law_2613 : decode cL_law 2613 = .ok (.iconst 1, 1) := by decide +kernel
theorem dL_law_2614 : decode cL_law 2614 = .ok (.ireturn, 1) := by decide +kernel
end
section
/-! the words of the tables that stay: one list for every method -/
def wAll : List Cond := lw_tbl.filter goodWord
theorem wA (i : Nat) {w : Cond} (h : lw_tbl[i]? = some w) (g : goodWord w = true) : w ∈ wAll := List.mem_filter.mpr ⟨List.mem_of_getElem? h, g⟩
theorem wA_good {w : Cond} (h : w ∈ wAll) : goodWord w = true := (List.mem_filter.mp h).2
theorem wA_tbl {w : Cond} (h : w ∈ wAll) : w ∈ lw_tbl := (List.mem_filter.mp h).1
abbrev wY (y : MethodName) (b : ByteArray) (n : Nat) (r : Option FieldType) : List Cond := .code y b n r :: wAll
theorem wA_list (L : List Cond) (ps : List Nat) (hp : L = ps.filterMap (fun i => lw_tbl[i]?)) (h : L.all goodWord = true) : ∀ w ∈ L, w ∈ wAll := by
  intro w hw
  refine List.mem_filter.mpr ⟨?_, List.all_eq_true.mp h w hw⟩
  rw [hp] at hw
  obtain ⟨i, -, hi⟩ := List.mem_filterMap.mp hw
  exact List.mem_of_getElem? hi
theorem km_X5_3 : Cond.methodLink RX5 3 objectInit ∈ wAll := wA 71 (by decide +kernel) (by decide +kernel)
theorem kf_X5_9 : Cond.fieldLink RX5 9 "Feedloom" "minute" "I" ∈ wAll := wA 189 (by decide +kernel) (by decide +kernel)
theorem kf_X5_13 : Cond.fieldLink RX5 13 "Feedloom" "threshold" "I" ∈ wAll := wA 190 (by decide +kernel) (by decide +kernel)
theorem kf_X5_16 : Cond.fieldLink RX5 16 "Feedloom" "window" "I" ∈ wAll := wA 191 (by decide +kernel) (by decide +kernel)
theorem kf_X5_19 : Cond.fieldLink RX5 19 "Feedloom" "sourceCount" "I" ∈ wAll := wA 192 (by decide +kernel) (by decide +kernel)
theorem kc_X5_22 : Cond.classLink RX5 22 RX1 ∈ wAll := wA 74 (by decide +kernel) (by decide +kernel)
theorem kf_X5_25 : Cond.fieldLink RX5 25 "Feedloom" "items" "LFeedloom$Items;" ∈ wAll := wA 193 (by decide +kernel) (by decide +kernel)
theorem kc_X5_29 : Cond.classLink RX5 29 RX4 ∈ wAll := wA 116 (by decide +kernel) (by decide +kernel)
theorem kf_X5_32 : Cond.fieldLink RX5 32 "Feedloom" "rules" "LFeedloom$Rules;" ∈ wAll := wA 194 (by decide +kernel) (by decide +kernel)
theorem kc_X5_36 : Cond.classLink RX5 36 RX3 ∈ wAll := wA 141 (by decide +kernel) (by decide +kernel)
theorem kf_X5_39 : Cond.fieldLink RX5 39 "Feedloom" "rivers" "LFeedloom$Rivers;" ∈ wAll := wA 195 (by decide +kernel) (by decide +kernel)
theorem kc_X5_43 : Cond.classLink RX5 43 RX0 ∈ wAll := wA 157 (by decide +kernel) (by decide +kernel)
theorem kf_X5_46 : Cond.fieldLink RX5 46 "Feedloom" "devices" "LFeedloom$Devices;" ∈ wAll := wA 196 (by decide +kernel) (by decide +kernel)
theorem kc_X5_50 : Cond.classLink RX5 50 RX2 ∈ wAll := wA 173 (by decide +kernel) (by decide +kernel)
theorem kf_X5_53 : Cond.fieldLink RX5 53 "Feedloom" "marks" "LFeedloom$Marks;" ∈ wAll := wA 197 (by decide +kernel) (by decide +kernel)
theorem kf_X5_57 : Cond.fieldLink RX5 57 "Feedloom" "shown" "[I" ∈ wAll := wA 198 (by decide +kernel) (by decide +kernel)
theorem kf_X5_61 : Cond.fieldLink RX5 61 "Feedloom" "shownAnew" "[I" ∈ wAll := wA 199 (by decide +kernel) (by decide +kernel)
theorem kc_X5_64 : Cond.classLink RX5 64 "java/lang/IllegalArgumentException" ∈ wAll := wA 317 (by decide +kernel) (by decide +kernel)
theorem kk_X5_71 : Cond.constant RX5 71 (99999) ∈ wAll := wA 388 (by decide +kernel) (by decide +kernel)
theorem kc_X5_72 : Cond.classLink RX5 72 "java/lang/IllegalStateException" ∈ wAll := wA 389 (by decide +kernel) (by decide +kernel)
theorem km_X5_83 : Cond.methodLink RX5 83 yX5_percentInCommon ∈ wAll := wA 429 (by decide +kernel) (by decide +kernel)
theorem kc_X5_89 : Cond.classLink RX5 89 "java/lang/IndexOutOfBoundsException" ∈ wAll := wA 477 (by decide +kernel) (by decide +kernel)
theorem km_X5_94 : Cond.methodLink RX5 94 yX5_isKeyOrNone ∈ wAll := wA 490 (by decide +kernel) (by decide +kernel)
theorem km_X5_98 : Cond.methodLink RX5 98 yX5_isMinuteOrNone ∈ wAll := wA 493 (by decide +kernel) (by decide +kernel)
theorem km_X5_103 : Cond.methodLink RX5 103 yX5_findFetched ∈ wAll := wA 497 (by decide +kernel) (by decide +kernel)
theorem km_X5_107 : Cond.methodLink RX5 107 yX5_timeFrom ∈ wAll := wA 515 (by decide +kernel) (by decide +kernel)
theorem km_X5_111 : Cond.methodLink RX5 111 yX1_append ∈ wAll := wA 519 (by decide +kernel) (by decide +kernel)
theorem km_X5_117 : Cond.methodLink RX5 117 yX1_renew ∈ wAll := wA 528 (by decide +kernel) (by decide +kernel)
theorem km_X5_121 : Cond.methodLink RX5 121 yX1_addTeller ∈ wAll := wA 532 (by decide +kernel) (by decide +kernel)
theorem km_X5_125 : Cond.methodLink RX5 125 yX1_claimPair ∈ wAll := wA 536 (by decide +kernel) (by decide +kernel)
theorem km_X5_129 : Cond.methodLink RX5 129 yX1_claimLink ∈ wAll := wA 541 (by decide +kernel) (by decide +kernel)
theorem km_X5_132 : Cond.methodLink RX5 132 yX1_size ∈ wAll := wA 231 (by decide +kernel) (by decide +kernel)
theorem km_X5_136 : Cond.methodLink RX5 136 yX1_ownerOfPair ∈ wAll := wA 501 (by decide +kernel) (by decide +kernel)
theorem kc_X5_140 : Cond.classLink RX5 140 "java/util/NoSuchElementException" ∈ wAll := wA 554 (by decide +kernel) (by decide +kernel)
theorem km_X5_145 : Cond.methodLink RX5 145 yX1_ownerOfLink ∈ wAll := wA 505 (by decide +kernel) (by decide +kernel)
theorem km_X5_150 : Cond.methodLink RX5 150 yX5_requireItem ∈ wAll := wA 585 (by decide +kernel) (by decide +kernel)
theorem km_X5_154 : Cond.methodLink RX5 154 yX1_keepsTitle ∈ wAll := wA 590 (by decide +kernel) (by decide +kernel)
theorem km_X5_160 : Cond.methodLink RX5 160 yX1_titleAt ∈ wAll := wA 595 (by decide +kernel) (by decide +kernel)
theorem km_X5_164 : Cond.methodLink RX5 164 yX1_versionCount ∈ wAll := wA 603 (by decide +kernel) (by decide +kernel)
theorem km_X5_167 : Cond.methodLink RX5 167 yX1_major ∈ wAll := wA 614 (by decide +kernel) (by decide +kernel)
theorem km_X5_170 : Cond.methodLink RX5 170 yX1_tellers ∈ wAll := wA 263 (by decide +kernel) (by decide +kernel)
theorem km_X5_173 : Cond.methodLink RX5 173 yX1_time ∈ wAll := wA 632 (by decide +kernel) (by decide +kernel)
theorem km_X5_176 : Cond.methodLink RX5 176 yX5_isTagOrNone ∈ wAll := wA 643 (by decide +kernel) (by decide +kernel)
theorem km_X5_181 : Cond.methodLink RX5 181 yX4_append ∈ wAll := wA 647 (by decide +kernel) (by decide +kernel)
theorem km_X5_186 : Cond.methodLink RX5 186 yX5_requireRule ∈ wAll := wA 659 (by decide +kernel) (by decide +kernel)
theorem km_X5_189 : Cond.methodLink RX5 189 yX4_remove ∈ wAll := wA 664 (by decide +kernel) (by decide +kernel)
theorem km_X5_192 : Cond.methodLink RX5 192 yX4_size ∈ wAll := wA 285 (by decide +kernel) (by decide +kernel)
theorem km_X5_193 : Cond.methodLink RX5 193 yX5_outcomeOf ∈ wAll := wA 267 (by decide +kernel) (by decide +kernel)
theorem km_X5_196 : Cond.methodLink RX5 196 yX1_latestTitle ∈ wAll := wA 271 (by decide +kernel) (by decide +kernel)
theorem km_X5_200 : Cond.methodLink RX5 200 yX4_outcome ∈ wAll := wA 289 (by decide +kernel) (by decide +kernel)
theorem km_X5_203 : Cond.methodLink RX5 203 yX4_holds ∈ wAll := wA 689 (by decide +kernel) (by decide +kernel)
theorem km_X5_209 : Cond.methodLink RX5 209 yX3_append ∈ wAll := wA 698 (by decide +kernel) (by decide +kernel)
theorem km_X5_213 : Cond.methodLink RX5 213 yX5_requireRiver ∈ wAll := wA 710 (by decide +kernel) (by decide +kernel)
theorem km_X5_216 : Cond.methodLink RX5 216 yX1_keptOrder ∈ wAll := wA 255 (by decide +kernel) (by decide +kernel)
theorem km_X5_220 : Cond.methodLink RX5 220 yX5_gather ∈ wAll := wA 259 (by decide +kernel) (by decide +kernel)
theorem km_X5_224 : Cond.methodLink RX5 224 yX5_shownAt ∈ wAll := wA 722 (by decide +kernel) (by decide +kernel)
theorem km_X5_228 : Cond.methodLink RX5 228 yX1_orderAnew ∈ wAll := wA 239 (by decide +kernel) (by decide +kernel)
theorem km_X5_233 : Cond.methodLink RX5 233 yX5_countUnread ∈ wAll := wA 749 (by decide +kernel) (by decide +kernel)
theorem km_X5_236 : Cond.methodLink RX5 236 yX5_isReadByReader ∈ wAll := wA 753 (by decide +kernel) (by decide +kernel)
theorem kc_X5_241 : Cond.classLink RX5 241 "java/lang/ArithmeticException" ∈ wAll := wA 790 (by decide +kernel) (by decide +kernel)
theorem km_X5_246 : Cond.methodLink RX5 246 yX0_append ∈ wAll := wA 800 (by decide +kernel) (by decide +kernel)
theorem km_X5_250 : Cond.methodLink RX5 250 yX5_bringUpToDate ∈ wAll := wA 805 (by decide +kernel) (by decide +kernel)
theorem km_X5_253 : Cond.methodLink RX5 253 yX5_requireDevice ∈ wAll := wA 824 (by decide +kernel) (by decide +kernel)
theorem km_X5_256 : Cond.methodLink RX5 256 yX5_requireKnown ∈ wAll := wA 833 (by decide +kernel) (by decide +kernel)
theorem km_X5_259 : Cond.methodLink RX5 259 yX5_markKnown ∈ wAll := wA 846 (by decide +kernel) (by decide +kernel)
theorem km_X5_263 : Cond.methodLink RX5 263 yX0_knows ∈ wAll := wA 837 (by decide +kernel) (by decide +kernel)
theorem km_X5_266 : Cond.methodLink RX5 266 yX2_beats ∈ wAll := wA 877 (by decide +kernel) (by decide +kernel)
theorem km_X5_270 : Cond.methodLink RX5 270 yX2_copy ∈ wAll := wA 809 (by decide +kernel) (by decide +kernel)
theorem km_X5_273 : Cond.methodLink RX5 273 yX5_isReadByDevice ∈ wAll := wA 850 (by decide +kernel) (by decide +kernel)
theorem km_X5_276 : Cond.methodLink RX5 276 yX0_versionCount ∈ wAll := wA 858 (by decide +kernel) (by decide +kernel)
theorem km_X5_280 : Cond.methodLink RX5 280 yX3_size ∈ wAll := wA 247 (by decide +kernel) (by decide +kernel)
theorem km_X5_281 : Cond.methodLink RX5 281 yX5_isSoundRiver ∈ wAll := wA 251 (by decide +kernel) (by decide +kernel)
theorem km_X5_291 : Cond.methodLink RX5 291 yX0_size ∈ wAll := wA 828 (by decide +kernel) (by decide +kernel)
theorem km_X5_296 : Cond.methodLink RX5 296 yJ13_bitCount_95d88 ∈ wAll := wA 432 (by decide +kernel) (by decide +kernel)
theorem km_X5_302 : Cond.methodLink RX5 302 yX1_mostAlike ∈ wAll := wA 509 (by decide +kernel) (by decide +kernel)
theorem km_X5_305 : Cond.methodLink RX5 305 yX3_takes ∈ wAll := wA 303 (by decide +kernel) (by decide +kernel)
theorem km_X5_310 : Cond.methodLink RX5 310 yX2_saysRead ∈ wAll := wA 757 (by decide +kernel) (by decide +kernel)
theorem km_X5_313 : Cond.methodLink RX5 313 yX0_major ∈ wAll := wA 854 (by decide +kernel) (by decide +kernel)
theorem km_X5_315 : Cond.methodLink RX5 315 yX2_put ∈ wAll := wA 859 (by decide +kernel) (by decide +kernel)
theorem km_X5_319 : Cond.methodLink RX5 319 yX0_learn ∈ wAll := wA 813 (by decide +kernel) (by decide +kernel)
theorem km_X0_3 : Cond.methodLink RX0 3 objectInit ∈ wAll := wA 162 (by decide +kernel) (by decide +kernel)
theorem kf_X0_9 : Cond.fieldLink RX0 9 "Feedloom$Devices" "count" "I" ∈ wAll := wA 163 (by decide +kernel) (by decide +kernel)
theorem kf_X0_15 : Cond.fieldLink RX0 15 "Feedloom$Devices" "versionCounts" "[I" ∈ wAll := wA 164 (by decide +kernel) (by decide +kernel)
theorem kf_X0_19 : Cond.fieldLink RX0 19 "Feedloom$Devices" "majors" "[I" ∈ wAll := wA 165 (by decide +kernel) (by decide +kernel)
theorem km_X0_22 : Cond.methodLink RX0 22 yX0_versionCount ∈ wAll := wA 841 (by decide +kernel) (by decide +kernel)
theorem km_X1_3 : Cond.methodLink RX1 3 objectInit ∈ wAll := wA 79 (by decide +kernel) (by decide +kernel)
theorem kf_X1_9 : Cond.fieldLink RX1 9 "Feedloom$Items" "count" "I" ∈ wAll := wA 80 (by decide +kernel) (by decide +kernel)
theorem kf_X1_15 : Cond.fieldLink RX1 15 "Feedloom$Items" "seenAt" "[I" ∈ wAll := wA 81 (by decide +kernel) (by decide +kernel)
theorem kf_X1_19 : Cond.fieldLink RX1 19 "Feedloom$Items" "times" "[I" ∈ wAll := wA 82 (by decide +kernel) (by decide +kernel)
theorem kf_X1_22 : Cond.fieldLink RX1 22 "Feedloom$Items" "tellers" "[I" ∈ wAll := wA 83 (by decide +kernel) (by decide +kernel)
theorem kf_X1_25 : Cond.fieldLink RX1 25 "Feedloom$Items" "versionCounts" "[I" ∈ wAll := wA 84 (by decide +kernel) (by decide +kernel)
theorem kf_X1_28 : Cond.fieldLink RX1 28 "Feedloom$Items" "majors" "[I" ∈ wAll := wA 85 (by decide +kernel) (by decide +kernel)
theorem kf_X1_31 : Cond.fieldLink RX1 31 "Feedloom$Items" "titles" "[J" ∈ wAll := wA 86 (by decide +kernel) (by decide +kernel)
theorem kf_X1_35 : Cond.fieldLink RX1 35 "Feedloom$Items" "order" "[I" ∈ wAll := wA 87 (by decide +kernel) (by decide +kernel)
theorem kf_X1_38 : Cond.fieldLink RX1 38 "Feedloom$Items" "anew" "[I" ∈ wAll := wA 88 (by decide +kernel) (by decide +kernel)
theorem kf_X1_41 : Cond.fieldLink RX1 41 "Feedloom$Items" "pairOwners" "[I" ∈ wAll := wA 89 (by decide +kernel) (by decide +kernel)
theorem kf_X1_44 : Cond.fieldLink RX1 44 "Feedloom$Items" "linkOwners" "[I" ∈ wAll := wA 90 (by decide +kernel) (by decide +kernel)
theorem km_X1_47 : Cond.methodLink RX1 47 yX1_placeOfTitle ∈ wAll := wA 279 (by decide +kernel) (by decide +kernel)
theorem km_X1_51 : Cond.methodLink RX1 51 yX1_titleAt ∈ wAll := wA 275 (by decide +kernel) (by decide +kernel)
theorem km_X1_55 : Cond.methodLink RX1 55 yJ9_floorMod_7cf53 ∈ wAll := wA 282 (by decide +kernel) (by decide +kernel)
theorem km_X1_60 : Cond.methodLink RX1 60 yX1_latestTitle ∈ wAll := wA 513 (by decide +kernel) (by decide +kernel)
theorem km_X1_68 : Cond.methodLink RX1 68 yX1_keepInOrder ∈ wAll := wA 523 (by decide +kernel) (by decide +kernel)
theorem km_X1_72 : Cond.methodLink RX1 72 yX1_isAhead ∈ wAll := wA 243 (by decide +kernel) (by decide +kernel)
theorem km_X1_76 : Cond.methodLink RX1 76 yX1_ownerOfPair ∈ wAll := wA 540 (by decide +kernel) (by decide +kernel)
theorem km_X1_79 : Cond.methodLink RX1 79 yX1_ownerOfLink ∈ wAll := wA 545 (by decide +kernel) (by decide +kernel)
theorem km_X2_3 : Cond.methodLink RX2 3 objectInit ∈ wAll := wA 178 (by decide +kernel) (by decide +kernel)
theorem kf_X2_9 : Cond.fieldLink RX2 9 "Feedloom$Marks" "kinds" "[I" ∈ wAll := wA 179 (by decide +kernel) (by decide +kernel)
theorem kf_X2_15 : Cond.fieldLink RX2 15 "Feedloom$Marks" "minutes" "[I" ∈ wAll := wA 180 (by decide +kernel) (by decide +kernel)
theorem kf_X2_18 : Cond.fieldLink RX2 18 "Feedloom$Marks" "versions" "[I" ∈ wAll := wA 181 (by decide +kernel) (by decide +kernel)
theorem km_X3_3 : Cond.methodLink RX3 3 objectInit ∈ wAll := wA 146 (by decide +kernel) (by decide +kernel)
theorem kf_X3_9 : Cond.fieldLink RX3 9 "Feedloom$Rivers" "count" "I" ∈ wAll := wA 147 (by decide +kernel) (by decide +kernel)
theorem kf_X3_15 : Cond.fieldLink RX3 15 "Feedloom$Rivers" "sources" "[I" ∈ wAll := wA 148 (by decide +kernel) (by decide +kernel)
theorem kf_X3_19 : Cond.fieldLink RX3 19 "Feedloom$Rivers" "tags" "[I" ∈ wAll := wA 149 (by decide +kernel) (by decide +kernel)
theorem km_X4_3 : Cond.methodLink RX4 3 objectInit ∈ wAll := wA 121 (by decide +kernel) (by decide +kernel)
theorem kf_X4_9 : Cond.fieldLink RX4 9 "Feedloom$Rules" "count" "I" ∈ wAll := wA 122 (by decide +kernel) (by decide +kernel)
theorem kf_X4_15 : Cond.fieldLink RX4 15 "Feedloom$Rules" "allWords" "[J" ∈ wAll := wA 123 (by decide +kernel) (by decide +kernel)
theorem kf_X4_19 : Cond.fieldLink RX4 19 "Feedloom$Rules" "anyWords" "[J" ∈ wAll := wA 124 (by decide +kernel) (by decide +kernel)
theorem kf_X4_22 : Cond.fieldLink RX4 22 "Feedloom$Rules" "sources" "[I" ∈ wAll := wA 125 (by decide +kernel) (by decide +kernel)
theorem kf_X4_26 : Cond.fieldLink RX4 26 "Feedloom$Rules" "tags" "[I" ∈ wAll := wA 126 (by decide +kernel) (by decide +kernel)
theorem kf_X4_29 : Cond.fieldLink RX4 29 "Feedloom$Rules" "actions" "[I" ∈ wAll := wA 127 (by decide +kernel) (by decide +kernel)
theorem km_X4_32 : Cond.methodLink RX4 32 yX4_holds ∈ wAll := wA 293 (by decide +kernel) (by decide +kernel)
theorem km_X4_36 : Cond.methodLink RX4 36 yX4_act ∈ wAll := wA 300 (by decide +kernel) (by decide +kernel)
theorem km_L_7 : Cond.methodLink RL 7 yX5_pass ∈ wAll := wA 313 (by decide +kernel) (by decide +kernel)
theorem kc_L_8 : Cond.classLink RL 8 RX5 ∈ wAll := wA 66 (by decide +kernel) (by decide +kernel)
theorem kc_L_13 : Cond.classLink RL 13 "java/lang/IllegalArgumentException" ∈ wAll := wA 311 (by decide +kernel) (by decide +kernel)
theorem kc_L_15 : Cond.classLink RL 15 "java/lang/IllegalStateException" ∈ wAll := wA 312 (by decide +kernel) (by decide +kernel)
theorem km_L_17 : Cond.methodLink RL 17 yX5_setThreshold ∈ wAll := wA 408 (by decide +kernel) (by decide +kernel)
theorem km_L_20 : Cond.methodLink RL 20 yX5_setWindow ∈ wAll := wA 416 (by decide +kernel) (by decide +kernel)
theorem km_L_23 : Cond.methodLink RL 23 yX5_likeness ∈ wAll := wA 424 (by decide +kernel) (by decide +kernel)
theorem km_L_27 : Cond.methodLink RL 27 yX5_addSource ∈ wAll := wA 441 (by decide +kernel) (by decide +kernel)
theorem km_L_31 : Cond.methodLink RL 31 yX5_fetch ∈ wAll := wA 473 (by decide +kernel) (by decide +kernel)
theorem kc_L_35 : Cond.classLink RL 35 "java/lang/IndexOutOfBoundsException" ∈ wAll := wA 449 (by decide +kernel) (by decide +kernel)
theorem km_L_37 : Cond.methodLink RL 37 yX5_withIdentifier ∈ wAll := wA 550 (by decide +kernel) (by decide +kernel)
theorem kc_L_41 : Cond.classLink RL 41 "java/util/NoSuchElementException" ∈ wAll := wA 549 (by decide +kernel) (by decide +kernel)
theorem km_L_43 : Cond.methodLink RL 43 yX5_withLink ∈ wAll := wA 573 (by decide +kernel) (by decide +kernel)
theorem km_L_46 : Cond.methodLink RL 46 yX5_title ∈ wAll := wA 581 (by decide +kernel) (by decide +kernel)
theorem km_L_50 : Cond.methodLink RL 50 yX5_versions ∈ wAll := wA 599 (by decide +kernel) (by decide +kernel)
theorem km_L_53 : Cond.methodLink RL 53 yX5_latestMajor ∈ wAll := wA 610 (by decide +kernel) (by decide +kernel)
theorem km_L_56 : Cond.methodLink RL 56 yX5_sourcesOf ∈ wAll := wA 621 (by decide +kernel) (by decide +kernel)
theorem km_L_59 : Cond.methodLink RL 59 yX5_timeOf ∈ wAll := wA 628 (by decide +kernel) (by decide +kernel)
theorem km_L_62 : Cond.methodLink RL 62 yX5_addRule ∈ wAll := wA 639 (by decide +kernel) (by decide +kernel)
theorem km_L_66 : Cond.methodLink RL 66 yX5_dropRule ∈ wAll := wA 655 (by decide +kernel) (by decide +kernel)
theorem km_L_69 : Cond.methodLink RL 69 yX5_tagsOf ∈ wAll := wA 671 (by decide +kernel) (by decide +kernel)
theorem km_L_72 : Cond.methodLink RL 72 yX5_isHidden ∈ wAll := wA 678 (by decide +kernel) (by decide +kernel)
theorem km_L_76 : Cond.methodLink RL 76 yX5_matches ∈ wAll := wA 685 (by decide +kernel) (by decide +kernel)
theorem km_L_79 : Cond.methodLink RL 79 yX5_addRiver ∈ wAll := wA 693 (by decide +kernel) (by decide +kernel)
theorem km_L_82 : Cond.methodLink RL 82 yX5_riverSize ∈ wAll := wA 706 (by decide +kernel) (by decide +kernel)
theorem km_L_85 : Cond.methodLink RL 85 yX5_riverAt ∈ wAll := wA 718 (by decide +kernel) (by decide +kernel)
theorem km_L_88 : Cond.methodLink RL 88 yX5_riverAtAnew ∈ wAll := wA 730 (by decide +kernel) (by decide +kernel)
theorem km_L_91 : Cond.methodLink RL 91 yX5_rankOf ∈ wAll := wA 737 (by decide +kernel) (by decide +kernel)
theorem km_L_94 : Cond.methodLink RL 94 yX5_unread ∈ wAll := wA 745 (by decide +kernel) (by decide +kernel)
theorem km_L_97 : Cond.methodLink RL 97 yX5_nextUnread ∈ wAll := wA 764 (by decide +kernel) (by decide +kernel)
theorem km_L_100 : Cond.methodLink RL 100 yX5_readShare ∈ wAll := wA 786 (by decide +kernel) (by decide +kernel)
theorem kc_L_104 : Cond.classLink RL 104 "java/lang/ArithmeticException" ∈ wAll := wA 772 (by decide +kernel) (by decide +kernel)
theorem km_L_106 : Cond.methodLink RL 106 yX5_addDevice ∈ wAll := wA 796 (by decide +kernel) (by decide +kernel)
theorem km_L_109 : Cond.methodLink RL 109 yX5_mark ∈ wAll := wA 820 (by decide +kernel) (by decide +kernel)
theorem km_L_113 : Cond.methodLink RL 113 yX5_markRiver ∈ wAll := wA 866 (by decide +kernel) (by decide +kernel)
theorem km_L_116 : Cond.methodLink RL 116 yX5_sync ∈ wAll := wA 873 (by decide +kernel) (by decide +kernel)
theorem km_L_119 : Cond.methodLink RL 119 yX5_isRead ∈ wAll := wA 884 (by decide +kernel) (by decide +kernel)
theorem km_L_122 : Cond.methodLink RL 122 yX5_isReadOn ∈ wAll := wA 891 (by decide +kernel) (by decide +kernel)
theorem km_L_126 : Cond.methodLink RL 126 yX5_knownVersions ∈ wAll := wA 898 (by decide +kernel) (by decide +kernel)
theorem km_L_129 : Cond.methodLink RL 129 yX5_meanVersions ∈ wAll := wA 905 (by decide +kernel) (by decide +kernel)
theorem km_L_133 : Cond.methodLink RL 133 yX5_init ∈ wAll := wA 68 (by decide +kernel) (by decide +kernel)
theorem kc_L_134 : Cond.classLink RL 134 RX6 ∈ wAll := wA 910 (by decide +kernel) (by decide +kernel)
theorem km_L_136 : Cond.methodLink RL 136 yX6_init ∈ wAll := wA 912 (by decide +kernel) (by decide +kernel)
theorem km_L_137 : Cond.methodLink RL 137 yL_pass ∈ wAll := wA 308 (by decide +kernel) (by decide +kernel)
theorem km_L_142 : Cond.methodLink RL 142 yX6_pass ∈ wAll := wA 1032 (by decide +kernel) (by decide +kernel)
theorem km_L_143 : Cond.methodLink RL 143 yX6_thrown ∈ wAll := wA 1028 (by decide +kernel) (by decide +kernel)
theorem km_L_146 : Cond.methodLink RL 146 yX5_now ∈ wAll := wA 223 (by decide +kernel) (by decide +kernel)
theorem km_L_149 : Cond.methodLink RL 149 yX6_now ∈ wAll := wA 1040 (by decide +kernel) (by decide +kernel)
theorem km_L_150 : Cond.methodLink RL 150 yL_setThreshold ∈ wAll := wA 405 (by decide +kernel) (by decide +kernel)
theorem km_L_152 : Cond.methodLink RL 152 yX6_setThreshold ∈ wAll := wA 1048 (by decide +kernel) (by decide +kernel)
theorem km_L_153 : Cond.methodLink RL 153 yL_setWindow ∈ wAll := wA 413 (by decide +kernel) (by decide +kernel)
theorem km_L_155 : Cond.methodLink RL 155 yX6_setWindow ∈ wAll := wA 1056 (by decide +kernel) (by decide +kernel)
theorem kk_L_156 : Cond.constantLong RL 156 (4294967295) ∈ wAll := wA 1299 (by decide +kernel) (by decide +kernel)
theorem km_L_158 : Cond.methodLink RL 158 yL_likeness ∈ wAll := wA 421 (by decide +kernel) (by decide +kernel)
theorem km_L_161 : Cond.methodLink RL 161 yX6_likeness ∈ wAll := wA 1060 (by decide +kernel) (by decide +kernel)
theorem km_L_162 : Cond.methodLink RL 162 yL_addSource ∈ wAll := wA 438 (by decide +kernel) (by decide +kernel)
theorem km_L_165 : Cond.methodLink RL 165 yX6_addSource ∈ wAll := wA 1070 (by decide +kernel) (by decide +kernel)
theorem km_L_166 : Cond.methodLink RL 166 yL_fetch ∈ wAll := wA 446 (by decide +kernel) (by decide +kernel)
theorem km_L_169 : Cond.methodLink RL 169 yX6_fetch ∈ wAll := wA 1074 (by decide +kernel) (by decide +kernel)
theorem km_L_170 : Cond.methodLink RL 170 yX5_items ∈ wAll := wA 227 (by decide +kernel) (by decide +kernel)
theorem km_L_173 : Cond.methodLink RL 173 yX6_items ∈ wAll := wA 1106 (by decide +kernel) (by decide +kernel)
theorem km_L_174 : Cond.methodLink RL 174 yL_withIdentifier ∈ wAll := wA 546 (by decide +kernel) (by decide +kernel)
theorem km_L_177 : Cond.methodLink RL 177 yX6_withIdentifier ∈ wAll := wA 1110 (by decide +kernel) (by decide +kernel)
theorem km_L_178 : Cond.methodLink RL 178 yL_withLink ∈ wAll := wA 570 (by decide +kernel) (by decide +kernel)
theorem km_L_180 : Cond.methodLink RL 180 yX6_withLink ∈ wAll := wA 1114 (by decide +kernel) (by decide +kernel)
theorem km_L_181 : Cond.methodLink RL 181 yL_title ∈ wAll := wA 578 (by decide +kernel) (by decide +kernel)
theorem km_L_183 : Cond.methodLink RL 183 yX6_title ∈ wAll := wA 1118 (by decide +kernel) (by decide +kernel)
theorem km_L_184 : Cond.methodLink RL 184 yL_versions ∈ wAll := wA 596 (by decide +kernel) (by decide +kernel)
theorem km_L_186 : Cond.methodLink RL 186 yX6_versions ∈ wAll := wA 1126 (by decide +kernel) (by decide +kernel)
theorem km_L_187 : Cond.methodLink RL 187 yL_latestMajor ∈ wAll := wA 607 (by decide +kernel) (by decide +kernel)
theorem km_L_189 : Cond.methodLink RL 189 yX6_latestMajor ∈ wAll := wA 1130 (by decide +kernel) (by decide +kernel)
theorem km_L_190 : Cond.methodLink RL 190 yL_sourcesOf ∈ wAll := wA 618 (by decide +kernel) (by decide +kernel)
theorem km_L_192 : Cond.methodLink RL 192 yX6_sourcesOf ∈ wAll := wA 1134 (by decide +kernel) (by decide +kernel)
theorem km_L_193 : Cond.methodLink RL 193 yL_timeOf ∈ wAll := wA 625 (by decide +kernel) (by decide +kernel)
theorem km_L_195 : Cond.methodLink RL 195 yX6_timeOf ∈ wAll := wA 1138 (by decide +kernel) (by decide +kernel)
theorem km_L_196 : Cond.methodLink RL 196 yL_addRule ∈ wAll := wA 636 (by decide +kernel) (by decide +kernel)
theorem km_L_199 : Cond.methodLink RL 199 yX6_addRule ∈ wAll := wA 1142 (by decide +kernel) (by decide +kernel)
theorem km_L_200 : Cond.methodLink RL 200 yL_dropRule ∈ wAll := wA 652 (by decide +kernel) (by decide +kernel)
theorem km_L_202 : Cond.methodLink RL 202 yX6_dropRule ∈ wAll := wA 1146 (by decide +kernel) (by decide +kernel)
theorem km_L_203 : Cond.methodLink RL 203 yL_tagsOf ∈ wAll := wA 668 (by decide +kernel) (by decide +kernel)
theorem km_L_205 : Cond.methodLink RL 205 yX6_tagsOf ∈ wAll := wA 1150 (by decide +kernel) (by decide +kernel)
theorem km_L_206 : Cond.methodLink RL 206 yL_isHidden ∈ wAll := wA 675 (by decide +kernel) (by decide +kernel)
theorem km_L_208 : Cond.methodLink RL 208 yX6_isHidden ∈ wAll := wA 1162 (by decide +kernel) (by decide +kernel)
theorem km_L_209 : Cond.methodLink RL 209 yL_matches ∈ wAll := wA 682 (by decide +kernel) (by decide +kernel)
theorem km_L_211 : Cond.methodLink RL 211 yX6_matches ∈ wAll := wA 1166 (by decide +kernel) (by decide +kernel)
theorem km_L_212 : Cond.methodLink RL 212 yL_addRiver ∈ wAll := wA 690 (by decide +kernel) (by decide +kernel)
theorem km_L_214 : Cond.methodLink RL 214 yX6_addRiver ∈ wAll := wA 1170 (by decide +kernel) (by decide +kernel)
theorem km_L_215 : Cond.methodLink RL 215 yL_riverSize ∈ wAll := wA 703 (by decide +kernel) (by decide +kernel)
theorem km_L_217 : Cond.methodLink RL 217 yX6_riverSize ∈ wAll := wA 1174 (by decide +kernel) (by decide +kernel)
theorem km_L_218 : Cond.methodLink RL 218 yL_riverAt ∈ wAll := wA 715 (by decide +kernel) (by decide +kernel)
theorem km_L_220 : Cond.methodLink RL 220 yX6_riverAt ∈ wAll := wA 1190 (by decide +kernel) (by decide +kernel)
theorem km_L_221 : Cond.methodLink RL 221 yL_riverAtAnew ∈ wAll := wA 727 (by decide +kernel) (by decide +kernel)
theorem km_L_223 : Cond.methodLink RL 223 yX6_riverAtAnew ∈ wAll := wA 1202 (by decide +kernel) (by decide +kernel)
theorem km_L_224 : Cond.methodLink RL 224 yL_rankOf ∈ wAll := wA 734 (by decide +kernel) (by decide +kernel)
theorem km_L_226 : Cond.methodLink RL 226 yX6_rankOf ∈ wAll := wA 1207 (by decide +kernel) (by decide +kernel)
theorem km_L_227 : Cond.methodLink RL 227 yL_unread ∈ wAll := wA 742 (by decide +kernel) (by decide +kernel)
theorem km_L_229 : Cond.methodLink RL 229 yX6_unread ∈ wAll := wA 1211 (by decide +kernel) (by decide +kernel)
theorem km_L_230 : Cond.methodLink RL 230 yL_nextUnread ∈ wAll := wA 761 (by decide +kernel) (by decide +kernel)
theorem km_L_232 : Cond.methodLink RL 232 yX6_nextUnread ∈ wAll := wA 1227 (by decide +kernel) (by decide +kernel)
theorem km_L_233 : Cond.methodLink RL 233 yL_readShare ∈ wAll := wA 769 (by decide +kernel) (by decide +kernel)
theorem km_L_236 : Cond.methodLink RL 236 yX6_readShare ∈ wAll := wA 1231 (by decide +kernel) (by decide +kernel)
theorem km_L_237 : Cond.methodLink RL 237 yL_addDevice ∈ wAll := wA 793 (by decide +kernel) (by decide +kernel)
theorem km_L_239 : Cond.methodLink RL 239 yX6_addDevice ∈ wAll := wA 1235 (by decide +kernel) (by decide +kernel)
theorem km_L_240 : Cond.methodLink RL 240 yL_mark ∈ wAll := wA 817 (by decide +kernel) (by decide +kernel)
theorem km_L_243 : Cond.methodLink RL 243 yX6_mark ∈ wAll := wA 1247 (by decide +kernel) (by decide +kernel)
theorem km_L_244 : Cond.methodLink RL 244 yL_markRiver ∈ wAll := wA 863 (by decide +kernel) (by decide +kernel)
theorem km_L_246 : Cond.methodLink RL 246 yX6_markRiver ∈ wAll := wA 1267 (by decide +kernel) (by decide +kernel)
theorem km_L_247 : Cond.methodLink RL 247 yL_sync ∈ wAll := wA 870 (by decide +kernel) (by decide +kernel)
theorem km_L_249 : Cond.methodLink RL 249 yX6_sync ∈ wAll := wA 1271 (by decide +kernel) (by decide +kernel)
theorem km_L_250 : Cond.methodLink RL 250 yL_isRead ∈ wAll := wA 881 (by decide +kernel) (by decide +kernel)
theorem km_L_252 : Cond.methodLink RL 252 yX6_isRead ∈ wAll := wA 1279 (by decide +kernel) (by decide +kernel)
theorem km_L_253 : Cond.methodLink RL 253 yL_isReadOn ∈ wAll := wA 888 (by decide +kernel) (by decide +kernel)
theorem km_L_255 : Cond.methodLink RL 255 yX6_isReadOn ∈ wAll := wA 1283 (by decide +kernel) (by decide +kernel)
theorem km_L_256 : Cond.methodLink RL 256 yL_knownVersions ∈ wAll := wA 895 (by decide +kernel) (by decide +kernel)
theorem km_L_258 : Cond.methodLink RL 258 yX6_knownVersions ∈ wAll := wA 1287 (by decide +kernel) (by decide +kernel)
theorem km_L_259 : Cond.methodLink RL 259 yL_meanVersions ∈ wAll := wA 902 (by decide +kernel) (by decide +kernel)
theorem km_L_262 : Cond.methodLink RL 262 yX6_meanVersions ∈ wAll := wA 1291 (by decide +kernel) (by decide +kernel)
theorem km_L_263 : Cond.methodLink RL 263 yX5_isSound ∈ wAll := wA 235 (by decide +kernel) (by decide +kernel)
theorem km_L_267 : Cond.methodLink RL 267 yX6_isSound ∈ wAll := wA 1295 (by decide +kernel) (by decide +kernel)
theorem km_X6_1 : Cond.methodLink RX6 1 objectInit ∈ wAll := wA 915 (by decide +kernel) (by decide +kernel)
theorem kf_X6_7 : Cond.fieldLink RX6 7 "FeedloomModel" "titles" "[J" ∈ wAll := wA 916 (by decide +kernel) (by decide +kernel)
theorem kf_X6_13 : Cond.fieldLink RX6 13 "FeedloomModel" "alls" "[J" ∈ wAll := wA 917 (by decide +kernel) (by decide +kernel)
theorem kf_X6_16 : Cond.fieldLink RX6 16 "FeedloomModel" "anys" "[J" ∈ wAll := wA 918 (by decide +kernel) (by decide +kernel)
theorem kf_X6_19 : Cond.fieldLink RX6 19 "FeedloomModel" "seens" "[I" ∈ wAll := wA 919 (by decide +kernel) (by decide +kernel)
theorem kf_X6_23 : Cond.fieldLink RX6 23 "FeedloomModel" "times" "[I" ∈ wAll := wA 920 (by decide +kernel) (by decide +kernel)
theorem kf_X6_26 : Cond.fieldLink RX6 26 "FeedloomModel" "tellers" "[I" ∈ wAll := wA 921 (by decide +kernel) (by decide +kernel)
theorem kf_X6_29 : Cond.fieldLink RX6 29 "FeedloomModel" "versions" "[I" ∈ wAll := wA 922 (by decide +kernel) (by decide +kernel)
theorem kf_X6_32 : Cond.fieldLink RX6 32 "FeedloomModel" "majors" "[I" ∈ wAll := wA 923 (by decide +kernel) (by decide +kernel)
theorem kf_X6_35 : Cond.fieldLink RX6 35 "FeedloomModel" "pairSources" "[I" ∈ wAll := wA 924 (by decide +kernel) (by decide +kernel)
theorem kf_X6_38 : Cond.fieldLink RX6 38 "FeedloomModel" "pairNames" "[I" ∈ wAll := wA 925 (by decide +kernel) (by decide +kernel)
theorem kf_X6_41 : Cond.fieldLink RX6 41 "FeedloomModel" "pairItems" "[I" ∈ wAll := wA 926 (by decide +kernel) (by decide +kernel)
theorem kf_X6_44 : Cond.fieldLink RX6 44 "FeedloomModel" "links" "[I" ∈ wAll := wA 927 (by decide +kernel) (by decide +kernel)
theorem kf_X6_47 : Cond.fieldLink RX6 47 "FeedloomModel" "linkItems" "[I" ∈ wAll := wA 928 (by decide +kernel) (by decide +kernel)
theorem kf_X6_50 : Cond.fieldLink RX6 50 "FeedloomModel" "ruleSources" "[I" ∈ wAll := wA 929 (by decide +kernel) (by decide +kernel)
theorem kf_X6_53 : Cond.fieldLink RX6 53 "FeedloomModel" "ruleTags" "[I" ∈ wAll := wA 930 (by decide +kernel) (by decide +kernel)
theorem kf_X6_56 : Cond.fieldLink RX6 56 "FeedloomModel" "actions" "[I" ∈ wAll := wA 931 (by decide +kernel) (by decide +kernel)
theorem kf_X6_59 : Cond.fieldLink RX6 59 "FeedloomModel" "riverSources" "[I" ∈ wAll := wA 932 (by decide +kernel) (by decide +kernel)
theorem kf_X6_62 : Cond.fieldLink RX6 62 "FeedloomModel" "riverTags" "[I" ∈ wAll := wA 933 (by decide +kernel) (by decide +kernel)
theorem kf_X6_65 : Cond.fieldLink RX6 65 "FeedloomModel" "marks" "[I" ∈ wAll := wA 934 (by decide +kernel) (by decide +kernel)
theorem kf_X6_68 : Cond.fieldLink RX6 68 "FeedloomModel" "markMinutes" "[I" ∈ wAll := wA 935 (by decide +kernel) (by decide +kernel)
theorem kf_X6_71 : Cond.fieldLink RX6 71 "FeedloomModel" "markVersions" "[I" ∈ wAll := wA 936 (by decide +kernel) (by decide +kernel)
theorem kf_X6_74 : Cond.fieldLink RX6 74 "FeedloomModel" "known" "[I" ∈ wAll := wA 937 (by decide +kernel) (by decide +kernel)
theorem kf_X6_77 : Cond.fieldLink RX6 77 "FeedloomModel" "knownMajors" "[I" ∈ wAll := wA 938 (by decide +kernel) (by decide +kernel)
theorem kf_X6_80 : Cond.fieldLink RX6 80 "FeedloomModel" "thrown" "I" ∈ wAll := wA 939 (by decide +kernel) (by decide +kernel)
theorem kf_X6_84 : Cond.fieldLink RX6 84 "FeedloomModel" "now" "I" ∈ wAll := wA 940 (by decide +kernel) (by decide +kernel)
theorem kf_X6_87 : Cond.fieldLink RX6 87 "FeedloomModel" "threshold" "I" ∈ wAll := wA 941 (by decide +kernel) (by decide +kernel)
theorem kf_X6_90 : Cond.fieldLink RX6 90 "FeedloomModel" "window" "I" ∈ wAll := wA 942 (by decide +kernel) (by decide +kernel)
theorem kf_X6_93 : Cond.fieldLink RX6 93 "FeedloomModel" "sources" "I" ∈ wAll := wA 943 (by decide +kernel) (by decide +kernel)
theorem kf_X6_96 : Cond.fieldLink RX6 96 "FeedloomModel" "items" "I" ∈ wAll := wA 944 (by decide +kernel) (by decide +kernel)
theorem kf_X6_99 : Cond.fieldLink RX6 99 "FeedloomModel" "pairs" "I" ∈ wAll := wA 945 (by decide +kernel) (by decide +kernel)
theorem kf_X6_102 : Cond.fieldLink RX6 102 "FeedloomModel" "linked" "I" ∈ wAll := wA 946 (by decide +kernel) (by decide +kernel)
theorem kf_X6_105 : Cond.fieldLink RX6 105 "FeedloomModel" "rules" "I" ∈ wAll := wA 947 (by decide +kernel) (by decide +kernel)
theorem kf_X6_108 : Cond.fieldLink RX6 108 "FeedloomModel" "rivers" "I" ∈ wAll := wA 948 (by decide +kernel) (by decide +kernel)
theorem kf_X6_111 : Cond.fieldLink RX6 111 "FeedloomModel" "devices" "I" ∈ wAll := wA 949 (by decide +kernel) (by decide +kernel)
theorem kf_X6_114 : Cond.fieldLink RX6 114 "FeedloomModel" "tags" "I" ∈ wAll := wA 950 (by decide +kernel) (by decide +kernel)
theorem kf_X6_117 : Cond.fieldLink RX6 117 "FeedloomModel" "matched" "I" ∈ wAll := wA 951 (by decide +kernel) (by decide +kernel)
theorem kf_X6_120 : Cond.fieldLink RX6 120 "FeedloomModel" "isOff" "Z" ∈ wAll := wA 952 (by decide +kernel) (by decide +kernel)
theorem km_X6_124 : Cond.methodLink RX6 124 yX6_bits ∈ wAll := wA 1067 (by decide +kernel) (by decide +kernel)
theorem km_X6_128 : Cond.methodLink RX6 128 yX6_in ∈ wAll := wA 1036 (by decide +kernel) (by decide +kernel)
theorem kk_X6_132 : Cond.constant RX6 132 (99999) ∈ wAll := wA 1039 (by decide +kernel) (by decide +kernel)
theorem km_X6_133 : Cond.methodLink RX6 133 yX6_plain ∈ wAll := wA 1044 (by decide +kernel) (by decide +kernel)
theorem km_X6_137 : Cond.methodLink RX6 137 yX6_checked ∈ wAll := wA 1052 (by decide +kernel) (by decide +kernel)
theorem km_X6_141 : Cond.methodLink RX6 141 yX6_likenessOf ∈ wAll := wA 1064 (by decide +kernel) (by decide +kernel)
theorem km_X6_145 : Cond.methodLink RX6 145 yX6_latest ∈ wAll := wA 1094 (by decide +kernel) (by decide +kernel)
theorem km_X6_149 : Cond.methodLink RX6 149 yX6_pairAt ∈ wAll := wA 1082 (by decide +kernel) (by decide +kernel)
theorem km_X6_153 : Cond.methodLink RX6 153 yX6_linkAt ∈ wAll := wA 1086 (by decide +kernel) (by decide +kernel)
theorem km_X6_156 : Cond.methodLink RX6 156 yX6_likest ∈ wAll := wA 1090 (by decide +kernel) (by decide +kernel)
theorem km_X6_159 : Cond.methodLink RX6 159 yX6_found ∈ wAll := wA 1078 (by decide +kernel) (by decide +kernel)
theorem km_X6_163 : Cond.methodLink RX6 163 yX6_adds ∈ wAll := wA 1098 (by decide +kernel) (by decide +kernel)
theorem km_X6_167 : Cond.methodLink RX6 167 yX6_changes ∈ wAll := wA 1102 (by decide +kernel) (by decide +kernel)
theorem km_X6_171 : Cond.methodLink RX6 171 yX6_isItem ∈ wAll := wA 1122 (by decide +kernel) (by decide +kernel)
theorem km_X6_175 : Cond.methodLink RX6 175 yX6_holds ∈ wAll := wA 1158 (by decide +kernel) (by decide +kernel)
theorem km_X6_179 : Cond.methodLink RX6 179 yX6_goes ∈ wAll := wA 1154 (by decide +kernel) (by decide +kernel)
theorem km_X6_183 : Cond.methodLink RX6 183 yX6_shows ∈ wAll := wA 1186 (by decide +kernel) (by decide +kernel)
theorem km_X6_186 : Cond.methodLink RX6 186 yX6_isRiver ∈ wAll := wA 1178 (by decide +kernel) (by decide +kernel)
theorem km_X6_189 : Cond.methodLink RX6 189 yX6_sizeOf ∈ wAll := wA 1182 (by decide +kernel) (by decide +kernel)
theorem km_X6_192 : Cond.methodLink RX6 192 yX6_ahead ∈ wAll := wA 1198 (by decide +kernel) (by decide +kernel)
theorem km_X6_195 : Cond.methodLink RX6 195 yX6_itemAt ∈ wAll := wA 1194 (by decide +kernel) (by decide +kernel)
theorem km_X6_198 : Cond.methodLink RX6 198 yX6_riverAt ∈ wAll := wA 1206 (by decide +kernel) (by decide +kernel)
theorem km_X6_201 : Cond.methodLink RX6 201 yX6_isReadBy ∈ wAll := wA 1223 (by decide +kernel) (by decide +kernel)
theorem km_X6_204 : Cond.methodLink RX6 204 yX6_isReadNow ∈ wAll := wA 1219 (by decide +kernel) (by decide +kernel)
theorem km_X6_207 : Cond.methodLink RX6 207 yX6_unreadIn ∈ wAll := wA 1215 (by decide +kernel) (by decide +kernel)
theorem km_X6_210 : Cond.methodLink RX6 210 yX6_copies ∈ wAll := wA 1239 (by decide +kernel) (by decide +kernel)
theorem km_X6_214 : Cond.methodLink RX6 214 yX6_learns ∈ wAll := wA 1243 (by decide +kernel) (by decide +kernel)
theorem km_X6_217 : Cond.methodLink RX6 217 yX6_isDevice ∈ wAll := wA 1251 (by decide +kernel) (by decide +kernel)
theorem km_X6_220 : Cond.methodLink RX6 220 yX6_knows ∈ wAll := wA 1255 (by decide +kernel) (by decide +kernel)
theorem km_X6_223 : Cond.methodLink RX6 223 yX6_isReadAt ∈ wAll := wA 1259 (by decide +kernel) (by decide +kernel)
theorem km_X6_226 : Cond.methodLink RX6 226 yX6_marks ∈ wAll := wA 1263 (by decide +kernel) (by decide +kernel)
theorem km_X6_229 : Cond.methodLink RX6 229 yX6_wins ∈ wAll := wA 1275 (by decide +kernel) (by decide +kernel)
theorem kk_J13_314 : Cond.constantLong RJ13 314 (6148914691236517205) ∈ wAll := wA 435 (by decide +kernel) (by decide +kernel)
theorem kk_J13_316 : Cond.constantLong RJ13 316 (3689348814741910323) ∈ wAll := wA 436 (by decide +kernel) (by decide +kernel)
theorem kk_J13_318 : Cond.constantLong RJ13 318 (1085102592571150095) ∈ wAll := wA 437 (by decide +kernel) (by decide +kernel)
theorem k_oi : Cond.instanceMethod objectInit ∈ wAll := wA 72 (by decide +kernel) (by decide +kernel)
theorem k_oc : Cond.code objectInit ⟨#[0xb1]⟩ 1 none ∈ wAll := wA 73 (by decide +kernel) (by decide +kernel)
theorem ka_int : Cond.arrayClass .int ∈ wAll := wA 114 (by decide +kernel) (by decide +kernel)
theorem ka_long : Cond.arrayClass .long ∈ wAll := wA 115 (by decide +kernel) (by decide +kernel)
theorem ka_double : Cond.arrayClass .double ∈ wAll := wA 1300 (by decide +kernel) (by decide +kernel)
theorem ki_X0 : Cond.initialized RX0 ∈ wAll := wA 51 (by decide +kernel) (by decide +kernel)
theorem kn_X0 : Cond.instantiable RX0 3 ∈ wAll := wA 158 (by decide +kernel) (by decide +kernel)
theorem ki_X1 : Cond.initialized RX1 ∈ wAll := wA 48 (by decide +kernel) (by decide +kernel)
theorem kn_X1 : Cond.instantiable RX1 11 ∈ wAll := wA 75 (by decide +kernel) (by decide +kernel)
theorem ki_X2 : Cond.initialized RX2 ∈ wAll := wA 52 (by decide +kernel) (by decide +kernel)
theorem kn_X2 : Cond.instantiable RX2 3 ∈ wAll := wA 174 (by decide +kernel) (by decide +kernel)
theorem ki_X3 : Cond.initialized RX3 ∈ wAll := wA 50 (by decide +kernel) (by decide +kernel)
theorem kn_X3 : Cond.instantiable RX3 3 ∈ wAll := wA 142 (by decide +kernel) (by decide +kernel)
theorem ki_X4 : Cond.initialized RX4 ∈ wAll := wA 49 (by decide +kernel) (by decide +kernel)
theorem kn_X4 : Cond.instantiable RX4 6 ∈ wAll := wA 117 (by decide +kernel) (by decide +kernel)
theorem ki_X5 : Cond.initialized RX5 ∈ wAll := wA 47 (by decide +kernel) (by decide +kernel)
theorem kn_X5 : Cond.instantiable RX5 11 ∈ wAll := wA 67 (by decide +kernel) (by decide +kernel)
theorem ki_X6 : Cond.initialized RX6 ∈ wAll := wA 53 (by decide +kernel) (by decide +kernel)
theorem kn_X6 : Cond.instantiable RX6 37 ∈ wAll := wA 911 (by decide +kernel) (by decide +kernel)
theorem ki_L : Cond.initialized RL ∈ wAll := wA 46 (by decide +kernel) (by decide +kernel)
theorem ki_J13 : Cond.initialized RJ13 ∈ wAll := wA 59 (by decide +kernel) (by decide +kernel)
theorem ki_J9 : Cond.initialized RJ9 ∈ wAll := wA 63 (by decide +kernel) (by decide +kernel)
theorem ki_IAE : Cond.initialized "java/lang/IllegalArgumentException" ∈ wAll := wA 57 (by decide +kernel) (by decide +kernel)
theorem ki_ISE : Cond.initialized "java/lang/IllegalStateException" ∈ wAll := wA 58 (by decide +kernel) (by decide +kernel)
theorem ki_IOB : Cond.initialized "java/lang/IndexOutOfBoundsException" ∈ wAll := wA 60 (by decide +kernel) (by decide +kernel)
theorem ki_ARE : Cond.initialized "java/lang/ArithmeticException" ∈ wAll := wA 65 (by decide +kernel) (by decide +kernel)
theorem ki_NSE : Cond.initialized "java/util/NoSuchElementException" ∈ wAll := wA 64 (by decide +kernel) (by decide +kernel)
theorem ku_X0 : ∀ w ∈ u_ws RX0 TX0 3, w ∈ wAll := wA_list _ [166, 168, 170] (by decide +kernel) (by decide +kernel)
theorem ku_X1 : ∀ w ∈ u_ws RX1 TX1 11, w ∈ wAll := wA_list _ [91, 93, 95, 97, 99, 101, 103, 105, 107, 109, 111] (by decide +kernel) (by decide +kernel)
theorem ku_X2 : ∀ w ∈ u_ws RX2 TX2 3, w ∈ wAll := wA_list _ [182, 184, 186] (by decide +kernel) (by decide +kernel)
theorem ku_X3 : ∀ w ∈ u_ws RX3 TX3 3, w ∈ wAll := wA_list _ [150, 152, 154] (by decide +kernel) (by decide +kernel)
theorem ku_X4 : ∀ w ∈ u_ws RX4 TX4 6, w ∈ wAll := wA_list _ [128, 130, 132, 134, 136, 138] (by decide +kernel) (by decide +kernel)
theorem ku_X5 : ∀ w ∈ u_ws RX5 TX5 11, w ∈ wAll := wA_list _ [200, 202, 204, 206, 208, 210, 212, 214, 216, 218, 220] (by decide +kernel) (by decide +kernel)
theorem ku_X6 : ∀ w ∈ u_ws RX6 TX6 37, w ∈ wAll := wA_list _ [953, 955, 957, 959, 961, 963, 965, 967, 969, 971, 973, 975, 977, 979, 981, 983, 985, 987, 989, 991, 993, 995, 997, 999, 1001, 1003, 1005, 1007, 1009, 1011, 1013, 1015, 1017, 1019, 1021, 1023, 1025] (by decide +kernel) (by decide +kernel)
/-- what a call asks of a method's words -/
def zYb (y : MethodName) (b : ByteArray) (mL : Nat) (r : Option FieldType) (n : Nat) : Prop := Cond.code y b mL r ∈ wAll ∧ Cond.initialized y.cls ∈ wAll ∧ (y.cls ≠ "java/lang/invoke/MethodHandle" ∧ y.cls ≠ "java/lang/invoke/VarHandle") ∧ (∀ sig, parseMethodDescriptor y.desc = some sig → n = sig.parameters.length)
def zYv (y : MethodName) (b : ByteArray) (mL : Nat) (r : Option FieldType) (n : Nat) : Prop := zYb y b mL r n ∧ Cond.instanceMethod y ∈ wAll ∧ Cond.selects y.cls y y ∈ wAll
def zYs (y : MethodName) (b : ByteArray) (mL : Nat) (r : Option FieldType) (n : Nat) : Prop := zYb y b mL r n ∧ Cond.static y ∈ wAll
def zYi (y : MethodName) (b : ByteArray) (mL : Nat) (n : Nat) : Prop := zYb y b mL none n ∧ y.name = "<init>" ∧ Cond.instanceMethod y ∈ wAll
theorem zY_n {y : MethodName} {n : Nat} (h : (parseMethodDescriptor y.desc).map (fun d => d.parameters.length) = some n) : ∀ sig, parseMethodDescriptor y.desc = some sig → n = sig.parameters.length := fun sig hs => by
  rw [hs] at h
  exact (Option.some.inj h).symm
theorem zY_X0_init : zYi yX0_init cX0_init 1 0 := ⟨(⟨wA 161 (by decide +kernel) (by decide +kernel), ki_X0, ⟨by decide +kernel, by decide +kernel⟩, zY_n (by decide +kernel)⟩ : zYb yX0_init cX0_init 1 none 0), rfl, wA 160 (by decide +kernel) (by decide +kernel)⟩
theorem zY_X0_size : zYv yX0_size cX0_size 1 (some .int) 0 := ⟨(⟨wA 831 (by decide +kernel) (by decide +kernel), ki_X0, ⟨by decide +kernel, by decide +kernel⟩, zY_n (by decide +kernel)⟩ : zYb yX0_size cX0_size 1 (some .int) 0), wA 829 (by decide +kernel) (by decide +kernel), wA 830 (by decide +kernel) (by decide +kernel)⟩
theorem zY_X0_append : zYv yX0_append cX0_append 1 (some .int) 0 := ⟨(⟨wA 803 (by decide +kernel) (by decide +kernel), ki_X0, ⟨by decide +kernel, by decide +kernel⟩, zY_n (by decide +kernel)⟩ : zYb yX0_append cX0_append 1 (some .int) 0), wA 801 (by decide +kernel) (by decide +kernel), wA 802 (by decide +kernel) (by decide +kernel)⟩
theorem zY_X0_knows : zYv yX0_knows cX0_knows 3 (some .boolean) 2 := ⟨(⟨wA 840 (by decide +kernel) (by decide +kernel), ki_X0, ⟨by decide +kernel, by decide +kernel⟩, zY_n (by decide +kernel)⟩ : zYb yX0_knows cX0_knows 3 (some .boolean) 2), wA 838 (by decide +kernel) (by decide +kernel), wA 839 (by decide +kernel) (by decide +kernel)⟩
theorem zY_X0_versionCount : zYv yX0_versionCount cX0_versionCount 3 (some .int) 2 := ⟨(⟨wA 844 (by decide +kernel) (by decide +kernel), ki_X0, ⟨by decide +kernel, by decide +kernel⟩, zY_n (by decide +kernel)⟩ : zYb yX0_versionCount cX0_versionCount 3 (some .int) 2), wA 842 (by decide +kernel) (by decide +kernel), wA 843 (by decide +kernel) (by decide +kernel)⟩
theorem zY_X0_major : zYv yX0_major cX0_major 3 (some .int) 2 := ⟨(⟨wA 857 (by decide +kernel) (by decide +kernel), ki_X0, ⟨by decide +kernel, by decide +kernel⟩, zY_n (by decide +kernel)⟩ : zYb yX0_major cX0_major 3 (some .int) 2), wA 855 (by decide +kernel) (by decide +kernel), wA 856 (by decide +kernel) (by decide +kernel)⟩
theorem zY_X0_learn : zYv yX0_learn cX0_learn 5 none 4 := ⟨(⟨wA 816 (by decide +kernel) (by decide +kernel), ki_X0, ⟨by decide +kernel, by decide +kernel⟩, zY_n (by decide +kernel)⟩ : zYb yX0_learn cX0_learn 5 none 4), wA 814 (by decide +kernel) (by decide +kernel), wA 815 (by decide +kernel) (by decide +kernel)⟩
theorem zY_X1_init : zYi yX1_init cX1_init 1 0 := ⟨(⟨wA 78 (by decide +kernel) (by decide +kernel), ki_X1, ⟨by decide +kernel, by decide +kernel⟩, zY_n (by decide +kernel)⟩ : zYb yX1_init cX1_init 1 none 0), rfl, wA 77 (by decide +kernel) (by decide +kernel)⟩
theorem zY_X1_size : zYv yX1_size cX1_size 1 (some .int) 0 := ⟨(⟨wA 234 (by decide +kernel) (by decide +kernel), ki_X1, ⟨by decide +kernel, by decide +kernel⟩, zY_n (by decide +kernel)⟩ : zYb yX1_size cX1_size 1 (some .int) 0), wA 232 (by decide +kernel) (by decide +kernel), wA 233 (by decide +kernel) (by decide +kernel)⟩
theorem zY_X1_time : zYv yX1_time cX1_time 2 (some .int) 1 := ⟨(⟨wA 635 (by decide +kernel) (by decide +kernel), ki_X1, ⟨by decide +kernel, by decide +kernel⟩, zY_n (by decide +kernel)⟩ : zYb yX1_time cX1_time 2 (some .int) 1), wA 633 (by decide +kernel) (by decide +kernel), wA 634 (by decide +kernel) (by decide +kernel)⟩
theorem zY_X1_tellers : zYv yX1_tellers cX1_tellers 2 (some .int) 1 := ⟨(⟨wA 266 (by decide +kernel) (by decide +kernel), ki_X1, ⟨by decide +kernel, by decide +kernel⟩, zY_n (by decide +kernel)⟩ : zYb yX1_tellers cX1_tellers 2 (some .int) 1), wA 264 (by decide +kernel) (by decide +kernel), wA 265 (by decide +kernel) (by decide +kernel)⟩
theorem zY_X1_versionCount : zYv yX1_versionCount cX1_versionCount 2 (some .int) 1 := ⟨(⟨wA 606 (by decide +kernel) (by decide +kernel), ki_X1, ⟨by decide +kernel, by decide +kernel⟩, zY_n (by decide +kernel)⟩ : zYb yX1_versionCount cX1_versionCount 2 (some .int) 1), wA 604 (by decide +kernel) (by decide +kernel), wA 605 (by decide +kernel) (by decide +kernel)⟩
theorem zY_X1_major : zYv yX1_major cX1_major 2 (some .int) 1 := ⟨(⟨wA 617 (by decide +kernel) (by decide +kernel), ki_X1, ⟨by decide +kernel, by decide +kernel⟩, zY_n (by decide +kernel)⟩ : zYb yX1_major cX1_major 2 (some .int) 1), wA 615 (by decide +kernel) (by decide +kernel), wA 616 (by decide +kernel) (by decide +kernel)⟩
theorem zY_X1_keepsTitle : zYv yX1_keepsTitle cX1_keepsTitle 4 (some .boolean) 2 := ⟨(⟨wA 593 (by decide +kernel) (by decide +kernel), ki_X1, ⟨by decide +kernel, by decide +kernel⟩, zY_n (by decide +kernel)⟩ : zYb yX1_keepsTitle cX1_keepsTitle 4 (some .boolean) 2), wA 591 (by decide +kernel) (by decide +kernel), wA 592 (by decide +kernel) (by decide +kernel)⟩
theorem zY_X1_titleAt : zYv yX1_titleAt cX1_titleAt 3 (some .long) 2 := ⟨(⟨wA 278 (by decide +kernel) (by decide +kernel), ki_X1, ⟨by decide +kernel, by decide +kernel⟩, zY_n (by decide +kernel)⟩ : zYb yX1_titleAt cX1_titleAt 3 (some .long) 2), wA 276 (by decide +kernel) (by decide +kernel), wA 277 (by decide +kernel) (by decide +kernel)⟩
theorem zY_X1_latestTitle : zYv yX1_latestTitle cX1_latestTitle 2 (some .long) 1 := ⟨(⟨wA 274 (by decide +kernel) (by decide +kernel), ki_X1, ⟨by decide +kernel, by decide +kernel⟩, zY_n (by decide +kernel)⟩ : zYb yX1_latestTitle cX1_latestTitle 2 (some .long) 1), wA 272 (by decide +kernel) (by decide +kernel), wA 273 (by decide +kernel) (by decide +kernel)⟩
theorem zY_X1_placeOfTitle : zYs yX1_placeOfTitle cX1_placeOfTitle 2 (some .int) 2 := ⟨(⟨wA 281 (by decide +kernel) (by decide +kernel), ki_X1, ⟨by decide +kernel, by decide +kernel⟩, zY_n (by decide +kernel)⟩ : zYb yX1_placeOfTitle cX1_placeOfTitle 2 (some .int) 2), wA 280 (by decide +kernel) (by decide +kernel)⟩
theorem zY_X1_ownerOfPair : zYv yX1_ownerOfPair cX1_ownerOfPair 3 (some .int) 2 := ⟨(⟨wA 504 (by decide +kernel) (by decide +kernel), ki_X1, ⟨by decide +kernel, by decide +kernel⟩, zY_n (by decide +kernel)⟩ : zYb yX1_ownerOfPair cX1_ownerOfPair 3 (some .int) 2), wA 502 (by decide +kernel) (by decide +kernel), wA 503 (by decide +kernel) (by decide +kernel)⟩
theorem zY_X1_ownerOfLink : zYv yX1_ownerOfLink cX1_ownerOfLink 2 (some .int) 1 := ⟨(⟨wA 508 (by decide +kernel) (by decide +kernel), ki_X1, ⟨by decide +kernel, by decide +kernel⟩, zY_n (by decide +kernel)⟩ : zYb yX1_ownerOfLink cX1_ownerOfLink 2 (some .int) 1), wA 506 (by decide +kernel) (by decide +kernel), wA 507 (by decide +kernel) (by decide +kernel)⟩
theorem zY_X1_mostAlike : zYv yX1_mostAlike cX1_mostAlike 9 (some .int) 3 := ⟨(⟨wA 512 (by decide +kernel) (by decide +kernel), ki_X1, ⟨by decide +kernel, by decide +kernel⟩, zY_n (by decide +kernel)⟩ : zYb yX1_mostAlike cX1_mostAlike 9 (some .int) 3), wA 510 (by decide +kernel) (by decide +kernel), wA 511 (by decide +kernel) (by decide +kernel)⟩
theorem zY_X1_append : zYv yX1_append cX1_append 6 (some .int) 3 := ⟨(⟨wA 522 (by decide +kernel) (by decide +kernel), ki_X1, ⟨by decide +kernel, by decide +kernel⟩, zY_n (by decide +kernel)⟩ : zYb yX1_append cX1_append 6 (some .int) 3), wA 520 (by decide +kernel) (by decide +kernel), wA 521 (by decide +kernel) (by decide +kernel)⟩
theorem zY_X1_keepInOrder : zYv yX1_keepInOrder cX1_keepInOrder 3 none 1 := ⟨(⟨wA 526 (by decide +kernel) (by decide +kernel), ki_X1, ⟨by decide +kernel, by decide +kernel⟩, zY_n (by decide +kernel)⟩ : zYb yX1_keepInOrder cX1_keepInOrder 3 none 1), wA 525 (by decide +kernel) (by decide +kernel), wA 7 (by decide +kernel) (by decide +kernel)⟩
theorem zY_X1_renew : zYv yX1_renew cX1_renew 8 none 3 := ⟨(⟨wA 531 (by decide +kernel) (by decide +kernel), ki_X1, ⟨by decide +kernel, by decide +kernel⟩, zY_n (by decide +kernel)⟩ : zYb yX1_renew cX1_renew 8 none 3), wA 529 (by decide +kernel) (by decide +kernel), wA 530 (by decide +kernel) (by decide +kernel)⟩
theorem zY_X1_addTeller : zYv yX1_addTeller cX1_addTeller 3 none 2 := ⟨(⟨wA 535 (by decide +kernel) (by decide +kernel), ki_X1, ⟨by decide +kernel, by decide +kernel⟩, zY_n (by decide +kernel)⟩ : zYb yX1_addTeller cX1_addTeller 3 none 2), wA 533 (by decide +kernel) (by decide +kernel), wA 534 (by decide +kernel) (by decide +kernel)⟩
theorem zY_X1_claimPair : zYv yX1_claimPair cX1_claimPair 4 none 3 := ⟨(⟨wA 539 (by decide +kernel) (by decide +kernel), ki_X1, ⟨by decide +kernel, by decide +kernel⟩, zY_n (by decide +kernel)⟩ : zYb yX1_claimPair cX1_claimPair 4 none 3), wA 537 (by decide +kernel) (by decide +kernel), wA 538 (by decide +kernel) (by decide +kernel)⟩
theorem zY_X1_claimLink : zYv yX1_claimLink cX1_claimLink 3 none 2 := ⟨(⟨wA 544 (by decide +kernel) (by decide +kernel), ki_X1, ⟨by decide +kernel, by decide +kernel⟩, zY_n (by decide +kernel)⟩ : zYb yX1_claimLink cX1_claimLink 3 none 2), wA 542 (by decide +kernel) (by decide +kernel), wA 543 (by decide +kernel) (by decide +kernel)⟩
theorem zY_X1_isAhead : zYv yX1_isAhead cX1_isAhead 3 (some .boolean) 2 := ⟨(⟨wA 246 (by decide +kernel) (by decide +kernel), ki_X1, ⟨by decide +kernel, by decide +kernel⟩, zY_n (by decide +kernel)⟩ : zYb yX1_isAhead cX1_isAhead 3 (some .boolean) 2), wA 245 (by decide +kernel) (by decide +kernel), wA 0 (by decide +kernel) (by decide +kernel)⟩
theorem zY_X2_init : zYi yX2_init cX2_init 1 0 := ⟨(⟨wA 177 (by decide +kernel) (by decide +kernel), ki_X2, ⟨by decide +kernel, by decide +kernel⟩, zY_n (by decide +kernel)⟩ : zYb yX2_init cX2_init 1 none 0), rfl, wA 176 (by decide +kernel) (by decide +kernel)⟩
theorem zY_X2_put : zYv yX2_put cX2_put 7 none 5 := ⟨(⟨wA 862 (by decide +kernel) (by decide +kernel), ki_X2, ⟨by decide +kernel, by decide +kernel⟩, zY_n (by decide +kernel)⟩ : zYb yX2_put cX2_put 7 none 5), wA 860 (by decide +kernel) (by decide +kernel), wA 861 (by decide +kernel) (by decide +kernel)⟩
theorem zY_X2_copy : zYv yX2_copy cX2_copy 6 none 3 := ⟨(⟨wA 812 (by decide +kernel) (by decide +kernel), ki_X2, ⟨by decide +kernel, by decide +kernel⟩, zY_n (by decide +kernel)⟩ : zYb yX2_copy cX2_copy 6 none 3), wA 810 (by decide +kernel) (by decide +kernel), wA 811 (by decide +kernel) (by decide +kernel)⟩
theorem zY_X2_saysRead : zYv yX2_saysRead cX2_saysRead 5 (some .boolean) 3 := ⟨(⟨wA 760 (by decide +kernel) (by decide +kernel), ki_X2, ⟨by decide +kernel, by decide +kernel⟩, zY_n (by decide +kernel)⟩ : zYb yX2_saysRead cX2_saysRead 5 (some .boolean) 3), wA 758 (by decide +kernel) (by decide +kernel), wA 759 (by decide +kernel) (by decide +kernel)⟩
theorem zY_X2_beats : zYv yX2_beats cX2_beats 6 (some .boolean) 3 := ⟨(⟨wA 880 (by decide +kernel) (by decide +kernel), ki_X2, ⟨by decide +kernel, by decide +kernel⟩, zY_n (by decide +kernel)⟩ : zYb yX2_beats cX2_beats 6 (some .boolean) 3), wA 878 (by decide +kernel) (by decide +kernel), wA 879 (by decide +kernel) (by decide +kernel)⟩
theorem zY_X3_init : zYi yX3_init cX3_init 1 0 := ⟨(⟨wA 145 (by decide +kernel) (by decide +kernel), ki_X3, ⟨by decide +kernel, by decide +kernel⟩, zY_n (by decide +kernel)⟩ : zYb yX3_init cX3_init 1 none 0), rfl, wA 144 (by decide +kernel) (by decide +kernel)⟩
theorem zY_X3_size : zYv yX3_size cX3_size 1 (some .int) 0 := ⟨(⟨wA 250 (by decide +kernel) (by decide +kernel), ki_X3, ⟨by decide +kernel, by decide +kernel⟩, zY_n (by decide +kernel)⟩ : zYb yX3_size cX3_size 1 (some .int) 0), wA 248 (by decide +kernel) (by decide +kernel), wA 249 (by decide +kernel) (by decide +kernel)⟩
theorem zY_X3_append : zYv yX3_append cX3_append 3 (some .int) 2 := ⟨(⟨wA 701 (by decide +kernel) (by decide +kernel), ki_X3, ⟨by decide +kernel, by decide +kernel⟩, zY_n (by decide +kernel)⟩ : zYb yX3_append cX3_append 3 (some .int) 2), wA 699 (by decide +kernel) (by decide +kernel), wA 700 (by decide +kernel) (by decide +kernel)⟩
theorem zY_X3_takes : zYv yX3_takes cX3_takes 4 (some .boolean) 3 := ⟨(⟨wA 306 (by decide +kernel) (by decide +kernel), ki_X3, ⟨by decide +kernel, by decide +kernel⟩, zY_n (by decide +kernel)⟩ : zYb yX3_takes cX3_takes 4 (some .boolean) 3), wA 304 (by decide +kernel) (by decide +kernel), wA 305 (by decide +kernel) (by decide +kernel)⟩
theorem zY_X4_init : zYi yX4_init cX4_init 1 0 := ⟨(⟨wA 120 (by decide +kernel) (by decide +kernel), ki_X4, ⟨by decide +kernel, by decide +kernel⟩, zY_n (by decide +kernel)⟩ : zYb yX4_init cX4_init 1 none 0), rfl, wA 119 (by decide +kernel) (by decide +kernel)⟩
theorem zY_X4_size : zYv yX4_size cX4_size 1 (some .int) 0 := ⟨(⟨wA 288 (by decide +kernel) (by decide +kernel), ki_X4, ⟨by decide +kernel, by decide +kernel⟩, zY_n (by decide +kernel)⟩ : zYb yX4_size cX4_size 1 (some .int) 0), wA 286 (by decide +kernel) (by decide +kernel), wA 287 (by decide +kernel) (by decide +kernel)⟩
theorem zY_X4_append : zYv yX4_append cX4_append 8 (some .int) 5 := ⟨(⟨wA 650 (by decide +kernel) (by decide +kernel), ki_X4, ⟨by decide +kernel, by decide +kernel⟩, zY_n (by decide +kernel)⟩ : zYb yX4_append cX4_append 8 (some .int) 5), wA 648 (by decide +kernel) (by decide +kernel), wA 649 (by decide +kernel) (by decide +kernel)⟩
theorem zY_X4_remove : zYv yX4_remove cX4_remove 3 none 1 := ⟨(⟨wA 667 (by decide +kernel) (by decide +kernel), ki_X4, ⟨by decide +kernel, by decide +kernel⟩, zY_n (by decide +kernel)⟩ : zYb yX4_remove cX4_remove 3 none 1), wA 665 (by decide +kernel) (by decide +kernel), wA 666 (by decide +kernel) (by decide +kernel)⟩
theorem zY_X4_outcome : zYv yX4_outcome cX4_outcome 7 (some .int) 3 := ⟨(⟨wA 292 (by decide +kernel) (by decide +kernel), ki_X4, ⟨by decide +kernel, by decide +kernel⟩, zY_n (by decide +kernel)⟩ : zYb yX4_outcome cX4_outcome 7 (some .int) 3), wA 290 (by decide +kernel) (by decide +kernel), wA 291 (by decide +kernel) (by decide +kernel)⟩
theorem zY_X4_holds : zYv yX4_holds cX4_holds 6 (some .boolean) 4 := ⟨(⟨wA 296 (by decide +kernel) (by decide +kernel), ki_X4, ⟨by decide +kernel, by decide +kernel⟩, zY_n (by decide +kernel)⟩ : zYb yX4_holds cX4_holds 6 (some .boolean) 4), wA 294 (by decide +kernel) (by decide +kernel), wA 295 (by decide +kernel) (by decide +kernel)⟩
theorem zY_X4_act : zYs yX4_act cX4_act 2 (some .int) 2 := ⟨(⟨wA 302 (by decide +kernel) (by decide +kernel), ki_X4, ⟨by decide +kernel, by decide +kernel⟩, zY_n (by decide +kernel)⟩ : zYb yX4_act cX4_act 2 (some .int) 2), wA 301 (by decide +kernel) (by decide +kernel)⟩
theorem zY_X5_init : zYi yX5_init cX5_init 1 0 := ⟨(⟨wA 70 (by decide +kernel) (by decide +kernel), ki_X5, ⟨by decide +kernel, by decide +kernel⟩, zY_n (by decide +kernel)⟩ : zYb yX5_init cX5_init 1 none 0), rfl, wA 69 (by decide +kernel) (by decide +kernel)⟩
theorem zY_X5_pass : zYv yX5_pass cX5_pass 2 (some .int) 1 := ⟨(⟨wA 316 (by decide +kernel) (by decide +kernel), ki_X5, ⟨by decide +kernel, by decide +kernel⟩, zY_n (by decide +kernel)⟩ : zYb yX5_pass cX5_pass 2 (some .int) 1), wA 314 (by decide +kernel) (by decide +kernel), wA 315 (by decide +kernel) (by decide +kernel)⟩
theorem zY_X5_now : zYv yX5_now cX5_now 1 (some .int) 0 := ⟨(⟨wA 226 (by decide +kernel) (by decide +kernel), ki_X5, ⟨by decide +kernel, by decide +kernel⟩, zY_n (by decide +kernel)⟩ : zYb yX5_now cX5_now 1 (some .int) 0), wA 224 (by decide +kernel) (by decide +kernel), wA 225 (by decide +kernel) (by decide +kernel)⟩
theorem zY_X5_setThreshold : zYv yX5_setThreshold cX5_setThreshold 3 (some .int) 1 := ⟨(⟨wA 411 (by decide +kernel) (by decide +kernel), ki_X5, ⟨by decide +kernel, by decide +kernel⟩, zY_n (by decide +kernel)⟩ : zYb yX5_setThreshold cX5_setThreshold 3 (some .int) 1), wA 409 (by decide +kernel) (by decide +kernel), wA 410 (by decide +kernel) (by decide +kernel)⟩
theorem zY_X5_setWindow : zYv yX5_setWindow cX5_setWindow 3 (some .int) 1 := ⟨(⟨wA 419 (by decide +kernel) (by decide +kernel), ki_X5, ⟨by decide +kernel, by decide +kernel⟩, zY_n (by decide +kernel)⟩ : zYb yX5_setWindow cX5_setWindow 3 (some .int) 1), wA 417 (by decide +kernel) (by decide +kernel), wA 418 (by decide +kernel) (by decide +kernel)⟩
theorem zY_X5_likeness : zYv yX5_likeness cX5_likeness 5 (some .int) 2 := ⟨(⟨wA 427 (by decide +kernel) (by decide +kernel), ki_X5, ⟨by decide +kernel, by decide +kernel⟩, zY_n (by decide +kernel)⟩ : zYb yX5_likeness cX5_likeness 5 (some .int) 2), wA 425 (by decide +kernel) (by decide +kernel), wA 426 (by decide +kernel) (by decide +kernel)⟩
theorem zY_X5_addSource : zYv yX5_addSource cX5_addSource 1 (some .int) 0 := ⟨(⟨wA 444 (by decide +kernel) (by decide +kernel), ki_X5, ⟨by decide +kernel, by decide +kernel⟩, zY_n (by decide +kernel)⟩ : zYb yX5_addSource cX5_addSource 1 (some .int) 0), wA 442 (by decide +kernel) (by decide +kernel), wA 443 (by decide +kernel) (by decide +kernel)⟩
theorem zY_X5_fetch : zYv yX5_fetch cX5_fetch 8 (some .int) 5 := ⟨(⟨wA 476 (by decide +kernel) (by decide +kernel), ki_X5, ⟨by decide +kernel, by decide +kernel⟩, zY_n (by decide +kernel)⟩ : zYb yX5_fetch cX5_fetch 8 (some .int) 5), wA 474 (by decide +kernel) (by decide +kernel), wA 475 (by decide +kernel) (by decide +kernel)⟩
theorem zY_X5_items : zYv yX5_items cX5_items 1 (some .int) 0 := ⟨(⟨wA 230 (by decide +kernel) (by decide +kernel), ki_X5, ⟨by decide +kernel, by decide +kernel⟩, zY_n (by decide +kernel)⟩ : zYb yX5_items cX5_items 1 (some .int) 0), wA 228 (by decide +kernel) (by decide +kernel), wA 229 (by decide +kernel) (by decide +kernel)⟩
theorem zY_X5_withIdentifier : zYv yX5_withIdentifier cX5_withIdentifier 4 (some .int) 2 := ⟨(⟨wA 553 (by decide +kernel) (by decide +kernel), ki_X5, ⟨by decide +kernel, by decide +kernel⟩, zY_n (by decide +kernel)⟩ : zYb yX5_withIdentifier cX5_withIdentifier 4 (some .int) 2), wA 551 (by decide +kernel) (by decide +kernel), wA 552 (by decide +kernel) (by decide +kernel)⟩
theorem zY_X5_withLink : zYv yX5_withLink cX5_withLink 3 (some .int) 1 := ⟨(⟨wA 576 (by decide +kernel) (by decide +kernel), ki_X5, ⟨by decide +kernel, by decide +kernel⟩, zY_n (by decide +kernel)⟩ : zYb yX5_withLink cX5_withLink 3 (some .int) 1), wA 574 (by decide +kernel) (by decide +kernel), wA 575 (by decide +kernel) (by decide +kernel)⟩
theorem zY_X5_title : zYv yX5_title cX5_title 3 (some .long) 2 := ⟨(⟨wA 584 (by decide +kernel) (by decide +kernel), ki_X5, ⟨by decide +kernel, by decide +kernel⟩, zY_n (by decide +kernel)⟩ : zYb yX5_title cX5_title 3 (some .long) 2), wA 582 (by decide +kernel) (by decide +kernel), wA 583 (by decide +kernel) (by decide +kernel)⟩
theorem zY_X5_versions : zYv yX5_versions cX5_versions 2 (some .int) 1 := ⟨(⟨wA 602 (by decide +kernel) (by decide +kernel), ki_X5, ⟨by decide +kernel, by decide +kernel⟩, zY_n (by decide +kernel)⟩ : zYb yX5_versions cX5_versions 2 (some .int) 1), wA 600 (by decide +kernel) (by decide +kernel), wA 601 (by decide +kernel) (by decide +kernel)⟩
theorem zY_X5_latestMajor : zYv yX5_latestMajor cX5_latestMajor 2 (some .int) 1 := ⟨(⟨wA 613 (by decide +kernel) (by decide +kernel), ki_X5, ⟨by decide +kernel, by decide +kernel⟩, zY_n (by decide +kernel)⟩ : zYb yX5_latestMajor cX5_latestMajor 2 (some .int) 1), wA 611 (by decide +kernel) (by decide +kernel), wA 612 (by decide +kernel) (by decide +kernel)⟩
theorem zY_X5_sourcesOf : zYv yX5_sourcesOf cX5_sourcesOf 2 (some .int) 1 := ⟨(⟨wA 624 (by decide +kernel) (by decide +kernel), ki_X5, ⟨by decide +kernel, by decide +kernel⟩, zY_n (by decide +kernel)⟩ : zYb yX5_sourcesOf cX5_sourcesOf 2 (some .int) 1), wA 622 (by decide +kernel) (by decide +kernel), wA 623 (by decide +kernel) (by decide +kernel)⟩
theorem zY_X5_timeOf : zYv yX5_timeOf cX5_timeOf 2 (some .int) 1 := ⟨(⟨wA 631 (by decide +kernel) (by decide +kernel), ki_X5, ⟨by decide +kernel, by decide +kernel⟩, zY_n (by decide +kernel)⟩ : zYb yX5_timeOf cX5_timeOf 2 (some .int) 1), wA 629 (by decide +kernel) (by decide +kernel), wA 630 (by decide +kernel) (by decide +kernel)⟩
theorem zY_X5_addRule : zYv yX5_addRule cX5_addRule 9 (some .int) 5 := ⟨(⟨wA 642 (by decide +kernel) (by decide +kernel), ki_X5, ⟨by decide +kernel, by decide +kernel⟩, zY_n (by decide +kernel)⟩ : zYb yX5_addRule cX5_addRule 9 (some .int) 5), wA 640 (by decide +kernel) (by decide +kernel), wA 641 (by decide +kernel) (by decide +kernel)⟩
theorem zY_X5_dropRule : zYv yX5_dropRule cX5_dropRule 2 (some .int) 1 := ⟨(⟨wA 658 (by decide +kernel) (by decide +kernel), ki_X5, ⟨by decide +kernel, by decide +kernel⟩, zY_n (by decide +kernel)⟩ : zYb yX5_dropRule cX5_dropRule 2 (some .int) 1), wA 656 (by decide +kernel) (by decide +kernel), wA 657 (by decide +kernel) (by decide +kernel)⟩
theorem zY_X5_tagsOf : zYv yX5_tagsOf cX5_tagsOf 2 (some .int) 1 := ⟨(⟨wA 674 (by decide +kernel) (by decide +kernel), ki_X5, ⟨by decide +kernel, by decide +kernel⟩, zY_n (by decide +kernel)⟩ : zYb yX5_tagsOf cX5_tagsOf 2 (some .int) 1), wA 672 (by decide +kernel) (by decide +kernel), wA 673 (by decide +kernel) (by decide +kernel)⟩
theorem zY_X5_isHidden : zYv yX5_isHidden cX5_isHidden 2 (some .boolean) 1 := ⟨(⟨wA 681 (by decide +kernel) (by decide +kernel), ki_X5, ⟨by decide +kernel, by decide +kernel⟩, zY_n (by decide +kernel)⟩ : zYb yX5_isHidden cX5_isHidden 2 (some .boolean) 1), wA 679 (by decide +kernel) (by decide +kernel), wA 680 (by decide +kernel) (by decide +kernel)⟩
theorem zY_X5_matches : zYv yX5_matches cX5_matches 7 (some .int) 1 := ⟨(⟨wA 688 (by decide +kernel) (by decide +kernel), ki_X5, ⟨by decide +kernel, by decide +kernel⟩, zY_n (by decide +kernel)⟩ : zYb yX5_matches cX5_matches 7 (some .int) 1), wA 686 (by decide +kernel) (by decide +kernel), wA 687 (by decide +kernel) (by decide +kernel)⟩
theorem zY_X5_addRiver : zYv yX5_addRiver cX5_addRiver 4 (some .int) 2 := ⟨(⟨wA 696 (by decide +kernel) (by decide +kernel), ki_X5, ⟨by decide +kernel, by decide +kernel⟩, zY_n (by decide +kernel)⟩ : zYb yX5_addRiver cX5_addRiver 4 (some .int) 2), wA 694 (by decide +kernel) (by decide +kernel), wA 695 (by decide +kernel) (by decide +kernel)⟩
theorem zY_X5_riverSize : zYv yX5_riverSize cX5_riverSize 2 (some .int) 1 := ⟨(⟨wA 709 (by decide +kernel) (by decide +kernel), ki_X5, ⟨by decide +kernel, by decide +kernel⟩, zY_n (by decide +kernel)⟩ : zYb yX5_riverSize cX5_riverSize 2 (some .int) 1), wA 707 (by decide +kernel) (by decide +kernel), wA 708 (by decide +kernel) (by decide +kernel)⟩
theorem zY_X5_riverAt : zYv yX5_riverAt cX5_riverAt 3 (some .int) 2 := ⟨(⟨wA 721 (by decide +kernel) (by decide +kernel), ki_X5, ⟨by decide +kernel, by decide +kernel⟩, zY_n (by decide +kernel)⟩ : zYb yX5_riverAt cX5_riverAt 3 (some .int) 2), wA 719 (by decide +kernel) (by decide +kernel), wA 720 (by decide +kernel) (by decide +kernel)⟩
theorem zY_X5_riverAtAnew : zYv yX5_riverAtAnew cX5_riverAtAnew 3 (some .int) 2 := ⟨(⟨wA 733 (by decide +kernel) (by decide +kernel), ki_X5, ⟨by decide +kernel, by decide +kernel⟩, zY_n (by decide +kernel)⟩ : zYb yX5_riverAtAnew cX5_riverAtAnew 3 (some .int) 2), wA 731 (by decide +kernel) (by decide +kernel), wA 732 (by decide +kernel) (by decide +kernel)⟩
theorem zY_X5_rankOf : zYv yX5_rankOf cX5_rankOf 5 (some .int) 2 := ⟨(⟨wA 740 (by decide +kernel) (by decide +kernel), ki_X5, ⟨by decide +kernel, by decide +kernel⟩, zY_n (by decide +kernel)⟩ : zYb yX5_rankOf cX5_rankOf 5 (some .int) 2), wA 738 (by decide +kernel) (by decide +kernel), wA 739 (by decide +kernel) (by decide +kernel)⟩
theorem zY_X5_unread : zYv yX5_unread cX5_unread 2 (some .int) 1 := ⟨(⟨wA 748 (by decide +kernel) (by decide +kernel), ki_X5, ⟨by decide +kernel, by decide +kernel⟩, zY_n (by decide +kernel)⟩ : zYb yX5_unread cX5_unread 2 (some .int) 1), wA 746 (by decide +kernel) (by decide +kernel), wA 747 (by decide +kernel) (by decide +kernel)⟩
theorem zY_X5_nextUnread : zYv yX5_nextUnread cX5_nextUnread 4 (some .int) 1 := ⟨(⟨wA 767 (by decide +kernel) (by decide +kernel), ki_X5, ⟨by decide +kernel, by decide +kernel⟩, zY_n (by decide +kernel)⟩ : zYb yX5_nextUnread cX5_nextUnread 4 (some .int) 1), wA 765 (by decide +kernel) (by decide +kernel), wA 766 (by decide +kernel) (by decide +kernel)⟩
theorem zY_X5_readShare : zYv yX5_readShare cX5_readShare 3 (some .float) 1 := ⟨(⟨wA 789 (by decide +kernel) (by decide +kernel), ki_X5, ⟨by decide +kernel, by decide +kernel⟩, zY_n (by decide +kernel)⟩ : zYb yX5_readShare cX5_readShare 3 (some .float) 1), wA 787 (by decide +kernel) (by decide +kernel), wA 788 (by decide +kernel) (by decide +kernel)⟩
theorem zY_X5_addDevice : zYv yX5_addDevice cX5_addDevice 3 (some .int) 0 := ⟨(⟨wA 799 (by decide +kernel) (by decide +kernel), ki_X5, ⟨by decide +kernel, by decide +kernel⟩, zY_n (by decide +kernel)⟩ : zYb yX5_addDevice cX5_addDevice 3 (some .int) 0), wA 797 (by decide +kernel) (by decide +kernel), wA 798 (by decide +kernel) (by decide +kernel)⟩
theorem zY_X5_mark : zYv yX5_mark cX5_mark 4 (some .boolean) 3 := ⟨(⟨wA 823 (by decide +kernel) (by decide +kernel), ki_X5, ⟨by decide +kernel, by decide +kernel⟩, zY_n (by decide +kernel)⟩ : zYb yX5_mark cX5_mark 4 (some .boolean) 3), wA 821 (by decide +kernel) (by decide +kernel), wA 822 (by decide +kernel) (by decide +kernel)⟩
theorem zY_X5_markRiver : zYv yX5_markRiver cX5_markRiver 7 (some .int) 2 := ⟨(⟨wA 869 (by decide +kernel) (by decide +kernel), ki_X5, ⟨by decide +kernel, by decide +kernel⟩, zY_n (by decide +kernel)⟩ : zYb yX5_markRiver cX5_markRiver 7 (some .int) 2), wA 867 (by decide +kernel) (by decide +kernel), wA 868 (by decide +kernel) (by decide +kernel)⟩
theorem zY_X5_sync : zYv yX5_sync cX5_sync 5 (some .int) 1 := ⟨(⟨wA 876 (by decide +kernel) (by decide +kernel), ki_X5, ⟨by decide +kernel, by decide +kernel⟩, zY_n (by decide +kernel)⟩ : zYb yX5_sync cX5_sync 5 (some .int) 1), wA 874 (by decide +kernel) (by decide +kernel), wA 875 (by decide +kernel) (by decide +kernel)⟩
theorem zY_X5_isRead : zYv yX5_isRead cX5_isRead 2 (some .boolean) 1 := ⟨(⟨wA 887 (by decide +kernel) (by decide +kernel), ki_X5, ⟨by decide +kernel, by decide +kernel⟩, zY_n (by decide +kernel)⟩ : zYb yX5_isRead cX5_isRead 2 (some .boolean) 1), wA 885 (by decide +kernel) (by decide +kernel), wA 886 (by decide +kernel) (by decide +kernel)⟩
theorem zY_X5_isReadOn : zYv yX5_isReadOn cX5_isReadOn 3 (some .boolean) 2 := ⟨(⟨wA 894 (by decide +kernel) (by decide +kernel), ki_X5, ⟨by decide +kernel, by decide +kernel⟩, zY_n (by decide +kernel)⟩ : zYb yX5_isReadOn cX5_isReadOn 3 (some .boolean) 2), wA 892 (by decide +kernel) (by decide +kernel), wA 893 (by decide +kernel) (by decide +kernel)⟩
theorem zY_X5_knownVersions : zYv yX5_knownVersions cX5_knownVersions 3 (some .int) 2 := ⟨(⟨wA 901 (by decide +kernel) (by decide +kernel), ki_X5, ⟨by decide +kernel, by decide +kernel⟩, zY_n (by decide +kernel)⟩ : zYb yX5_knownVersions cX5_knownVersions 3 (some .int) 2), wA 899 (by decide +kernel) (by decide +kernel), wA 900 (by decide +kernel) (by decide +kernel)⟩
theorem zY_X5_meanVersions : zYv yX5_meanVersions cX5_meanVersions 4 (some .double) 0 := ⟨(⟨wA 908 (by decide +kernel) (by decide +kernel), ki_X5, ⟨by decide +kernel, by decide +kernel⟩, zY_n (by decide +kernel)⟩ : zYb yX5_meanVersions cX5_meanVersions 4 (some .double) 0), wA 906 (by decide +kernel) (by decide +kernel), wA 907 (by decide +kernel) (by decide +kernel)⟩
theorem zY_X5_isSound : zYv yX5_isSound cX5_isSound 3 (some .boolean) 0 := ⟨(⟨wA 238 (by decide +kernel) (by decide +kernel), ki_X5, ⟨by decide +kernel, by decide +kernel⟩, zY_n (by decide +kernel)⟩ : zYb yX5_isSound cX5_isSound 3 (some .boolean) 0), wA 236 (by decide +kernel) (by decide +kernel), wA 237 (by decide +kernel) (by decide +kernel)⟩
theorem zY_X5_requireItem : zYv yX5_requireItem cX5_requireItem 2 none 1 := ⟨(⟨wA 588 (by decide +kernel) (by decide +kernel), ki_X5, ⟨by decide +kernel, by decide +kernel⟩, zY_n (by decide +kernel)⟩ : zYb yX5_requireItem cX5_requireItem 2 none 1), wA 587 (by decide +kernel) (by decide +kernel), wA 8 (by decide +kernel) (by decide +kernel)⟩
theorem zY_X5_requireRule : zYv yX5_requireRule cX5_requireRule 2 none 1 := ⟨(⟨wA 662 (by decide +kernel) (by decide +kernel), ki_X5, ⟨by decide +kernel, by decide +kernel⟩, zY_n (by decide +kernel)⟩ : zYb yX5_requireRule cX5_requireRule 2 none 1), wA 661 (by decide +kernel) (by decide +kernel), wA 9 (by decide +kernel) (by decide +kernel)⟩
theorem zY_X5_requireRiver : zYv yX5_requireRiver cX5_requireRiver 2 none 1 := ⟨(⟨wA 713 (by decide +kernel) (by decide +kernel), ki_X5, ⟨by decide +kernel, by decide +kernel⟩, zY_n (by decide +kernel)⟩ : zYb yX5_requireRiver cX5_requireRiver 2 none 1), wA 712 (by decide +kernel) (by decide +kernel), wA 10 (by decide +kernel) (by decide +kernel)⟩
theorem zY_X5_requireDevice : zYv yX5_requireDevice cX5_requireDevice 2 none 1 := ⟨(⟨wA 827 (by decide +kernel) (by decide +kernel), ki_X5, ⟨by decide +kernel, by decide +kernel⟩, zY_n (by decide +kernel)⟩ : zYb yX5_requireDevice cX5_requireDevice 2 none 1), wA 826 (by decide +kernel) (by decide +kernel), wA 15 (by decide +kernel) (by decide +kernel)⟩
theorem zY_X5_requireKnown : zYv yX5_requireKnown cX5_requireKnown 3 none 2 := ⟨(⟨wA 836 (by decide +kernel) (by decide +kernel), ki_X5, ⟨by decide +kernel, by decide +kernel⟩, zY_n (by decide +kernel)⟩ : zYb yX5_requireKnown cX5_requireKnown 3 none 2), wA 835 (by decide +kernel) (by decide +kernel), wA 16 (by decide +kernel) (by decide +kernel)⟩
theorem zY_X5_isKeyOrNone : zYs yX5_isKeyOrNone cX5_isKeyOrNone 1 (some .boolean) 1 := ⟨(⟨wA 492 (by decide +kernel) (by decide +kernel), ki_X5, ⟨by decide +kernel, by decide +kernel⟩, zY_n (by decide +kernel)⟩ : zYb yX5_isKeyOrNone cX5_isKeyOrNone 1 (some .boolean) 1), wA 491 (by decide +kernel) (by decide +kernel)⟩
theorem zY_X5_isMinuteOrNone : zYs yX5_isMinuteOrNone cX5_isMinuteOrNone 1 (some .boolean) 1 := ⟨(⟨wA 495 (by decide +kernel) (by decide +kernel), ki_X5, ⟨by decide +kernel, by decide +kernel⟩, zY_n (by decide +kernel)⟩ : zYb yX5_isMinuteOrNone cX5_isMinuteOrNone 1 (some .boolean) 1), wA 494 (by decide +kernel) (by decide +kernel)⟩
theorem zY_X5_isTagOrNone : zYs yX5_isTagOrNone cX5_isTagOrNone 1 (some .boolean) 1 := ⟨(⟨wA 645 (by decide +kernel) (by decide +kernel), ki_X5, ⟨by decide +kernel, by decide +kernel⟩, zY_n (by decide +kernel)⟩ : zYb yX5_isTagOrNone cX5_isTagOrNone 1 (some .boolean) 1), wA 644 (by decide +kernel) (by decide +kernel)⟩
theorem zY_X5_percentInCommon : zYs yX5_percentInCommon cX5_percentInCommon 5 (some .int) 2 := ⟨(⟨wA 431 (by decide +kernel) (by decide +kernel), ki_X5, ⟨by decide +kernel, by decide +kernel⟩, zY_n (by decide +kernel)⟩ : zYb yX5_percentInCommon cX5_percentInCommon 5 (some .int) 2), wA 430 (by decide +kernel) (by decide +kernel)⟩
theorem zY_X5_findFetched : zYv yX5_findFetched cX5_findFetched 7 (some .int) 4 := ⟨(⟨wA 500 (by decide +kernel) (by decide +kernel), ki_X5, ⟨by decide +kernel, by decide +kernel⟩, zY_n (by decide +kernel)⟩ : zYb yX5_findFetched cX5_findFetched 7 (some .int) 4), wA 499 (by decide +kernel) (by decide +kernel), wA 5 (by decide +kernel) (by decide +kernel)⟩
theorem zY_X5_timeFrom : zYv yX5_timeFrom cX5_timeFrom 2 (some .int) 1 := ⟨(⟨wA 518 (by decide +kernel) (by decide +kernel), ki_X5, ⟨by decide +kernel, by decide +kernel⟩, zY_n (by decide +kernel)⟩ : zYb yX5_timeFrom cX5_timeFrom 2 (some .int) 1), wA 517 (by decide +kernel) (by decide +kernel), wA 6 (by decide +kernel) (by decide +kernel)⟩
theorem zY_X5_hasTagOrNeedsNone : zYs yX5_hasTagOrNeedsNone cX5_hasTagOrNeedsNone 2 (some .boolean) 2 := ⟨(⟨wA 299 (by decide +kernel) (by decide +kernel), ki_X5, ⟨by decide +kernel, by decide +kernel⟩, zY_n (by decide +kernel)⟩ : zYb yX5_hasTagOrNeedsNone cX5_hasTagOrNeedsNone 2 (some .boolean) 2), wA 298 (by decide +kernel) (by decide +kernel)⟩
theorem zY_X5_outcomeOf : zYv yX5_outcomeOf cX5_outcomeOf 2 (some .int) 1 := ⟨(⟨wA 270 (by decide +kernel) (by decide +kernel), ki_X5, ⟨by decide +kernel, by decide +kernel⟩, zY_n (by decide +kernel)⟩ : zYb yX5_outcomeOf cX5_outcomeOf 2 (some .int) 1), wA 269 (by decide +kernel) (by decide +kernel), wA 3 (by decide +kernel) (by decide +kernel)⟩
theorem zY_X5_gather : zYv yX5_gather cX5_gather 7 (some .int) 3 := ⟨(⟨wA 262 (by decide +kernel) (by decide +kernel), ki_X5, ⟨by decide +kernel, by decide +kernel⟩, zY_n (by decide +kernel)⟩ : zYb yX5_gather cX5_gather 7 (some .int) 3), wA 261 (by decide +kernel) (by decide +kernel), wA 2 (by decide +kernel) (by decide +kernel)⟩
theorem zY_X5_shownAt : zYv yX5_shownAt cX5_shownAt 5 (some .int) 3 := ⟨(⟨wA 725 (by decide +kernel) (by decide +kernel), ki_X5, ⟨by decide +kernel, by decide +kernel⟩, zY_n (by decide +kernel)⟩ : zYb yX5_shownAt cX5_shownAt 5 (some .int) 3), wA 724 (by decide +kernel) (by decide +kernel), wA 11 (by decide +kernel) (by decide +kernel)⟩
theorem zY_X5_countUnread : zYv yX5_countUnread cX5_countUnread 4 (some .int) 1 := ⟨(⟨wA 752 (by decide +kernel) (by decide +kernel), ki_X5, ⟨by decide +kernel, by decide +kernel⟩, zY_n (by decide +kernel)⟩ : zYb yX5_countUnread cX5_countUnread 4 (some .int) 1), wA 751 (by decide +kernel) (by decide +kernel), wA 12 (by decide +kernel) (by decide +kernel)⟩
theorem zY_X5_isSoundRiver : zYv yX5_isSoundRiver cX5_isSoundRiver 7 (some .boolean) 2 := ⟨(⟨wA 254 (by decide +kernel) (by decide +kernel), ki_X5, ⟨by decide +kernel, by decide +kernel⟩, zY_n (by decide +kernel)⟩ : zYb yX5_isSoundRiver cX5_isSoundRiver 7 (some .boolean) 2), wA 253 (by decide +kernel) (by decide +kernel), wA 1 (by decide +kernel) (by decide +kernel)⟩
theorem zY_X5_isReadByReader : zYv yX5_isReadByReader cX5_isReadByReader 2 (some .boolean) 1 := ⟨(⟨wA 756 (by decide +kernel) (by decide +kernel), ki_X5, ⟨by decide +kernel, by decide +kernel⟩, zY_n (by decide +kernel)⟩ : zYb yX5_isReadByReader cX5_isReadByReader 2 (some .boolean) 1), wA 755 (by decide +kernel) (by decide +kernel), wA 13 (by decide +kernel) (by decide +kernel)⟩
theorem zY_X5_isReadByDevice : zYv yX5_isReadByDevice cX5_isReadByDevice 3 (some .boolean) 2 := ⟨(⟨wA 853 (by decide +kernel) (by decide +kernel), ki_X5, ⟨by decide +kernel, by decide +kernel⟩, zY_n (by decide +kernel)⟩ : zYb yX5_isReadByDevice cX5_isReadByDevice 3 (some .boolean) 2), wA 852 (by decide +kernel) (by decide +kernel), wA 18 (by decide +kernel) (by decide +kernel)⟩
theorem zY_X5_markKnown : zYv yX5_markKnown cX5_markKnown 5 (some .boolean) 3 := ⟨(⟨wA 849 (by decide +kernel) (by decide +kernel), ki_X5, ⟨by decide +kernel, by decide +kernel⟩, zY_n (by decide +kernel)⟩ : zYb yX5_markKnown cX5_markKnown 5 (some .boolean) 3), wA 848 (by decide +kernel) (by decide +kernel), wA 17 (by decide +kernel) (by decide +kernel)⟩
theorem zY_X5_bringUpToDate : zYv yX5_bringUpToDate cX5_bringUpToDate 3 none 2 := ⟨(⟨wA 808 (by decide +kernel) (by decide +kernel), ki_X5, ⟨by decide +kernel, by decide +kernel⟩, zY_n (by decide +kernel)⟩ : zYb yX5_bringUpToDate cX5_bringUpToDate 3 none 2), wA 807 (by decide +kernel) (by decide +kernel), wA 14 (by decide +kernel) (by decide +kernel)⟩
theorem zY_X6_init : zYi yX6_init cX6_init 1 0 := ⟨(⟨wA 914 (by decide +kernel) (by decide +kernel), ki_X6, ⟨by decide +kernel, by decide +kernel⟩, zY_n (by decide +kernel)⟩ : zYb yX6_init cX6_init 1 none 0), rfl, wA 913 (by decide +kernel) (by decide +kernel)⟩
theorem zY_X6_thrown : zYv yX6_thrown cX6_thrown 1 (some .int) 0 := ⟨(⟨wA 1031 (by decide +kernel) (by decide +kernel), ki_X6, ⟨by decide +kernel, by decide +kernel⟩, zY_n (by decide +kernel)⟩ : zYb yX6_thrown cX6_thrown 1 (some .int) 0), wA 1029 (by decide +kernel) (by decide +kernel), wA 1030 (by decide +kernel) (by decide +kernel)⟩
theorem zY_X6_in : zYs yX6_in cX6_in 3 (some .boolean) 3 := ⟨(⟨wA 1038 (by decide +kernel) (by decide +kernel), ki_X6, ⟨by decide +kernel, by decide +kernel⟩, zY_n (by decide +kernel)⟩ : zYb yX6_in cX6_in 3 (some .boolean) 3), wA 1037 (by decide +kernel) (by decide +kernel)⟩
theorem zY_X6_plain : zYv yX6_plain cX6_plain 2 (some .int) 1 := ⟨(⟨wA 1047 (by decide +kernel) (by decide +kernel), ki_X6, ⟨by decide +kernel, by decide +kernel⟩, zY_n (by decide +kernel)⟩ : zYb yX6_plain cX6_plain 2 (some .int) 1), wA 1046 (by decide +kernel) (by decide +kernel), wA 19 (by decide +kernel) (by decide +kernel)⟩
theorem zY_X6_checked : zYv yX6_checked cX6_checked 2 (some .int) 1 := ⟨(⟨wA 1055 (by decide +kernel) (by decide +kernel), ki_X6, ⟨by decide +kernel, by decide +kernel⟩, zY_n (by decide +kernel)⟩ : zYb yX6_checked cX6_checked 2 (some .int) 1), wA 1054 (by decide +kernel) (by decide +kernel), wA 20 (by decide +kernel) (by decide +kernel)⟩
theorem zY_X6_bits : zYs yX6_bits cX6_bits 4 (some .int) 1 := ⟨(⟨wA 1069 (by decide +kernel) (by decide +kernel), ki_X6, ⟨by decide +kernel, by decide +kernel⟩, zY_n (by decide +kernel)⟩ : zYb yX6_bits cX6_bits 4 (some .int) 1), wA 1068 (by decide +kernel) (by decide +kernel)⟩
theorem zY_X6_likenessOf : zYs yX6_likenessOf cX6_likenessOf 4 (some .int) 2 := ⟨(⟨wA 1066 (by decide +kernel) (by decide +kernel), ki_X6, ⟨by decide +kernel, by decide +kernel⟩, zY_n (by decide +kernel)⟩ : zYb yX6_likenessOf cX6_likenessOf 4 (some .int) 2), wA 1065 (by decide +kernel) (by decide +kernel)⟩
theorem zY_X6_pass : zYv yX6_pass cX6_pass 2 (some .int) 1 := ⟨(⟨wA 1035 (by decide +kernel) (by decide +kernel), ki_X6, ⟨by decide +kernel, by decide +kernel⟩, zY_n (by decide +kernel)⟩ : zYb yX6_pass cX6_pass 2 (some .int) 1), wA 1033 (by decide +kernel) (by decide +kernel), wA 1034 (by decide +kernel) (by decide +kernel)⟩
theorem zY_X6_now : zYv yX6_now cX6_now 1 (some .int) 0 := ⟨(⟨wA 1043 (by decide +kernel) (by decide +kernel), ki_X6, ⟨by decide +kernel, by decide +kernel⟩, zY_n (by decide +kernel)⟩ : zYb yX6_now cX6_now 1 (some .int) 0), wA 1041 (by decide +kernel) (by decide +kernel), wA 1042 (by decide +kernel) (by decide +kernel)⟩
theorem zY_X6_setThreshold : zYv yX6_setThreshold cX6_setThreshold 3 (some .int) 1 := ⟨(⟨wA 1051 (by decide +kernel) (by decide +kernel), ki_X6, ⟨by decide +kernel, by decide +kernel⟩, zY_n (by decide +kernel)⟩ : zYb yX6_setThreshold cX6_setThreshold 3 (some .int) 1), wA 1049 (by decide +kernel) (by decide +kernel), wA 1050 (by decide +kernel) (by decide +kernel)⟩
theorem zY_X6_setWindow : zYv yX6_setWindow cX6_setWindow 3 (some .int) 1 := ⟨(⟨wA 1059 (by decide +kernel) (by decide +kernel), ki_X6, ⟨by decide +kernel, by decide +kernel⟩, zY_n (by decide +kernel)⟩ : zYb yX6_setWindow cX6_setWindow 3 (some .int) 1), wA 1057 (by decide +kernel) (by decide +kernel), wA 1058 (by decide +kernel) (by decide +kernel)⟩
theorem zY_X6_likeness : zYv yX6_likeness cX6_likeness 5 (some .int) 2 := ⟨(⟨wA 1063 (by decide +kernel) (by decide +kernel), ki_X6, ⟨by decide +kernel, by decide +kernel⟩, zY_n (by decide +kernel)⟩ : zYb yX6_likeness cX6_likeness 5 (some .int) 2), wA 1061 (by decide +kernel) (by decide +kernel), wA 1062 (by decide +kernel) (by decide +kernel)⟩
theorem zY_X6_addSource : zYv yX6_addSource cX6_addSource 1 (some .int) 0 := ⟨(⟨wA 1073 (by decide +kernel) (by decide +kernel), ki_X6, ⟨by decide +kernel, by decide +kernel⟩, zY_n (by decide +kernel)⟩ : zYb yX6_addSource cX6_addSource 1 (some .int) 0), wA 1071 (by decide +kernel) (by decide +kernel), wA 1072 (by decide +kernel) (by decide +kernel)⟩
theorem zY_X6_pairAt : zYv yX6_pairAt cX6_pairAt 4 (some .int) 2 := ⟨(⟨wA 1085 (by decide +kernel) (by decide +kernel), ki_X6, ⟨by decide +kernel, by decide +kernel⟩, zY_n (by decide +kernel)⟩ : zYb yX6_pairAt cX6_pairAt 4 (some .int) 2), wA 1084 (by decide +kernel) (by decide +kernel), wA 22 (by decide +kernel) (by decide +kernel)⟩
theorem zY_X6_linkAt : zYv yX6_linkAt cX6_linkAt 3 (some .int) 1 := ⟨(⟨wA 1089 (by decide +kernel) (by decide +kernel), ki_X6, ⟨by decide +kernel, by decide +kernel⟩, zY_n (by decide +kernel)⟩ : zYb yX6_linkAt cX6_linkAt 3 (some .int) 1), wA 1088 (by decide +kernel) (by decide +kernel), wA 23 (by decide +kernel) (by decide +kernel)⟩
theorem zY_X6_latest : zYv yX6_latest cX6_latest 2 (some .long) 1 := ⟨(⟨wA 1097 (by decide +kernel) (by decide +kernel), ki_X6, ⟨by decide +kernel, by decide +kernel⟩, zY_n (by decide +kernel)⟩ : zYb yX6_latest cX6_latest 2 (some .long) 1), wA 1096 (by decide +kernel) (by decide +kernel), wA 25 (by decide +kernel) (by decide +kernel)⟩
theorem zY_X6_likest : zYv yX6_likest cX6_likest 6 (some .int) 1 := ⟨(⟨wA 1093 (by decide +kernel) (by decide +kernel), ki_X6, ⟨by decide +kernel, by decide +kernel⟩, zY_n (by decide +kernel)⟩ : zYb yX6_likest cX6_likest 6 (some .int) 1), wA 1092 (by decide +kernel) (by decide +kernel), wA 24 (by decide +kernel) (by decide +kernel)⟩
theorem zY_X6_found : zYv yX6_found cX6_found 7 (some .int) 4 := ⟨(⟨wA 1081 (by decide +kernel) (by decide +kernel), ki_X6, ⟨by decide +kernel, by decide +kernel⟩, zY_n (by decide +kernel)⟩ : zYb yX6_found cX6_found 7 (some .int) 4), wA 1080 (by decide +kernel) (by decide +kernel), wA 21 (by decide +kernel) (by decide +kernel)⟩
theorem zY_X6_adds : zYv yX6_adds cX6_adds 4 none 2 := ⟨(⟨wA 1101 (by decide +kernel) (by decide +kernel), ki_X6, ⟨by decide +kernel, by decide +kernel⟩, zY_n (by decide +kernel)⟩ : zYb yX6_adds cX6_adds 4 none 2), wA 1100 (by decide +kernel) (by decide +kernel), wA 26 (by decide +kernel) (by decide +kernel)⟩
theorem zY_X6_changes : zYv yX6_changes cX6_changes 4 none 2 := ⟨(⟨wA 1105 (by decide +kernel) (by decide +kernel), ki_X6, ⟨by decide +kernel, by decide +kernel⟩, zY_n (by decide +kernel)⟩ : zYb yX6_changes cX6_changes 4 none 2), wA 1104 (by decide +kernel) (by decide +kernel), wA 27 (by decide +kernel) (by decide +kernel)⟩
theorem zY_X6_fetch : zYv yX6_fetch cX6_fetch 8 (some .int) 5 := ⟨(⟨wA 1077 (by decide +kernel) (by decide +kernel), ki_X6, ⟨by decide +kernel, by decide +kernel⟩, zY_n (by decide +kernel)⟩ : zYb yX6_fetch cX6_fetch 8 (some .int) 5), wA 1075 (by decide +kernel) (by decide +kernel), wA 1076 (by decide +kernel) (by decide +kernel)⟩
theorem zY_X6_items : zYv yX6_items cX6_items 1 (some .int) 0 := ⟨(⟨wA 1109 (by decide +kernel) (by decide +kernel), ki_X6, ⟨by decide +kernel, by decide +kernel⟩, zY_n (by decide +kernel)⟩ : zYb yX6_items cX6_items 1 (some .int) 0), wA 1107 (by decide +kernel) (by decide +kernel), wA 1108 (by decide +kernel) (by decide +kernel)⟩
theorem zY_X6_withIdentifier : zYv yX6_withIdentifier cX6_withIdentifier 3 (some .int) 2 := ⟨(⟨wA 1113 (by decide +kernel) (by decide +kernel), ki_X6, ⟨by decide +kernel, by decide +kernel⟩, zY_n (by decide +kernel)⟩ : zYb yX6_withIdentifier cX6_withIdentifier 3 (some .int) 2), wA 1111 (by decide +kernel) (by decide +kernel), wA 1112 (by decide +kernel) (by decide +kernel)⟩
theorem zY_X6_withLink : zYv yX6_withLink cX6_withLink 2 (some .int) 1 := ⟨(⟨wA 1117 (by decide +kernel) (by decide +kernel), ki_X6, ⟨by decide +kernel, by decide +kernel⟩, zY_n (by decide +kernel)⟩ : zYb yX6_withLink cX6_withLink 2 (some .int) 1), wA 1115 (by decide +kernel) (by decide +kernel), wA 1116 (by decide +kernel) (by decide +kernel)⟩
theorem zY_X6_isItem : zYv yX6_isItem cX6_isItem 2 (some .boolean) 1 := ⟨(⟨wA 1125 (by decide +kernel) (by decide +kernel), ki_X6, ⟨by decide +kernel, by decide +kernel⟩, zY_n (by decide +kernel)⟩ : zYb yX6_isItem cX6_isItem 2 (some .boolean) 1), wA 1124 (by decide +kernel) (by decide +kernel), wA 28 (by decide +kernel) (by decide +kernel)⟩
theorem zY_X6_title : zYv yX6_title cX6_title 3 (some .long) 2 := ⟨(⟨wA 1121 (by decide +kernel) (by decide +kernel), ki_X6, ⟨by decide +kernel, by decide +kernel⟩, zY_n (by decide +kernel)⟩ : zYb yX6_title cX6_title 3 (some .long) 2), wA 1119 (by decide +kernel) (by decide +kernel), wA 1120 (by decide +kernel) (by decide +kernel)⟩
theorem zY_X6_versions : zYv yX6_versions cX6_versions 2 (some .int) 1 := ⟨(⟨wA 1129 (by decide +kernel) (by decide +kernel), ki_X6, ⟨by decide +kernel, by decide +kernel⟩, zY_n (by decide +kernel)⟩ : zYb yX6_versions cX6_versions 2 (some .int) 1), wA 1127 (by decide +kernel) (by decide +kernel), wA 1128 (by decide +kernel) (by decide +kernel)⟩
theorem zY_X6_latestMajor : zYv yX6_latestMajor cX6_latestMajor 2 (some .int) 1 := ⟨(⟨wA 1133 (by decide +kernel) (by decide +kernel), ki_X6, ⟨by decide +kernel, by decide +kernel⟩, zY_n (by decide +kernel)⟩ : zYb yX6_latestMajor cX6_latestMajor 2 (some .int) 1), wA 1131 (by decide +kernel) (by decide +kernel), wA 1132 (by decide +kernel) (by decide +kernel)⟩
theorem zY_X6_sourcesOf : zYv yX6_sourcesOf cX6_sourcesOf 2 (some .int) 1 := ⟨(⟨wA 1137 (by decide +kernel) (by decide +kernel), ki_X6, ⟨by decide +kernel, by decide +kernel⟩, zY_n (by decide +kernel)⟩ : zYb yX6_sourcesOf cX6_sourcesOf 2 (some .int) 1), wA 1135 (by decide +kernel) (by decide +kernel), wA 1136 (by decide +kernel) (by decide +kernel)⟩
theorem zY_X6_timeOf : zYv yX6_timeOf cX6_timeOf 2 (some .int) 1 := ⟨(⟨wA 1141 (by decide +kernel) (by decide +kernel), ki_X6, ⟨by decide +kernel, by decide +kernel⟩, zY_n (by decide +kernel)⟩ : zYb yX6_timeOf cX6_timeOf 2 (some .int) 1), wA 1139 (by decide +kernel) (by decide +kernel), wA 1140 (by decide +kernel) (by decide +kernel)⟩
theorem zY_X6_addRule : zYv yX6_addRule cX6_addRule 8 (some .int) 5 := ⟨(⟨wA 1145 (by decide +kernel) (by decide +kernel), ki_X6, ⟨by decide +kernel, by decide +kernel⟩, zY_n (by decide +kernel)⟩ : zYb yX6_addRule cX6_addRule 8 (some .int) 5), wA 1143 (by decide +kernel) (by decide +kernel), wA 1144 (by decide +kernel) (by decide +kernel)⟩
theorem zY_X6_dropRule : zYv yX6_dropRule cX6_dropRule 3 (some .int) 1 := ⟨(⟨wA 1149 (by decide +kernel) (by decide +kernel), ki_X6, ⟨by decide +kernel, by decide +kernel⟩, zY_n (by decide +kernel)⟩ : zYb yX6_dropRule cX6_dropRule 3 (some .int) 1), wA 1147 (by decide +kernel) (by decide +kernel), wA 1148 (by decide +kernel) (by decide +kernel)⟩
theorem zY_X6_holds : zYv yX6_holds cX6_holds 7 (some .boolean) 2 := ⟨(⟨wA 1161 (by decide +kernel) (by decide +kernel), ki_X6, ⟨by decide +kernel, by decide +kernel⟩, zY_n (by decide +kernel)⟩ : zYb yX6_holds cX6_holds 7 (some .boolean) 2), wA 1160 (by decide +kernel) (by decide +kernel), wA 30 (by decide +kernel) (by decide +kernel)⟩
theorem zY_X6_goes : zYv yX6_goes cX6_goes 3 none 1 := ⟨(⟨wA 1157 (by decide +kernel) (by decide +kernel), ki_X6, ⟨by decide +kernel, by decide +kernel⟩, zY_n (by decide +kernel)⟩ : zYb yX6_goes cX6_goes 3 none 1), wA 1156 (by decide +kernel) (by decide +kernel), wA 29 (by decide +kernel) (by decide +kernel)⟩
theorem zY_X6_tagsOf : zYv yX6_tagsOf cX6_tagsOf 2 (some .int) 1 := ⟨(⟨wA 1153 (by decide +kernel) (by decide +kernel), ki_X6, ⟨by decide +kernel, by decide +kernel⟩, zY_n (by decide +kernel)⟩ : zYb yX6_tagsOf cX6_tagsOf 2 (some .int) 1), wA 1151 (by decide +kernel) (by decide +kernel), wA 1152 (by decide +kernel) (by decide +kernel)⟩
theorem zY_X6_isHidden : zYv yX6_isHidden cX6_isHidden 2 (some .boolean) 1 := ⟨(⟨wA 1165 (by decide +kernel) (by decide +kernel), ki_X6, ⟨by decide +kernel, by decide +kernel⟩, zY_n (by decide +kernel)⟩ : zYb yX6_isHidden cX6_isHidden 2 (some .boolean) 1), wA 1163 (by decide +kernel) (by decide +kernel), wA 1164 (by decide +kernel) (by decide +kernel)⟩
theorem zY_X6_matches : zYv yX6_matches cX6_matches 4 (some .int) 1 := ⟨(⟨wA 1169 (by decide +kernel) (by decide +kernel), ki_X6, ⟨by decide +kernel, by decide +kernel⟩, zY_n (by decide +kernel)⟩ : zYb yX6_matches cX6_matches 4 (some .int) 1), wA 1167 (by decide +kernel) (by decide +kernel), wA 1168 (by decide +kernel) (by decide +kernel)⟩
theorem zY_X6_addRiver : zYv yX6_addRiver cX6_addRiver 3 (some .int) 2 := ⟨(⟨wA 1173 (by decide +kernel) (by decide +kernel), ki_X6, ⟨by decide +kernel, by decide +kernel⟩, zY_n (by decide +kernel)⟩ : zYb yX6_addRiver cX6_addRiver 3 (some .int) 2), wA 1171 (by decide +kernel) (by decide +kernel), wA 1172 (by decide +kernel) (by decide +kernel)⟩
theorem zY_X6_isRiver : zYv yX6_isRiver cX6_isRiver 2 (some .boolean) 1 := ⟨(⟨wA 1181 (by decide +kernel) (by decide +kernel), ki_X6, ⟨by decide +kernel, by decide +kernel⟩, zY_n (by decide +kernel)⟩ : zYb yX6_isRiver cX6_isRiver 2 (some .boolean) 1), wA 1180 (by decide +kernel) (by decide +kernel), wA 31 (by decide +kernel) (by decide +kernel)⟩
theorem zY_X6_shows : zYv yX6_shows cX6_shows 3 (some .boolean) 2 := ⟨(⟨wA 1189 (by decide +kernel) (by decide +kernel), ki_X6, ⟨by decide +kernel, by decide +kernel⟩, zY_n (by decide +kernel)⟩ : zYb yX6_shows cX6_shows 3 (some .boolean) 2), wA 1188 (by decide +kernel) (by decide +kernel), wA 33 (by decide +kernel) (by decide +kernel)⟩
theorem zY_X6_sizeOf : zYv yX6_sizeOf cX6_sizeOf 4 (some .int) 1 := ⟨(⟨wA 1185 (by decide +kernel) (by decide +kernel), ki_X6, ⟨by decide +kernel, by decide +kernel⟩, zY_n (by decide +kernel)⟩ : zYb yX6_sizeOf cX6_sizeOf 4 (some .int) 1), wA 1184 (by decide +kernel) (by decide +kernel), wA 32 (by decide +kernel) (by decide +kernel)⟩
theorem zY_X6_riverSize : zYv yX6_riverSize cX6_riverSize 2 (some .int) 1 := ⟨(⟨wA 1177 (by decide +kernel) (by decide +kernel), ki_X6, ⟨by decide +kernel, by decide +kernel⟩, zY_n (by decide +kernel)⟩ : zYb yX6_riverSize cX6_riverSize 2 (some .int) 1), wA 1175 (by decide +kernel) (by decide +kernel), wA 1176 (by decide +kernel) (by decide +kernel)⟩
theorem zY_X6_ahead : zYv yX6_ahead cX6_ahead 6 (some .int) 2 := ⟨(⟨wA 1201 (by decide +kernel) (by decide +kernel), ki_X6, ⟨by decide +kernel, by decide +kernel⟩, zY_n (by decide +kernel)⟩ : zYb yX6_ahead cX6_ahead 6 (some .int) 2), wA 1200 (by decide +kernel) (by decide +kernel), wA 35 (by decide +kernel) (by decide +kernel)⟩
theorem zY_X6_itemAt : zYv yX6_itemAt cX6_itemAt 4 (some .int) 2 := ⟨(⟨wA 1197 (by decide +kernel) (by decide +kernel), ki_X6, ⟨by decide +kernel, by decide +kernel⟩, zY_n (by decide +kernel)⟩ : zYb yX6_itemAt cX6_itemAt 4 (some .int) 2), wA 1196 (by decide +kernel) (by decide +kernel), wA 34 (by decide +kernel) (by decide +kernel)⟩
theorem zY_X6_riverAt : zYv yX6_riverAt cX6_riverAt 3 (some .int) 2 := ⟨(⟨wA 1193 (by decide +kernel) (by decide +kernel), ki_X6, ⟨by decide +kernel, by decide +kernel⟩, zY_n (by decide +kernel)⟩ : zYb yX6_riverAt cX6_riverAt 3 (some .int) 2), wA 1191 (by decide +kernel) (by decide +kernel), wA 1192 (by decide +kernel) (by decide +kernel)⟩
theorem zY_X6_riverAtAnew : zYv yX6_riverAtAnew cX6_riverAtAnew 3 (some .int) 2 := ⟨(⟨wA 1205 (by decide +kernel) (by decide +kernel), ki_X6, ⟨by decide +kernel, by decide +kernel⟩, zY_n (by decide +kernel)⟩ : zYb yX6_riverAtAnew cX6_riverAtAnew 3 (some .int) 2), wA 1203 (by decide +kernel) (by decide +kernel), wA 1204 (by decide +kernel) (by decide +kernel)⟩
theorem zY_X6_rankOf : zYv yX6_rankOf cX6_rankOf 3 (some .int) 2 := ⟨(⟨wA 1210 (by decide +kernel) (by decide +kernel), ki_X6, ⟨by decide +kernel, by decide +kernel⟩, zY_n (by decide +kernel)⟩ : zYb yX6_rankOf cX6_rankOf 3 (some .int) 2), wA 1208 (by decide +kernel) (by decide +kernel), wA 1209 (by decide +kernel) (by decide +kernel)⟩
theorem zY_X6_isReadBy : zYv yX6_isReadBy cX6_isReadBy 4 (some .boolean) 3 := ⟨(⟨wA 1226 (by decide +kernel) (by decide +kernel), ki_X6, ⟨by decide +kernel, by decide +kernel⟩, zY_n (by decide +kernel)⟩ : zYb yX6_isReadBy cX6_isReadBy 4 (some .boolean) 3), wA 1225 (by decide +kernel) (by decide +kernel), wA 38 (by decide +kernel) (by decide +kernel)⟩
theorem zY_X6_isReadNow : zYv yX6_isReadNow cX6_isReadNow 2 (some .boolean) 1 := ⟨(⟨wA 1222 (by decide +kernel) (by decide +kernel), ki_X6, ⟨by decide +kernel, by decide +kernel⟩, zY_n (by decide +kernel)⟩ : zYb yX6_isReadNow cX6_isReadNow 2 (some .boolean) 1), wA 1221 (by decide +kernel) (by decide +kernel), wA 37 (by decide +kernel) (by decide +kernel)⟩
theorem zY_X6_unreadIn : zYv yX6_unreadIn cX6_unreadIn 4 (some .int) 1 := ⟨(⟨wA 1218 (by decide +kernel) (by decide +kernel), ki_X6, ⟨by decide +kernel, by decide +kernel⟩, zY_n (by decide +kernel)⟩ : zYb yX6_unreadIn cX6_unreadIn 4 (some .int) 1), wA 1217 (by decide +kernel) (by decide +kernel), wA 36 (by decide +kernel) (by decide +kernel)⟩
theorem zY_X6_unread : zYv yX6_unread cX6_unread 2 (some .int) 1 := ⟨(⟨wA 1214 (by decide +kernel) (by decide +kernel), ki_X6, ⟨by decide +kernel, by decide +kernel⟩, zY_n (by decide +kernel)⟩ : zYb yX6_unread cX6_unread 2 (some .int) 1), wA 1212 (by decide +kernel) (by decide +kernel), wA 1213 (by decide +kernel) (by decide +kernel)⟩
theorem zY_X6_nextUnread : zYv yX6_nextUnread cX6_nextUnread 3 (some .int) 1 := ⟨(⟨wA 1230 (by decide +kernel) (by decide +kernel), ki_X6, ⟨by decide +kernel, by decide +kernel⟩, zY_n (by decide +kernel)⟩ : zYb yX6_nextUnread cX6_nextUnread 3 (some .int) 1), wA 1228 (by decide +kernel) (by decide +kernel), wA 1229 (by decide +kernel) (by decide +kernel)⟩
theorem zY_X6_readShare : zYv yX6_readShare cX6_readShare 2 (some .float) 1 := ⟨(⟨wA 1234 (by decide +kernel) (by decide +kernel), ki_X6, ⟨by decide +kernel, by decide +kernel⟩, zY_n (by decide +kernel)⟩ : zYb yX6_readShare cX6_readShare 2 (some .float) 1), wA 1232 (by decide +kernel) (by decide +kernel), wA 1233 (by decide +kernel) (by decide +kernel)⟩
theorem zY_X6_copies : zYv yX6_copies cX6_copies 4 none 3 := ⟨(⟨wA 1242 (by decide +kernel) (by decide +kernel), ki_X6, ⟨by decide +kernel, by decide +kernel⟩, zY_n (by decide +kernel)⟩ : zYb yX6_copies cX6_copies 4 none 3), wA 1241 (by decide +kernel) (by decide +kernel), wA 39 (by decide +kernel) (by decide +kernel)⟩
theorem zY_X6_learns : zYv yX6_learns cX6_learns 3 none 1 := ⟨(⟨wA 1246 (by decide +kernel) (by decide +kernel), ki_X6, ⟨by decide +kernel, by decide +kernel⟩, zY_n (by decide +kernel)⟩ : zYb yX6_learns cX6_learns 3 none 1), wA 1245 (by decide +kernel) (by decide +kernel), wA 40 (by decide +kernel) (by decide +kernel)⟩
theorem zY_X6_addDevice : zYv yX6_addDevice cX6_addDevice 2 (some .int) 0 := ⟨(⟨wA 1238 (by decide +kernel) (by decide +kernel), ki_X6, ⟨by decide +kernel, by decide +kernel⟩, zY_n (by decide +kernel)⟩ : zYb yX6_addDevice cX6_addDevice 2 (some .int) 0), wA 1236 (by decide +kernel) (by decide +kernel), wA 1237 (by decide +kernel) (by decide +kernel)⟩
theorem zY_X6_isDevice : zYv yX6_isDevice cX6_isDevice 2 (some .boolean) 1 := ⟨(⟨wA 1254 (by decide +kernel) (by decide +kernel), ki_X6, ⟨by decide +kernel, by decide +kernel⟩, zY_n (by decide +kernel)⟩ : zYb yX6_isDevice cX6_isDevice 2 (some .boolean) 1), wA 1253 (by decide +kernel) (by decide +kernel), wA 41 (by decide +kernel) (by decide +kernel)⟩
theorem zY_X6_knows : zYv yX6_knows cX6_knows 3 (some .boolean) 2 := ⟨(⟨wA 1258 (by decide +kernel) (by decide +kernel), ki_X6, ⟨by decide +kernel, by decide +kernel⟩, zY_n (by decide +kernel)⟩ : zYb yX6_knows cX6_knows 3 (some .boolean) 2), wA 1257 (by decide +kernel) (by decide +kernel), wA 42 (by decide +kernel) (by decide +kernel)⟩
theorem zY_X6_isReadAt : zYv yX6_isReadAt cX6_isReadAt 3 (some .boolean) 2 := ⟨(⟨wA 1262 (by decide +kernel) (by decide +kernel), ki_X6, ⟨by decide +kernel, by decide +kernel⟩, zY_n (by decide +kernel)⟩ : zYb yX6_isReadAt cX6_isReadAt 3 (some .boolean) 2), wA 1261 (by decide +kernel) (by decide +kernel), wA 43 (by decide +kernel) (by decide +kernel)⟩
theorem zY_X6_marks : zYv yX6_marks cX6_marks 4 none 3 := ⟨(⟨wA 1266 (by decide +kernel) (by decide +kernel), ki_X6, ⟨by decide +kernel, by decide +kernel⟩, zY_n (by decide +kernel)⟩ : zYb yX6_marks cX6_marks 4 none 3), wA 1265 (by decide +kernel) (by decide +kernel), wA 44 (by decide +kernel) (by decide +kernel)⟩
theorem zY_X6_mark : zYv yX6_mark cX6_mark 5 (some .boolean) 3 := ⟨(⟨wA 1250 (by decide +kernel) (by decide +kernel), ki_X6, ⟨by decide +kernel, by decide +kernel⟩, zY_n (by decide +kernel)⟩ : zYb yX6_mark cX6_mark 5 (some .boolean) 3), wA 1248 (by decide +kernel) (by decide +kernel), wA 1249 (by decide +kernel) (by decide +kernel)⟩
theorem zY_X6_markRiver : zYv yX6_markRiver cX6_markRiver 5 (some .int) 2 := ⟨(⟨wA 1270 (by decide +kernel) (by decide +kernel), ki_X6, ⟨by decide +kernel, by decide +kernel⟩, zY_n (by decide +kernel)⟩ : zYb yX6_markRiver cX6_markRiver 5 (some .int) 2), wA 1268 (by decide +kernel) (by decide +kernel), wA 1269 (by decide +kernel) (by decide +kernel)⟩
theorem zY_X6_wins : zYv yX6_wins cX6_wins 5 (some .boolean) 2 := ⟨(⟨wA 1278 (by decide +kernel) (by decide +kernel), ki_X6, ⟨by decide +kernel, by decide +kernel⟩, zY_n (by decide +kernel)⟩ : zYb yX6_wins cX6_wins 5 (some .boolean) 2), wA 1277 (by decide +kernel) (by decide +kernel), wA 45 (by decide +kernel) (by decide +kernel)⟩
theorem zY_X6_sync : zYv yX6_sync cX6_sync 5 (some .int) 1 := ⟨(⟨wA 1274 (by decide +kernel) (by decide +kernel), ki_X6, ⟨by decide +kernel, by decide +kernel⟩, zY_n (by decide +kernel)⟩ : zYb yX6_sync cX6_sync 5 (some .int) 1), wA 1272 (by decide +kernel) (by decide +kernel), wA 1273 (by decide +kernel) (by decide +kernel)⟩
theorem zY_X6_isRead : zYv yX6_isRead cX6_isRead 2 (some .boolean) 1 := ⟨(⟨wA 1282 (by decide +kernel) (by decide +kernel), ki_X6, ⟨by decide +kernel, by decide +kernel⟩, zY_n (by decide +kernel)⟩ : zYb yX6_isRead cX6_isRead 2 (some .boolean) 1), wA 1280 (by decide +kernel) (by decide +kernel), wA 1281 (by decide +kernel) (by decide +kernel)⟩
theorem zY_X6_isReadOn : zYv yX6_isReadOn cX6_isReadOn 3 (some .boolean) 2 := ⟨(⟨wA 1286 (by decide +kernel) (by decide +kernel), ki_X6, ⟨by decide +kernel, by decide +kernel⟩, zY_n (by decide +kernel)⟩ : zYb yX6_isReadOn cX6_isReadOn 3 (some .boolean) 2), wA 1284 (by decide +kernel) (by decide +kernel), wA 1285 (by decide +kernel) (by decide +kernel)⟩
theorem zY_X6_knownVersions : zYv yX6_knownVersions cX6_knownVersions 3 (some .int) 2 := ⟨(⟨wA 1290 (by decide +kernel) (by decide +kernel), ki_X6, ⟨by decide +kernel, by decide +kernel⟩, zY_n (by decide +kernel)⟩ : zYb yX6_knownVersions cX6_knownVersions 3 (some .int) 2), wA 1288 (by decide +kernel) (by decide +kernel), wA 1289 (by decide +kernel) (by decide +kernel)⟩
theorem zY_X6_meanVersions : zYv yX6_meanVersions cX6_meanVersions 3 (some .double) 0 := ⟨(⟨wA 1294 (by decide +kernel) (by decide +kernel), ki_X6, ⟨by decide +kernel, by decide +kernel⟩, zY_n (by decide +kernel)⟩ : zYb yX6_meanVersions cX6_meanVersions 3 (some .double) 0), wA 1292 (by decide +kernel) (by decide +kernel), wA 1293 (by decide +kernel) (by decide +kernel)⟩
theorem zY_X6_isSound : zYv yX6_isSound cX6_isSound 1 (some .boolean) 0 := ⟨(⟨wA 1298 (by decide +kernel) (by decide +kernel), ki_X6, ⟨by decide +kernel, by decide +kernel⟩, zY_n (by decide +kernel)⟩ : zYb yX6_isSound cX6_isSound 1 (some .boolean) 0), wA 1296 (by decide +kernel) (by decide +kernel), wA 1297 (by decide +kernel) (by decide +kernel)⟩
theorem zY_J13_bitCount_95d88 : zYs yJ13_bitCount_95d88 cJ13_bitCount_95d88 2 (some .int) 1 := ⟨(⟨wA 434 (by decide +kernel) (by decide +kernel), ki_J13, ⟨by decide +kernel, by decide +kernel⟩, zY_n (by decide +kernel)⟩ : zYb yJ13_bitCount_95d88 cJ13_bitCount_95d88 2 (some .int) 1), wA 433 (by decide +kernel) (by decide +kernel)⟩
theorem zY_J9_floorMod_7cf53 : zYs yJ9_floorMod_7cf53 cJ9_floorMod_7cf53 3 (some .int) 2 := ⟨(⟨wA 284 (by decide +kernel) (by decide +kernel), ki_J9, ⟨by decide +kernel, by decide +kernel⟩, zY_n (by decide +kernel)⟩ : zYb yJ9_floorMod_7cf53 cJ9_floorMod_7cf53 3 (some .int) 2), wA 283 (by decide +kernel) (by decide +kernel)⟩
end
section
/-! numbers: every int of the walk is zI of a whole number, where it can be -/
section ZBase
def zI (e : Int) : Int32 := Int32.ofInt e
theorem zI_add (a b : Int) : zI a + zI b = zI (a + b) := (Int32.ofInt_add a b).symm
theorem zI_sub (a b : Int) : zI a - zI b = zI (a - b) := (Int32.ofInt_sub a b).symm
theorem zI_mul (a b : Int) : zI a * zI b = zI (a * b) := (Int32.ofInt_mul a b).symm
abbrev zR (e : Int) : Prop := -2147483648 ≤ e ∧ e < 2147483648
theorem zI_toInt {e : Int} (h : zR e) : (zI e).toInt = e := Int32.toInt_ofInt_of_le (by simpa using h.1) (by simpa using h.2)
theorem zI_of (x : Int32) : zI x.toInt = x := Int32.ofInt_toInt x
theorem zI_rng (x : Int32) : zR x.toInt := by
  have h1 := x.toInt_lt
  have h2 := x.le_toInt
  constructor <;> omega
theorem zI_inj {a b : Int} (ha : zR a) (hb : zR b) (h : zI a = zI b) : a = b := by rw [← zI_toInt ha, ← zI_toInt hb, h]
theorem zI_eq {a b : Int} (ha : zR a) (hb : zR b) : zI a = zI b ↔ a = b := ⟨zI_inj ha hb, fun h => by rw [h]⟩
theorem zI_ext {x y : Int32} (h : x.toInt = y.toInt) : x = y := Int32.toInt_inj.mp h
theorem zI_clamp {e : Int} (h : zR e) : (zI e).toNatClampNeg = e.toNat := Int32.toNatClampNeg_ofInt_of_le (by simpa using h.1) (by simpa using h.2)
theorem zI_nat (n : Nat) : nI n = zI (n : Int) := Int32.ofInt_eq_ofNat.symm
theorem zI_in {e : Int} {k N : Nat} (he : e = (k : Int)) (hk : k < N) (hN : N ≤ 100000) : vp_in (zI e) N := by
  subst he
  rw [← zI_nat]
  exact vp_in_nI hk (by omega)
theorem zI_div {a b : Int} (ha : 0 ≤ a) (hb : 0 < b) (ha2 : zR a) (hb2 : zR b) : zI a / zI b = zI (a / b) := by
  have h := Int32.ofInt_tdiv (a := a) (b := b) (by show (-2147483648 : Int) ≤ a; exact ha2.1) (by show a ≤ (2147483647 : Int); have := ha2.2; omega) (by show (-2147483648 : Int) ≤ b; exact hb2.1) (by show b ≤ (2147483647 : Int); have := hb2.2; omega)
  rw [Int.tdiv_eq_ediv_of_nonneg ha] at h
  exact h.symm
theorem zI_rem {a b : Int} (ha : 0 ≤ a) (hb : 0 < b) (ha2 : zR a) (hb2 : zR b) : zI a - zI a / zI b * zI b = zI (a % b) := by
  rw [zI_div ha hb ha2 hb2, zI_mul, zI_sub]
  congr 1
  have := Int.mul_ediv_add_emod a b
  rw [Int.mul_comm] at this
  omega
theorem zI_ne0 {b : Int} (hb : 0 < b) (hb2 : zR b) : ¬ zI b = 0 := fun h => by
  have h1 := zI_inj (b := 0) hb2 (by decide) h
  omega
def tB (b : Bool) : Int32 := if b then 1 else 0
theorem tB_t : tB true = zI 1 := by decide
theorem tB_f : tB false = zI 0 := by decide
theorem tB_n (b : Bool) : narrow .boolean (.int (tB b)) = .int (tB b) := by cases b <;> rfl
theorem tB_z (b : Bool) : tB b = zI (if b then 1 else 0) := by cases b <;> decide
end ZBase
section ZRows
variable {p : Program} {l : Launch} {e : Env} {R : Room} {s : State} {m : MethodId} {args : Array Value} {below : List Frame} {meth : Method} {c : Code} {H : Heap} {locs : List Loc} {cells slots : Nat} {Q : State → Prop}
variable {cc : ByteArray} {pc : Nat} {ls : Array Slot} {rest : List Value}
theorem zr_iconst (hx : p.tables.exec = Jvm.exec) (hb : c.code = cc) {n : Int} (hdg : decode cc pc = .ok (.iconst n, 1))
    (k : W p l e R s m args below meth c H locs cells slots Q (F0 m (pc + 1) ls (.int (zI n) :: rest))) : W p l e R s m args below meth c H locs cells slots Q (F0 m pc ls rest) := lv_iconst hx hb hdg rfl k
theorem zr_bipush (hx : p.tables.exec = Jvm.exec) (hb : c.code = cc) {n : Int} (hdg : decode cc pc = .ok (.bipush n, 2)) (hv : (Int8.ofInt n).toInt32 = zI n)
    (k : W p l e R s m args below meth c H locs cells slots Q (F0 m (pc + 2) ls (.int (zI n) :: rest))) : W p l e R s m args below meth c H locs cells slots Q (F0 m pc ls rest) := lv_bipush hx hb hdg hv k
theorem zr_sipush (hx : p.tables.exec = Jvm.exec) (hb : c.code = cc) {n : Int} (hdg : decode cc pc = .ok (.sipush n, 3)) (hv : (Int16.ofInt n).toInt32 = zI n)
    (k : W p l e R s m args below meth c H locs cells slots Q (F0 m (pc + 3) ls (.int (zI n) :: rest))) : W p l e R s m args below meth c H locs cells slots Q (F0 m pc ls rest) := lv_sipush hx hb hdg hv k
theorem zr_ldc (hx : p.tables.exec = Jvm.exec) (hb : c.code = cc) {own : String} {index : Nat} {v : Int32} (n : Int) (hv : v = zI n) (hown : s.vm.findClass own = some m.cls) (hconst : (Jvm.Cond.constant own index v).before args s = true) (hdg : decode cc pc = .ok (.ldc index, 2))
    (k : W p l e R s m args below meth c H locs cells slots Q (F0 m (pc + 2) ls (.int (zI n) :: rest))) : W p l e R s m args below meth c H locs cells slots Q (F0 m pc ls rest) := lv_ldc hx hb hown hconst hdg (hv ▸ k)
theorem zr_iadd (hx : p.tables.exec = Jvm.exec) (hb : c.code = cc) {a b : Int} (hdg : decode cc pc = .ok (.iadd, 1))
    (k : W p l e R s m args below meth c H locs cells slots Q (F0 m (pc + 1) ls (.int (zI (a + b)) :: rest))) : W p l e R s m args below meth c H locs cells slots Q (F0 m pc ls (.int (zI b) :: .int (zI a) :: rest)) := lv_iadd hx hb hdg (by rw [zI_add]; exact k)
theorem zr_isub (hx : p.tables.exec = Jvm.exec) (hb : c.code = cc) {a b : Int} (hdg : decode cc pc = .ok (.isub, 1))
    (k : W p l e R s m args below meth c H locs cells slots Q (F0 m (pc + 1) ls (.int (zI (a - b)) :: rest))) : W p l e R s m args below meth c H locs cells slots Q (F0 m pc ls (.int (zI b) :: .int (zI a) :: rest)) := lv_isub hx hb hdg (by rw [zI_sub]; exact k)
theorem zr_imul (hx : p.tables.exec = Jvm.exec) (hb : c.code = cc) {a b : Int} (hdg : decode cc pc = .ok (.imul, 1))
    (k : W p l e R s m args below meth c H locs cells slots Q (F0 m (pc + 1) ls (.int (zI (a * b)) :: rest))) : W p l e R s m args below meth c H locs cells slots Q (F0 m pc ls (.int (zI b) :: .int (zI a) :: rest)) := lv_imul hx hb hdg (by rw [zI_mul]; exact k)
theorem zr_idiv (hx : p.tables.exec = Jvm.exec) (hb : c.code = cc) {a b : Int} (h : 0 ≤ a ∧ 0 < b ∧ zR a ∧ zR b) (hdg : decode cc pc = .ok (.idiv, 1))
    (k : W p l e R s m args below meth c H locs cells slots Q (F0 m (pc + 1) ls (.int (zI (a / b)) :: rest))) : W p l e R s m args below meth c H locs cells slots Q (F0 m pc ls (.int (zI b) :: .int (zI a) :: rest)) :=
  lv_idiv hx hb hdg (zI_ne0 h.2.1 h.2.2.2) (by rw [zI_div h.1 h.2.1 h.2.2.1 h.2.2.2]; exact k)
theorem zr_irem (hx : p.tables.exec = Jvm.exec) (hb : c.code = cc) {a b : Int} (h : 0 ≤ a ∧ 0 < b ∧ zR a ∧ zR b) (hdg : decode cc pc = .ok (.irem, 1))
    (k : W p l e R s m args below meth c H locs cells slots Q (F0 m (pc + 1) ls (.int (zI (a % b)) :: rest))) : W p l e R s m args below meth c H locs cells slots Q (F0 m pc ls (.int (zI b) :: .int (zI a) :: rest)) :=
  lv_irem hx hb hdg (zI_ne0 h.2.1 h.2.2.2) (by rw [zI_rem h.1 h.2.1 h.2.2.1 h.2.2.2]; exact k)
theorem zr_iinc (hx : p.tables.exec = Jvm.exec) (hb : c.code = cc) {i nL : Nat} {n a : Int} {lv lv' : List (Nat × Value)} (k : Nat) (hdg : decode cc pc = .ok (.iinc i n, 3)) (h : lv_has ls nL lv) (hk : lv[k]? = some (i, .int (zI a))) (hn : i < nL) (hl : (i, Value.int (zI (a + n))) :: lv.filter (fun q => !(q.1 == i) && !(q.1 + 1 == i && q.2.category == 2)) = lv')
    (kk : ∀ ls' : Array Slot, lv_has ls' nL lv' → W p l e R s m args below meth c H locs cells slots Q (F0 m (pc + 3) ls' rest)) : W p l e R s m args below meth c H locs cells slots Q (F0 m pc ls rest) := lv_iinc hx hb hdg h hk (by show zI a + zI n = zI (a + n); exact zI_add a n) hn hl kk
/-- the top of the stack under another name -/
theorem zr_top {v w : Value} (h : v = w) (k : W p l e R s m args below meth c H locs cells slots Q (F0 m pc ls (w :: rest))) : W p l e R s m args below meth c H locs cells slots Q (F0 m pc ls (v :: rest)) := h ▸ k
theorem zc_lt (hx : p.tables.exec = Jvm.exec) (hb : c.code = cc) {x y : Int32} {off : Int} {tgt : Nat} (a b : Int) (ha : x.toInt = a) (hy : y.toInt = b) (hdg : decode cc pc = .ok (.if_icmp .lt off, 3)) (ht : (pc : Int) + off = (tgt : Int))
    (kt : a < b → W p l e R s m args below meth c H locs cells slots Q (F0 m tgt ls rest)) (kf : b ≤ a → W p l e R s m args below meth c H locs cells slots Q (F0 m (pc + 3) ls rest)) : W p l e R s m args below meth c H locs cells slots Q (F0 m pc ls (.int y :: .int x :: rest)) := lv_icmp_lt hx hb hdg ht (fun h => kt (by rw [Int32.lt_iff_toInt_lt, ha, hy] at h; exact h)) (fun h => kf (by rw [Int32.lt_iff_toInt_lt, ha, hy] at h; omega))
theorem zc0_lt (hx : p.tables.exec = Jvm.exec) (hb : c.code = cc) {x : Int32} {off : Int} {tgt : Nat} (a : Int) (ha : x.toInt = a) (hdg : decode cc pc = .ok (.ifCond .lt off, 3)) (ht : (pc : Int) + off = (tgt : Int))
    (kt : a < 0 → W p l e R s m args below meth c H locs cells slots Q (F0 m tgt ls rest)) (kf : 0 ≤ a → W p l e R s m args below meth c H locs cells slots Q (F0 m (pc + 3) ls rest)) : W p l e R s m args below meth c H locs cells slots Q (F0 m pc ls (.int x :: rest)) := lv_if_lt hx hb hdg ht (fun h => kt (by rw [Int32.lt_iff_toInt_lt, ha] at h; exact h)) (fun h => kf (by rw [Int32.lt_iff_toInt_lt, ha] at h; have h9 : (0 : Int32).toInt = 0 := rfl; omega))
theorem zc_ge (hx : p.tables.exec = Jvm.exec) (hb : c.code = cc) {x y : Int32} {off : Int} {tgt : Nat} (a b : Int) (ha : x.toInt = a) (hy : y.toInt = b) (hdg : decode cc pc = .ok (.if_icmp .ge off, 3)) (ht : (pc : Int) + off = (tgt : Int))
    (kt : b ≤ a → W p l e R s m args below meth c H locs cells slots Q (F0 m tgt ls rest)) (kf : a < b → W p l e R s m args below meth c H locs cells slots Q (F0 m (pc + 3) ls rest)) : W p l e R s m args below meth c H locs cells slots Q (F0 m pc ls (.int y :: .int x :: rest)) := lv_icmp_ge hx hb hdg ht (fun h => kt (by rw [Int32.le_iff_toInt_le, ha, hy] at h; exact h)) (fun h => kf (by rw [Int32.le_iff_toInt_le, ha, hy] at h; omega))
theorem zc0_ge (hx : p.tables.exec = Jvm.exec) (hb : c.code = cc) {x : Int32} {off : Int} {tgt : Nat} (a : Int) (ha : x.toInt = a) (hdg : decode cc pc = .ok (.ifCond .ge off, 3)) (ht : (pc : Int) + off = (tgt : Int))
    (kt : 0 ≤ a → W p l e R s m args below meth c H locs cells slots Q (F0 m tgt ls rest)) (kf : a < 0 → W p l e R s m args below meth c H locs cells slots Q (F0 m (pc + 3) ls rest)) : W p l e R s m args below meth c H locs cells slots Q (F0 m pc ls (.int x :: rest)) := lv_if_ge hx hb hdg ht (fun h => kt (by rw [Int32.le_iff_toInt_le, ha] at h; exact h)) (fun h => kf (by rw [Int32.le_iff_toInt_le, ha] at h; have h9 : (0 : Int32).toInt = 0 := rfl; omega))
theorem zc_gt (hx : p.tables.exec = Jvm.exec) (hb : c.code = cc) {x y : Int32} {off : Int} {tgt : Nat} (a b : Int) (ha : x.toInt = a) (hy : y.toInt = b) (hdg : decode cc pc = .ok (.if_icmp .gt off, 3)) (ht : (pc : Int) + off = (tgt : Int))
    (kt : b < a → W p l e R s m args below meth c H locs cells slots Q (F0 m tgt ls rest)) (kf : a ≤ b → W p l e R s m args below meth c H locs cells slots Q (F0 m (pc + 3) ls rest)) : W p l e R s m args below meth c H locs cells slots Q (F0 m pc ls (.int y :: .int x :: rest)) := lv_icmp_gt hx hb hdg ht (fun h => kt (by rw [Int32.lt_iff_toInt_lt, ha, hy] at h; exact h)) (fun h => kf (by rw [Int32.lt_iff_toInt_lt, ha, hy] at h; omega))
theorem zc0_gt (hx : p.tables.exec = Jvm.exec) (hb : c.code = cc) {x : Int32} {off : Int} {tgt : Nat} (a : Int) (ha : x.toInt = a) (hdg : decode cc pc = .ok (.ifCond .gt off, 3)) (ht : (pc : Int) + off = (tgt : Int))
    (kt : 0 < a → W p l e R s m args below meth c H locs cells slots Q (F0 m tgt ls rest)) (kf : a ≤ 0 → W p l e R s m args below meth c H locs cells slots Q (F0 m (pc + 3) ls rest)) : W p l e R s m args below meth c H locs cells slots Q (F0 m pc ls (.int x :: rest)) := lv_if_gt hx hb hdg ht (fun h => kt (by rw [Int32.lt_iff_toInt_lt, ha] at h; exact h)) (fun h => kf (by rw [Int32.lt_iff_toInt_lt, ha] at h; have h9 : (0 : Int32).toInt = 0 := rfl; omega))
theorem zc_le (hx : p.tables.exec = Jvm.exec) (hb : c.code = cc) {x y : Int32} {off : Int} {tgt : Nat} (a b : Int) (ha : x.toInt = a) (hy : y.toInt = b) (hdg : decode cc pc = .ok (.if_icmp .le off, 3)) (ht : (pc : Int) + off = (tgt : Int))
    (kt : a ≤ b → W p l e R s m args below meth c H locs cells slots Q (F0 m tgt ls rest)) (kf : b < a → W p l e R s m args below meth c H locs cells slots Q (F0 m (pc + 3) ls rest)) : W p l e R s m args below meth c H locs cells slots Q (F0 m pc ls (.int y :: .int x :: rest)) := lv_icmp_le hx hb hdg ht (fun h => kt (by rw [Int32.le_iff_toInt_le, ha, hy] at h; exact h)) (fun h => kf (by rw [Int32.le_iff_toInt_le, ha, hy] at h; omega))
theorem zc0_le (hx : p.tables.exec = Jvm.exec) (hb : c.code = cc) {x : Int32} {off : Int} {tgt : Nat} (a : Int) (ha : x.toInt = a) (hdg : decode cc pc = .ok (.ifCond .le off, 3)) (ht : (pc : Int) + off = (tgt : Int))
    (kt : a ≤ 0 → W p l e R s m args below meth c H locs cells slots Q (F0 m tgt ls rest)) (kf : 0 < a → W p l e R s m args below meth c H locs cells slots Q (F0 m (pc + 3) ls rest)) : W p l e R s m args below meth c H locs cells slots Q (F0 m pc ls (.int x :: rest)) := lv_if_le hx hb hdg ht (fun h => kt (by rw [Int32.le_iff_toInt_le, ha] at h; exact h)) (fun h => kf (by rw [Int32.le_iff_toInt_le, ha] at h; have h9 : (0 : Int32).toInt = 0 := rfl; omega))
theorem zc_eq (hx : p.tables.exec = Jvm.exec) (hb : c.code = cc) {x y : Int32} {off : Int} {tgt : Nat} (a b : Int) (ha : x.toInt = a) (hy : y.toInt = b) (hdg : decode cc pc = .ok (.if_icmp .eq off, 3)) (ht : (pc : Int) + off = (tgt : Int))
    (kt : a = b → W p l e R s m args below meth c H locs cells slots Q (F0 m tgt ls rest)) (kf : a ≠ b → W p l e R s m args below meth c H locs cells slots Q (F0 m (pc + 3) ls rest)) : W p l e R s m args below meth c H locs cells slots Q (F0 m pc ls (.int y :: .int x :: rest)) := lv_icmp_eq hx hb hdg ht (fun h => kt (by rw [← ha, ← hy, h])) (fun h => kf (fun h2 => h (zI_ext (by rw [ha, hy, h2]))))
theorem zc0_eq (hx : p.tables.exec = Jvm.exec) (hb : c.code = cc) {x : Int32} {off : Int} {tgt : Nat} (a : Int) (ha : x.toInt = a) (hdg : decode cc pc = .ok (.ifCond .eq off, 3)) (ht : (pc : Int) + off = (tgt : Int))
    (kt : a = 0 → W p l e R s m args below meth c H locs cells slots Q (F0 m tgt ls rest)) (kf : a ≠ 0 → W p l e R s m args below meth c H locs cells slots Q (F0 m (pc + 3) ls rest)) : W p l e R s m args below meth c H locs cells slots Q (F0 m pc ls (.int x :: rest)) := lv_if_eq hx hb hdg ht (fun h => kt (by rw [← ha, h]; rfl)) (fun h => kf (fun h2 => h (zI_ext (by rw [ha, h2]; rfl))))
theorem zc_ne (hx : p.tables.exec = Jvm.exec) (hb : c.code = cc) {x y : Int32} {off : Int} {tgt : Nat} (a b : Int) (ha : x.toInt = a) (hy : y.toInt = b) (hdg : decode cc pc = .ok (.if_icmp .ne off, 3)) (ht : (pc : Int) + off = (tgt : Int))
    (kt : a ≠ b → W p l e R s m args below meth c H locs cells slots Q (F0 m tgt ls rest)) (kf : a = b → W p l e R s m args below meth c H locs cells slots Q (F0 m (pc + 3) ls rest)) : W p l e R s m args below meth c H locs cells slots Q (F0 m pc ls (.int y :: .int x :: rest)) := lv_icmp_ne hx hb hdg ht (fun h => kt (fun h2 => h (zI_ext (by rw [ha, hy, h2])))) (fun h => kf (by rw [← ha, ← hy, h]))
theorem zc0_ne (hx : p.tables.exec = Jvm.exec) (hb : c.code = cc) {x : Int32} {off : Int} {tgt : Nat} (a : Int) (ha : x.toInt = a) (hdg : decode cc pc = .ok (.ifCond .ne off, 3)) (ht : (pc : Int) + off = (tgt : Int))
    (kt : a ≠ 0 → W p l e R s m args below meth c H locs cells slots Q (F0 m tgt ls rest)) (kf : a = 0 → W p l e R s m args below meth c H locs cells slots Q (F0 m (pc + 3) ls rest)) : W p l e R s m args below meth c H locs cells slots Q (F0 m pc ls (.int x :: rest)) := lv_if_ne hx hb hdg ht (fun h => kt (fun h2 => h (zI_ext (by rw [ha, h2]; rfl)))) (fun h => kf (by rw [← ha, h]; rfl))
theorem zb_eq (hx : p.tables.exec = Jvm.exec) (hb : c.code = cc) {x : Bool} {off : Int} {tgt : Nat} (hdg : decode cc pc = .ok (.ifCond .eq off, 3)) (ht : (pc : Int) + off = (tgt : Int))
    (kt : x = false → W p l e R s m args below meth c H locs cells slots Q (F0 m tgt ls rest)) (kf : x = true → W p l e R s m args below meth c H locs cells slots Q (F0 m (pc + 3) ls rest)) : W p l e R s m args below meth c H locs cells slots Q (F0 m pc ls (.int (tB x) :: rest)) := lv_if_eq hx hb hdg ht (fun h => kt (by cases x <;> simp_all [tB])) (fun h => kf (by cases x <;> simp_all [tB]))
theorem zb_ne (hx : p.tables.exec = Jvm.exec) (hb : c.code = cc) {x : Bool} {off : Int} {tgt : Nat} (hdg : decode cc pc = .ok (.ifCond .ne off, 3)) (ht : (pc : Int) + off = (tgt : Int))
    (kt : x = true → W p l e R s m args below meth c H locs cells slots Q (F0 m tgt ls rest)) (kf : x = false → W p l e R s m args below meth c H locs cells slots Q (F0 m (pc + 3) ls rest)) : W p l e R s m args below meth c H locs cells slots Q (F0 m pc ls (.int (tB x) :: rest)) := lv_if_ne hx hb hdg ht (fun h => kt (by cases x <;> simp_all [tB])) (fun h => kf (by cases x <;> simp_all [tB]))
end ZRows
end
section
/-! what the state says beside the heap: links of nest mates, casts, texts, two statics of Throwable's -/
section ZEx
abbrev zEr : List String := ["java/lang/RuntimeException", "java/lang/Exception"]
def xNest : List (String × Nat × MethodName × String) := [(RX5, 24, yX1_init, RX5), (RX5, 31, yX4_init, RX5), (RX5, 38, yX3_init, RX5), (RX5, 45, yX0_init, RX5), (RX5, 52, yX2_init, RX5), (RX4, 40, yX5_hasTagOrNeedsNone, RX5), (RX3, 22, yX5_hasTagOrNeedsNone, RX5), (RX1, 64, yX5_percentInCommon, RX5)]
def xCast : List (String × String) := [("java/lang/IllegalArgumentException", "java/lang/IllegalArgumentException"), ("java/lang/IllegalStateException", "java/lang/IllegalStateException"), ("java/lang/IndexOutOfBoundsException", "java/lang/IndexOutOfBoundsException"), ("java/lang/ArithmeticException", "java/lang/ArithmeticException"), ("java/util/NoSuchElementException", "java/util/NoSuchElementException")]
def xDecl : List MethodName := [⟨"java/lang/RuntimeException", "<init>", "(Ljava/lang/String;)V"⟩, ⟨"java/lang/Exception", "<init>", "(Ljava/lang/String;)V"⟩, ⟨"java/lang/Throwable", "<init>", "(Ljava/lang/String;)V"⟩]
def xNot : List (String × String) := [("java/lang/IllegalStateException", "java/lang/IllegalArgumentException"), ("java/lang/IllegalArgumentException", "java/lang/IndexOutOfBoundsException"), ("java/lang/IllegalStateException", "java/lang/IndexOutOfBoundsException"), ("java/util/NoSuchElementException", "java/lang/IndexOutOfBoundsException"), ("java/lang/ArithmeticException", "java/lang/IndexOutOfBoundsException")]
def xStr : List (Nat × String) := [(66, "the minutes are out of range"), (74, "the present minute would be too late"), (77, "the threshold is out of range"), (79, "the window is out of range"), (81, "a title has no words"), (87, "there are 6 sources"), (91, "there is no such source"), (101, "the identifier, the link, the minute or the title is wrong"), (115, "there are 30 items"), (142, "no item has this pair"), (148, "no item has this link"), (158, "there is no such version, or its title is not kept"), (179, "the set of sources, the tag or the action is out of range"), (184, "there are 6 rules"), (207, "the set of sources or the tag is out of range"), (211, "there are 4 rivers"), (231, "the river does not show the item"), (239, "all items of the river are read"), (243, "the river shows no items"), (248, "there are 4 devices"), (278, "there are no items"), (285, "there is no such item"), (287, "there is no such rule"), (289, "there is no such river"), (292, "there is no such device"), (294, "the device does not know the item"), (308, "there is no such rank")]
def xE (A : Nat → Prop) (U : State) (H : Heap) : Prop :=
  (∀ q ∈ xNest, va_Nw (.methodLinkNest q.1 q.2.1 q.2.2.1 q.2.2.2) U) ∧ (∀ q ∈ xCast, va_Nw (.castable q.1 q.2) U) ∧ (∀ q ∈ xDecl, va_Nw (.declares q) U) ∧ (∀ q ∈ xNot, va_Nc q.1 q.2 U) ∧ (∀ q ∈ xStr, ∃ a, vk_R RX5 q.1 q.2 a U) ∧
  vx_Zq Bundle.tN "UNASSIGNED_STACK" Bundle.steD A U H ∧ vx_Zq Bundle.tN "SUPPRESSED_SENTINEL" Bundle.listD A U H
theorem xE.warm {A : Nat → Prop} {s U : State} {H : Heap} (hW : s.WarmedH U.vm) (h : xE A s H) : xE A U H := by
  obtain ⟨h1, h2, h3, h4, h5, h6, h7⟩ := h
  exact ⟨fun q hq => va_Nw.warmM hW (h1 q hq), fun q hq => va_Nw.warmC hW (h2 q hq), fun q hq => va_Nw.warmD hW (h3 q hq), fun q hq => va_Nc.moved hW.alike (h4 q hq), fun q hq => (h5 q hq).imp fun a ha => vk_R.warm hW ha, vx_Zq.moved hW.alike h6, vx_Zq.moved hW.alike h7⟩
theorem xE.calling {A : Nat → Prop} {U : State} {H : Heap} {g : JFrame} {mk : MethodId} {a : Array Value} (h : xE A U H) : xE A (U.calling g mk a) H := by
  obtain ⟨h1, h2, h3, h4, h5, h6, h7⟩ := h
  exact ⟨fun q hq => va_Nw.same rfl rfl (h1 q hq), fun q hq => va_Nw.same rfl rfl (h2 q hq), fun q hq => va_Nw.same rfl rfl (h3 q hq), fun q hq => va_Nc.moved (Vm.Alike.refl U.vm) (h4 q hq), fun q hq => (h5 q hq).imp fun a ha => vk_R.same rfl ha, vx_Zq.moved (u := U) (U := U.calling g mk a) (Vm.Alike.refl U.vm) h6, vx_Zq.moved (u := U) (U := U.calling g mk a) (Vm.Alike.refl U.vm) h7⟩
theorem xE.kept {A : Nat → Prop} {U : State} {H H1 : Heap} (h : xE A U H) (hq : ∀ a : Nat, a < H.size → ¬ A a → H1[a]? = H[a]?) : xE A U H1 := by
  obtain ⟨h1, h2, h3, h4, h5, h6, h7⟩ := h
  exact ⟨h1, h2, h3, h4, h5, h6.kept hq, h7.kept hq⟩
theorem xE.narrow {A B : Nat → Prop} {U : State} {H : Heap} (h : xE A U H) (hAB : ∀ q, B q → A q) : xE B U H := by
  obtain ⟨h1, h2, h3, h4, h5, h6, h7⟩ := h
  exact ⟨h1, h2, h3, h4, h5, h6.narrow hAB, h7.narrow hAB⟩
end ZEx
end
section
/-! contracts over one world, and calls -/
section ZFrame
abbrev ZG : Type := va_G × ClassId × ClassId × ClassId
abbrev zTy (G : ZG) : List (ClassId × FieldType) := [(G.2.1, .int), (G.2.2.1, .long), (G.2.2.2, .double)]
def PreW (G : ZG) (ws : va_W) (sz : Nat) (U : State) : Prop := U.heap.size = sz ∧ va_P G.1 vwCl ws U.heap ∧ va_K G.1 vwCl (zTy G) U ∧ va_D (fun _ => True) ws ∧ xE (va_A ws sz) U U.heap
def PostW (G : ZG) (ws : va_W) (A : Nat → Prop) (t : State) : Prop := va_P G.1 vwCl ws t.heap ∧ va_K G.1 vwCl (zTy G) t ∧ va_D A ws
theorem zz_blind {G : ZG} {ws : va_W} {sz : Nat} {As : List Value} : FrameBlind (va_Pc As (PreW G ws sz)) := fun a U g mk h => by
  obtain ⟨h1, h2, h3, h4, h5, h6⟩ := h
  exact ⟨h1, h2, h3, va_K.moved (u := U) (U := U.calling g mk a) (Vm.Alike.refl U.vm) h4, h5, h6.calling⟩
abbrev QI {S : Type} (G : ZG) (post : Int32 → S → Prop) (ws' : S → va_W) : (Nat → Prop) → Array Value → State → Outcome → State → Prop := fun A => va_Qi post (fun u t => PostW G (ws' u) A t) A
abbrev QL {S : Type} (G : ZG) (post : Int64 → S → Prop) (ws' : S → va_W) : (Nat → Prop) → Array Value → State → Outcome → State → Prop := fun A => va_Ql post (fun u t => PostW G (ws' u) A t) A
abbrev QF {S : Type} (G : ZG) (post : UInt32 → S → Prop) (ws' : S → va_W) : (Nat → Prop) → Array Value → State → Outcome → State → Prop := fun A => va_Qf post (fun u t => PostW G (ws' u) A t) A
abbrev QD {S : Type} (G : ZG) (post : UInt64 → S → Prop) (ws' : S → va_W) : (Nat → Prop) → Array Value → State → Outcome → State → Prop := fun A => va_Qd post (fun u t => PostW G (ws' u) A t) A
abbrev QV {S : Type} (G : ZG) (post : S → Prop) (ws' : S → va_W) : (Nat → Prop) → Array Value → State → Outcome → State → Prop := fun A => va_Qv post (fun u t => PostW G (ws' u) A t) A
abbrev QR {S : Type} (G : ZG) (post : S → Prop) (ad : Nat) (ws' : S → va_W) : (Nat → Prop) → Array Value → State → Outcome → State → Prop := fun A => va_Qr post (fun u a t => a = ad ∧ PostW G (ws' u) A t) A
/-- a contract: from any heap that holds the world ws -/
def MC (l : Launch) (G : ZG) (y : MethodName) (wd : List Cond) (rm : Room) (ws : va_W) (As : List Value) (Qf : (Nat → Prop) → Array Value → State → Outcome → State → Prop) : Prop :=
  ∀ sz, Met l y wd rm (va_Pc As (PreW G ws sz)) (Qf (va_A ws sz)) rm.cells rm.slots (va_A ws sz)
/-- a contract of a method that throws E -/
def MX (l : Launch) (G : ZG) (y : MethodName) (wd : List Cond) (rm : Room) (ws : va_W) (As : List Value) {S : Type} (E : String) (ws' : S → va_W) : Prop :=
  ∀ sz, vx_Met l y wd rm (va_Pc As (PreW G ws sz)) (va_Qv (fun (_ : Unit) => False) (fun _ _ => True) (va_A ws sz)) (vx_X (fun (_ : S) => True) (fun E' u t => E' = E ∧ PostW G (ws' u) (va_A ws sz) t) (va_A ws sz)) rm.cells rm.slots (va_A ws sz)
/-- what holds in a method's body from its entry on -/
def ZCtx (p : Program) (s : State) (m : MethodId) (args : Array Value) (meth : Method) (c : Code) (G : ZG) (cc : ByteArray) (nL : Nat) (own : String) (A : Nat → Prop) : Prop :=
  p.tables.exec = Jvm.exec ∧ c.code = cc ∧ c.maxLocals = nL ∧ s.vm.findClass own = some m.cls ∧ (∀ w ∈ wAll, w.before args s = true) ∧ (∀ q, s.heap.size ≤ q → A q) ∧ va_K G.1 vwCl (zTy G) s ∧ xE A s s.heap ∧ meth.locks = false
theorem MC.mk {l : Launch} {G : ZG} {y : MethodName} {rm : Room} {ws : va_W} {As : List Value} {Qf : (Nat → Prop) → Array Value → State → Outcome → State → Prop} {cc : ByteArray} {maxL : Nat} {ret : Option FieldType}
    (hy : plainName y.cls = true) (hn : (lg_sl As).length ≤ maxL)
    (body : ∀ (p : Program) (e : Env) (s : State) (m : MethodId) (below : List Frame) (meth : Method) (c : Code) (A : Nat → Prop) (ls : Array Slot), ZCtx p s m As.toArray meth c G cc maxL y.cls A → meth.sig.returnType = ret → meth.name = y.name →
      va_P G.1 vwCl ws s.heap → va_D A ws → va_S A s.heap s.heap [] → lv_has ls maxL (lv_args 0 As) →
      W p l e rm s m As.toArray below meth c s.heap [] 0 0 (MQ below (Qf A) As.toArray s rm.cells rm.slots A) (F0 m 0 ls [])) : MC l G y (wY y cc maxL ret) rm ws As Qf := by
  intro sz
  refine Met.ofW (cc := cc) (maxL := maxL) (ret := ret) hy rfl ?_
  intro p e s m args below meth c s₁ B hml hv
  obtain ⟨rfl, hsz, hP, hK, hD0, hE⟩ := hv
  subst hsz
  have hts := atoms_spec (ws := wY y cc maxL ret) B.pre
  rw [lg_entry_eq]
  exact body p e s m below meth c (va_A ws s.heap.size) _ ⟨B.exec, B.bytes, hml, findClass_of_methodNamed B.named, fun w h => hts w (List.mem_cons_of_mem _ h), fun q h => Or.inr h, hK, hE, B.notSynchronized⟩ B.returns (name_of_methodNamed B.named B.method).1 hP hD0.self va_S.rf (lv_entry As hn)
theorem MX.mk {l : Launch} {G : ZG} {y : MethodName} {rm : Room} {ws : va_W} {As : List Value} {S : Type} {E : String} {ws' : S → va_W} {cc : ByteArray} {maxL : Nat} {ret : Option FieldType}
    (hy : plainName y.cls = true) (hn : (lg_sl As).length ≤ maxL)
    (body : ∀ (p : Program) (e : Env) (s : State) (m : MethodId) (below : List Frame) (meth : Method) (c : Code) (A : Nat → Prop) (ls : Array Slot), ZCtx p s m As.toArray meth c G cc maxL y.cls A → (∀ x ∈ c.exceptionTable.toList, False) →
      va_P G.1 vwCl ws s.heap → va_D A ws → va_S A s.heap s.heap [] → lv_has ls maxL (lv_args 0 As) →
      W p l e rm s m As.toArray below meth c s.heap [] 0 0 (vx_MQ below (va_Qv (fun (_ : Unit) => False) (fun _ _ => True) A) (vx_X (fun (_ : S) => True) (fun E' u t => E' = E ∧ PostW G (ws' u) A t) A) As.toArray s rm.cells rm.slots A) (F0 m 0 ls [])) : MX l G y (wY y cc maxL ret) rm ws As E ws' := by
  intro sz
  refine vx_ofW (cc := cc) (maxL := maxL) (ret := ret) hy rfl ?_
  intro p e s m args below meth c s₁ B hml ht hv
  obtain ⟨rfl, hsz, hP, hK, hD0, hE⟩ := hv
  subst hsz
  have hts := atoms_spec (ws := wY y cc maxL ret) B.pre
  rw [lg_entry_eq]
  exact body p e s m below meth c (va_A ws s.heap.size) _ ⟨B.exec, B.bytes, hml, findClass_of_methodNamed B.named, fun w h => hts w (List.mem_cons_of_mem _ h), fun q h => Or.inr h, hK, hE, B.notSynchronized⟩ ht hP hD0.self va_S.rf (lv_entry As hn)
end ZFrame
section ZCalls
variable {p : Program} {l : Launch} {e : Env} {R : Room} {s : State} {m : MethodId} {args : Array Value} {below : List Frame} {meth : Method} {c : Code} {H : Heap} {locs : List Loc} {cells slots : Nat} {Q : State → Prop}
variable {cc : ByteArray} {pc nL : Nat} {ls : Array Slot} {rest st0 : List Value} {G : ZG} {own : String} {A : Nat → Prop} {ws : va_W}
theorem zz_free (hD : va_D A ws) (hS : va_S A s.heap H locs) (hA : ∀ q, s.heap.size ≤ q → A q) : ∀ q, va_A ws H.size q → A q := by
  rintro q (⟨k, e, h⟩ | h)
  · exact hD.2 k _ h
  · exact hA q (Nat.le_trans hS.1 h)
theorem zz_pre {As : List Value} (Z : ZCtx p s m args meth c G cc nL own A) (hP : va_P G.1 vwCl ws H) (hD : va_D A ws) (hS : va_S A s.heap H locs) : PreS s H (va_Pc As (PreW G ws H.size)) As := by
  obtain ⟨-, -, -, -, -, hA, hK, hE, -⟩ := Z
  refine ⟨zz_blind, fun U hU hW => ⟨rfl, by rw [hU], by rw [hU]; exact hP, va_K.moved hW.alike hK, hD.weaken (fun _ _ _ _ => trivial), ?_⟩⟩
  rw [hU]
  exact ((hE.warm hW).kept hS.2.1).narrow (zz_free hD hS hA)
theorem zz_fix (Z : ZCtx p s m args meth c G cc nL own A) : CallFix p m c cc nL s args wAll own := ⟨Z.1, Z.2.1, Z.2.2.1, Z.2.2.2.1, Z.2.2.2.2.1⟩
theorem zz_pay (hW : ∀ w ∈ wAll, w.before args s = true) {y : MethodName} {b : ByteArray} {mL n : Nat} {r : Option FieldType} (hY : zYb y b mL r n) : ∀ w ∈ wY y b mL r, ∀ (a' : Array Value) (U : State), s.WarmedH U.vm → w.before a' U = true := by
  intro w hw a' U hU
  have hm : w ∈ wAll := (List.mem_cons.mp hw).elim (fun e => by rw [e]; exact hY.1) id
  exact word_at hU (good_of_word (wA_good hm)) (hW w hm)
theorem zz_cb (hW : ∀ w ∈ wAll, w.before args s = true) {y : MethodName} {b : ByteArray} {mL n : Nat} {r : Option FieldType} (hY : zYb y b mL r n) {rm : Room} {idx : Nat} (hl : Cond.methodLink own idx y ∈ wAll) (hR : rm.frames + 1 ≤ R.frames ∧ 8 + (mL + 11) + rm.locals ≤ R.locals) :
    CallB R s args own idx y b mL r (wY y b mL r) rm rm.cells rm.slots n :=
  ⟨rfl, rfl, hR.1, hR.2, zz_pay hW hY, List.mem_cons_self, hW _ hY.1, hW _ hY.2.1, hY.2.2.1, hY.2.2.2, hW _ hl⟩
/-- the room of a call -/
abbrev zRm (rm R : Room) (mL cells slots : Nat) : Prop := (rm.frames + 1 ≤ R.frames ∧ 8 + (mL + 11) + rm.locals ≤ R.locals) ∧ cells + rm.cells ≤ R.cells ∧ slots + rm.slots ≤ R.slots
theorem zrunV {y : MethodName} {b : ByteArray} {mL n idx ci q0 a : Nat} {r : Option FieldType} {rm : Room} {As : List Value} {Qf : (Nat → Prop) → Array Value → State → Outcome → State → Prop} {T : u_T} {N : Nat} {fs : List Value}
    (Z : ZCtx p s m args meth c G cc nL own A) (hP : va_P G.1 vwCl ws H) (hD : va_D A ws) (hS : va_S A s.heap H locs) (hls : ls.size = nL)
    (hM : MC l G y (wY y b mL r) rm ws (.ref a :: As) Qf) (hY : zYv y b mL r n) (hl : Cond.methodLink own idx y ∈ wAll)
    (he : ws[q0]? = some (a, .inr (ci, fs))) (hc : vwCl[ci]? = some (y.cls, T, N)) (hn : As.length = n) (hst0 : st0 = As.reverse ++ .ref a :: rest) (hR : zRm rm R mL cells slots) (hst : (rest.map fun v => v.category).sum ≤ 8) (hdg : decode cc pc = .ok (.invokevirtual idx, 3)) :
    va_Run p l e R s m args below meth c H locs cells slots rm.cells rm.slots (F0 m pc ls st0) rest (Qf (va_A ws H.size) (Value.ref a :: As).toArray) (va_A ws H.size) := by
  have hpre := zz_pre (As := .ref a :: As) Z hP hD hS
  have hW := Z.2.2.2.2.1
  have hK := Z.2.2.2.2.2.2.1
  exact va_runV (zz_fix Z) (hM H.size) ⟨zz_cb hW hY.1 hl hR.1, hW _ hY.2.1, hW _ hY.2.2⟩ ⟨hpre.1, va_recv hK hP hc he, hpre.2⟩ rfl hn hls hst0 (lv_room hst) hdg hR.2
theorem zrunS {y : MethodName} {b : ByteArray} {mL n idx : Nat} {r : Option FieldType} {rm : Room} {As : List Value} {Qf : (Nat → Prop) → Array Value → State → Outcome → State → Prop}
    (Z : ZCtx p s m args meth c G cc nL own A) (hP : va_P G.1 vwCl ws H) (hD : va_D A ws) (hS : va_S A s.heap H locs) (hls : ls.size = nL)
    (hM : MC l G y (wY y b mL r) rm ws As Qf) (hY : zYs y b mL r n) (hl : Cond.methodLink own idx y ∈ wAll)
    (hn : As.length = n) (hst0 : st0 = As.reverse ++ rest) (hR : zRm rm R mL cells slots) (hst : (rest.map fun v => v.category).sum ≤ 8) (hdg : decode cc pc = .ok (.invokestatic idx, 3)) :
    va_Run p l e R s m args below meth c H locs cells slots rm.cells rm.slots (F0 m pc ls st0) rest (Qf (va_A ws H.size) As.toArray) (va_A ws H.size) := by
  have hpre := zz_pre (As := As) Z hP hD hS
  have hW := Z.2.2.2.2.1
  exact va_runS (zz_fix Z) (hM H.size) ⟨zz_cb hW hY.1 hl hR.1, hW _ hY.2⟩ hpre rfl hn hls hst0 (lv_room hst) hdg hR.2
theorem zz_cn (hW : ∀ w ∈ wAll, w.before args s = true) {y : MethodName} {b : ByteArray} {mL n : Nat} {r : Option FieldType} (hY : zYb y b mL r n) {rm : Room} {idx : Nat} {host : String} (hl : va_Nw (.methodLinkNest own idx y host) s) (hR : rm.frames + 1 ≤ R.frames ∧ 8 + (mL + 11) + rm.locals ≤ R.locals) :
    va_CN R s args own idx y host b mL r (wY y b mL r) rm rm.cells rm.slots n :=
  ⟨⟨rfl, rfl, hR.1, hR.2, zz_pay hW hY, List.mem_cons_self⟩, hW _ hY.1, hW _ hY.2.1, hY.2.2.1, hY.2.2.2, va_Nw.use rfl hl⟩
theorem zrunSN {y : MethodName} {b : ByteArray} {mL n idx : Nat} {r : Option FieldType} {rm : Room} {As : List Value} {Qf : (Nat → Prop) → Array Value → State → Outcome → State → Prop} {host : String}
    (Z : ZCtx p s m args meth c G cc nL own A) (hP : va_P G.1 vwCl ws H) (hD : va_D A ws) (hS : va_S A s.heap H locs) (hls : ls.size = nL)
    (hM : MC l G y (wY y b mL r) rm ws As Qf) (hY : zYs y b mL r n) (hl : (own, idx, y, host) ∈ xNest)
    (hn : As.length = n) (hst0 : st0 = As.reverse ++ rest) (hR : zRm rm R mL cells slots) (hst : (rest.map fun v => v.category).sum ≤ 8) (hdg : decode cc pc = .ok (.invokestatic idx, 3)) :
    va_Run p l e R s m args below meth c H locs cells slots rm.cells rm.slots (F0 m pc ls st0) rest (Qf (va_A ws H.size) As.toArray) (va_A ws H.size) := by
  have hpre := zz_pre (As := As) Z hP hD hS
  have hW := Z.2.2.2.2.1
  exact va_runSN (host := host) (zz_fix Z) (hM H.size) ⟨zz_cn hW hY.1 (Z.2.2.2.2.2.2.2.1.1 _ hl) hR.1, hW _ hY.2, trivial⟩ hpre rfl hn hls hst0 (lv_room hst) hdg hR.2
theorem zrunI {y : MethodName} {b : ByteArray} {mL n idx a : Nat} {rm : Room} {As : List Value} {Qf : (Nat → Prop) → Array Value → State → Outcome → State → Prop}
    (Z : ZCtx p s m args meth c G cc nL own A) (hP : va_P G.1 vwCl ws H) (hD : va_D A ws) (hS : va_S A s.heap H locs) (hls : ls.size = nL)
    (hM : MC l G y (wY y b mL none) rm ws (.ref a :: As) Qf) (hY : zYi y b mL n) (hl : Cond.methodLink own idx y ∈ wAll)
    (hn : As.length = n) (hst0 : st0 = As.reverse ++ .ref a :: rest) (hR : zRm rm R mL cells slots) (hst : (rest.map fun v => v.category).sum ≤ 8) (hdg : decode cc pc = .ok (.invokespecial idx, 3)) :
    va_Run p l e R s m args below meth c H locs cells slots rm.cells rm.slots (F0 m pc ls st0) rest (Qf (va_A ws H.size) (Value.ref a :: As).toArray) (va_A ws H.size) := by
  have hpre := zz_pre (As := .ref a :: As) Z hP hD hS
  have hW := Z.2.2.2.2.1
  exact va_runI (zz_fix Z) (hM H.size) ⟨zz_cb hW hY.1 hl hR.1, hY.2.1, hW _ hY.2.2⟩ hpre rfl hn hls hst0 (lv_room hst) hdg hR.2
theorem zrunIN {y : MethodName} {b : ByteArray} {mL n idx a : Nat} {rm : Room} {As : List Value} {Qf : (Nat → Prop) → Array Value → State → Outcome → State → Prop} {host : String}
    (Z : ZCtx p s m args meth c G cc nL own A) (hP : va_P G.1 vwCl ws H) (hD : va_D A ws) (hS : va_S A s.heap H locs) (hls : ls.size = nL)
    (hM : MC l G y (wY y b mL none) rm ws (.ref a :: As) Qf) (hY : zYi y b mL n) (hl : (own, idx, y, host) ∈ xNest)
    (hn : As.length = n) (hst0 : st0 = As.reverse ++ .ref a :: rest) (hR : zRm rm R mL cells slots) (hst : (rest.map fun v => v.category).sum ≤ 8) (hdg : decode cc pc = .ok (.invokespecial idx, 3)) :
    va_Run p l e R s m args below meth c H locs cells slots rm.cells rm.slots (F0 m pc ls st0) rest (Qf (va_A ws H.size) (Value.ref a :: As).toArray) (va_A ws H.size) := by
  have hpre := zz_pre (As := .ref a :: As) Z hP hD hS
  have hW := Z.2.2.2.2.1
  exact va_runIN (host := host) (zz_fix Z) (hM H.size) ⟨zz_cn hW hY.1 (Z.2.2.2.2.2.2.2.1.1 _ hl) hR.1, hY.2.1, hW _ hY.2.2⟩ hpre rfl hn hls hst0 (lv_room hst) hdg hR.2
variable {mc ms : Nat} {av : Array Value} {S : Type}
theorem zfin_I {post : Int32 → S → Prop} {ws' : S → va_W} (Z : ZCtx p s m args meth c G cc nL own A) (hD : va_D A ws) (hS : va_S A s.heap H locs)
    (hr : va_Run p l e R s m args below meth c H locs cells slots mc ms (F0 m pc ls st0) rest (QI G post ws' (va_A ws H.size) av) (va_A ws H.size))
    (kk : ∀ (r : Int32) (u : S) (H1 : Heap) (locs1 : List Loc), post r u → va_P G.1 vwCl (ws' u) H1 → va_D A (ws' u) → va_S A s.heap H1 locs1 → W p l e R s m args below meth c H1 locs1 (cells + mc) (slots + ms) Q (F0 m (pc + 3) ls (.int r :: rest))) : W p l e R s m args below meth c H locs cells slots Q (F0 m pc ls st0) := by
  have hf := zz_free hD hS Z.2.2.2.2.2.1
  refine va_calli hr hS (fun q _ h => hf q h) hf (fun r u t H1 locs1 ht _ hp hB _ _ hS1 => ?_)
  obtain ⟨hP1, -, hD1⟩ := hB
  rw [ht] at hP1
  exact kk r u H1 locs1 hp hP1 (hD1.weaken (fun _ q _ h => hf q.1 h)) hS1
theorem zdet_I {x : Int32} {w1 : va_W} (Z : ZCtx p s m args meth c G cc nL own A) (hD : va_D A ws) (hS : va_S A s.heap H locs)
    (hr : va_Run p l e R s m args below meth c H locs cells slots mc ms (F0 m pc ls st0) rest (QI G (fun r (_ : Unit) => r = x) (fun _ => w1) (va_A ws H.size) av) (va_A ws H.size))
    (kk : ∀ (H1 : Heap) (locs1 : List Loc), va_P G.1 vwCl w1 H1 → va_D A w1 → va_S A s.heap H1 locs1 → W p l e R s m args below meth c H1 locs1 (cells + mc) (slots + ms) Q (F0 m (pc + 3) ls (.int x :: rest))) : W p l e R s m args below meth c H locs cells slots Q (F0 m pc ls st0) :=
  zfin_I Z hD hS hr (fun r _ H1 locs1 hp hP1 hD1 hS1 => by subst hp; exact kk H1 locs1 hP1 hD1 hS1)
theorem zfin_L {post : Int64 → S → Prop} {ws' : S → va_W} (Z : ZCtx p s m args meth c G cc nL own A) (hD : va_D A ws) (hS : va_S A s.heap H locs)
    (hr : va_Run p l e R s m args below meth c H locs cells slots mc ms (F0 m pc ls st0) rest (QL G post ws' (va_A ws H.size) av) (va_A ws H.size))
    (kk : ∀ (r : Int64) (u : S) (H1 : Heap) (locs1 : List Loc), post r u → va_P G.1 vwCl (ws' u) H1 → va_D A (ws' u) → va_S A s.heap H1 locs1 → W p l e R s m args below meth c H1 locs1 (cells + mc) (slots + ms) Q (F0 m (pc + 3) ls (.long r :: rest))) : W p l e R s m args below meth c H locs cells slots Q (F0 m pc ls st0) := by
  have hf := zz_free hD hS Z.2.2.2.2.2.1
  refine va_calll hr hS (fun q _ h => hf q h) hf (fun r u t H1 locs1 ht _ hp hB _ _ hS1 => ?_)
  obtain ⟨hP1, -, hD1⟩ := hB
  rw [ht] at hP1
  exact kk r u H1 locs1 hp hP1 (hD1.weaken (fun _ q _ h => hf q.1 h)) hS1
theorem zdet_L {x : Int64} {w1 : va_W} (Z : ZCtx p s m args meth c G cc nL own A) (hD : va_D A ws) (hS : va_S A s.heap H locs)
    (hr : va_Run p l e R s m args below meth c H locs cells slots mc ms (F0 m pc ls st0) rest (QL G (fun r (_ : Unit) => r = x) (fun _ => w1) (va_A ws H.size) av) (va_A ws H.size))
    (kk : ∀ (H1 : Heap) (locs1 : List Loc), va_P G.1 vwCl w1 H1 → va_D A w1 → va_S A s.heap H1 locs1 → W p l e R s m args below meth c H1 locs1 (cells + mc) (slots + ms) Q (F0 m (pc + 3) ls (.long x :: rest))) : W p l e R s m args below meth c H locs cells slots Q (F0 m pc ls st0) :=
  zfin_L Z hD hS hr (fun r _ H1 locs1 hp hP1 hD1 hS1 => by subst hp; exact kk H1 locs1 hP1 hD1 hS1)
theorem zfin_F {post : UInt32 → S → Prop} {ws' : S → va_W} (Z : ZCtx p s m args meth c G cc nL own A) (hD : va_D A ws) (hS : va_S A s.heap H locs)
    (hr : va_Run p l e R s m args below meth c H locs cells slots mc ms (F0 m pc ls st0) rest (QF G post ws' (va_A ws H.size) av) (va_A ws H.size))
    (kk : ∀ (r : UInt32) (u : S) (H1 : Heap) (locs1 : List Loc), post r u → va_P G.1 vwCl (ws' u) H1 → va_D A (ws' u) → va_S A s.heap H1 locs1 → W p l e R s m args below meth c H1 locs1 (cells + mc) (slots + ms) Q (F0 m (pc + 3) ls (.float r :: rest))) : W p l e R s m args below meth c H locs cells slots Q (F0 m pc ls st0) := by
  have hf := zz_free hD hS Z.2.2.2.2.2.1
  refine va_callf hr hS (fun q _ h => hf q h) hf (fun r u t H1 locs1 ht _ hp hB _ _ hS1 => ?_)
  obtain ⟨hP1, -, hD1⟩ := hB
  rw [ht] at hP1
  exact kk r u H1 locs1 hp hP1 (hD1.weaken (fun _ q _ h => hf q.1 h)) hS1
theorem zdet_F {x : UInt32} {w1 : va_W} (Z : ZCtx p s m args meth c G cc nL own A) (hD : va_D A ws) (hS : va_S A s.heap H locs)
    (hr : va_Run p l e R s m args below meth c H locs cells slots mc ms (F0 m pc ls st0) rest (QF G (fun r (_ : Unit) => r = x) (fun _ => w1) (va_A ws H.size) av) (va_A ws H.size))
    (kk : ∀ (H1 : Heap) (locs1 : List Loc), va_P G.1 vwCl w1 H1 → va_D A w1 → va_S A s.heap H1 locs1 → W p l e R s m args below meth c H1 locs1 (cells + mc) (slots + ms) Q (F0 m (pc + 3) ls (.float x :: rest))) : W p l e R s m args below meth c H locs cells slots Q (F0 m pc ls st0) :=
  zfin_F Z hD hS hr (fun r _ H1 locs1 hp hP1 hD1 hS1 => by subst hp; exact kk H1 locs1 hP1 hD1 hS1)
theorem zfin_D {post : UInt64 → S → Prop} {ws' : S → va_W} (Z : ZCtx p s m args meth c G cc nL own A) (hD : va_D A ws) (hS : va_S A s.heap H locs)
    (hr : va_Run p l e R s m args below meth c H locs cells slots mc ms (F0 m pc ls st0) rest (QD G post ws' (va_A ws H.size) av) (va_A ws H.size))
    (kk : ∀ (r : UInt64) (u : S) (H1 : Heap) (locs1 : List Loc), post r u → va_P G.1 vwCl (ws' u) H1 → va_D A (ws' u) → va_S A s.heap H1 locs1 → W p l e R s m args below meth c H1 locs1 (cells + mc) (slots + ms) Q (F0 m (pc + 3) ls (.double r :: rest))) : W p l e R s m args below meth c H locs cells slots Q (F0 m pc ls st0) := by
  have hf := zz_free hD hS Z.2.2.2.2.2.1
  refine va_calld hr hS (fun q _ h => hf q h) hf (fun r u t H1 locs1 ht _ hp hB _ _ hS1 => ?_)
  obtain ⟨hP1, -, hD1⟩ := hB
  rw [ht] at hP1
  exact kk r u H1 locs1 hp hP1 (hD1.weaken (fun _ q _ h => hf q.1 h)) hS1
theorem zdet_D {x : UInt64} {w1 : va_W} (Z : ZCtx p s m args meth c G cc nL own A) (hD : va_D A ws) (hS : va_S A s.heap H locs)
    (hr : va_Run p l e R s m args below meth c H locs cells slots mc ms (F0 m pc ls st0) rest (QD G (fun r (_ : Unit) => r = x) (fun _ => w1) (va_A ws H.size) av) (va_A ws H.size))
    (kk : ∀ (H1 : Heap) (locs1 : List Loc), va_P G.1 vwCl w1 H1 → va_D A w1 → va_S A s.heap H1 locs1 → W p l e R s m args below meth c H1 locs1 (cells + mc) (slots + ms) Q (F0 m (pc + 3) ls (.double x :: rest))) : W p l e R s m args below meth c H locs cells slots Q (F0 m pc ls st0) :=
  zfin_D Z hD hS hr (fun r _ H1 locs1 hp hP1 hD1 hS1 => by subst hp; exact kk H1 locs1 hP1 hD1 hS1)
theorem zfin_V {post : S → Prop} {ws' : S → va_W} (Z : ZCtx p s m args meth c G cc nL own A) (hD : va_D A ws) (hS : va_S A s.heap H locs)
    (hr : va_Run p l e R s m args below meth c H locs cells slots mc ms (F0 m pc ls st0) rest (QV G post ws' (va_A ws H.size) av) (va_A ws H.size))
    (kk : ∀ (u : S) (H1 : Heap) (locs1 : List Loc), post u → va_P G.1 vwCl (ws' u) H1 → va_D A (ws' u) → va_S A s.heap H1 locs1 → W p l e R s m args below meth c H1 locs1 (cells + mc) (slots + ms) Q (F0 m (pc + 3) ls rest)) : W p l e R s m args below meth c H locs cells slots Q (F0 m pc ls st0) := by
  have hf := zz_free hD hS Z.2.2.2.2.2.1
  refine va_callv hr hS (fun q _ h => hf q h) hf (fun u t H1 locs1 ht _ hp hB _ _ hS1 => ?_)
  obtain ⟨hP1, -, hD1⟩ := hB
  rw [ht] at hP1
  exact kk u H1 locs1 hp hP1 (hD1.weaken (fun _ q _ h => hf q.1 h)) hS1
theorem zdet_V {w1 : va_W} (Z : ZCtx p s m args meth c G cc nL own A) (hD : va_D A ws) (hS : va_S A s.heap H locs)
    (hr : va_Run p l e R s m args below meth c H locs cells slots mc ms (F0 m pc ls st0) rest (QV G (fun (_ : Unit) => True) (fun _ => w1) (va_A ws H.size) av) (va_A ws H.size))
    (kk : ∀ (H1 : Heap) (locs1 : List Loc), va_P G.1 vwCl w1 H1 → va_D A w1 → va_S A s.heap H1 locs1 → W p l e R s m args below meth c H1 locs1 (cells + mc) (slots + ms) Q (F0 m (pc + 3) ls rest)) : W p l e R s m args below meth c H locs cells slots Q (F0 m pc ls st0) :=
  zfin_V Z hD hS hr (fun _ H1 locs1 _ hP1 hD1 hS1 => kk H1 locs1 hP1 hD1 hS1)
theorem zfin_R {post : S → Prop} {ad : Nat} {ws' : S → va_W} (Z : ZCtx p s m args meth c G cc nL own A) (hD : va_D A ws) (hS : va_S A s.heap H locs)
    (hr : va_Run p l e R s m args below meth c H locs cells slots mc ms (F0 m pc ls st0) rest (QR G post ad ws' (va_A ws H.size) av) (va_A ws H.size))
    (kk : ∀ (u : S) (H1 : Heap) (locs1 : List Loc), post u → va_P G.1 vwCl (ws' u) H1 → va_D A (ws' u) → va_S A s.heap H1 locs1 → W p l e R s m args below meth c H1 locs1 (cells + mc) (slots + ms) Q (F0 m (pc + 3) ls (.ref ad :: rest))) : W p l e R s m args below meth c H locs cells slots Q (F0 m pc ls st0) := by
  have hf := zz_free hD hS Z.2.2.2.2.2.1
  refine va_callr hr hS (fun q _ h => hf q h) hf (fun u ra t H1 locs1 ht _ hp hB _ _ hS1 => ?_)
  obtain ⟨rfl, hP1, -, hD1⟩ := hB
  rw [ht] at hP1
  exact kk u H1 locs1 hp hP1 (hD1.weaken (fun _ q _ h => hf q.1 h)) hS1
theorem zret_L {v : Int64} {post : Int64 → S → Prop} {ws' : S → va_W} (u : S) (Z : ZCtx p s m args meth c G cc nL own A) (hr : meth.sig.returnType = some .long) (hP : va_P G.1 vwCl ws H) (hD : va_D A ws) (hS : va_S A s.heap H locs) (hp : post v u) (hw : ws = ws' u) (hc : cells ≤ R.cells ∧ slots ≤ R.slots) (hdg : decode cc pc = .ok (.lreturn, 1)) :
    W p l e R s m args below meth c H locs cells slots (MQ below (QL G post ws' A) args s R.cells R.slots A) (F0 m pc ls [.long v]) := by
  have hlocks := Z.2.2.2.2.2.2.2.2
  subst hw
  exact W.widen hc.1 hc.2 (W.lret Z.1 Z.2.1 hr (fun t ht hW => ⟨⟨v, u, rfl, hp, by rw [ht]; exact hP, va_K.moved hW.alike Z.2.2.2.2.2.2.1, hD⟩, hS.F ht⟩) hS.2.2 hdg hlocks)
theorem zret_F {v : UInt32} {post : UInt32 → S → Prop} {ws' : S → va_W} (u : S) (Z : ZCtx p s m args meth c G cc nL own A) (hr : meth.sig.returnType = some .float) (hP : va_P G.1 vwCl ws H) (hD : va_D A ws) (hS : va_S A s.heap H locs) (hp : post v u) (hw : ws = ws' u) (hc : cells ≤ R.cells ∧ slots ≤ R.slots) (hdg : decode cc pc = .ok (.freturn, 1)) :
    W p l e R s m args below meth c H locs cells slots (MQ below (QF G post ws' A) args s R.cells R.slots A) (F0 m pc ls [.float v]) := by
  have hlocks := Z.2.2.2.2.2.2.2.2
  subst hw
  exact W.widen hc.1 hc.2 (W.fret Z.1 Z.2.1 hr (fun t ht hW => ⟨⟨v, u, rfl, hp, by rw [ht]; exact hP, va_K.moved hW.alike Z.2.2.2.2.2.2.1, hD⟩, hS.F ht⟩) hS.2.2 hdg hlocks)
theorem zret_D {v : UInt64} {post : UInt64 → S → Prop} {ws' : S → va_W} (u : S) (Z : ZCtx p s m args meth c G cc nL own A) (hr : meth.sig.returnType = some .double) (hP : va_P G.1 vwCl ws H) (hD : va_D A ws) (hS : va_S A s.heap H locs) (hp : post v u) (hw : ws = ws' u) (hc : cells ≤ R.cells ∧ slots ≤ R.slots) (hdg : decode cc pc = .ok (.dreturn, 1)) :
    W p l e R s m args below meth c H locs cells slots (MQ below (QD G post ws' A) args s R.cells R.slots A) (F0 m pc ls [.double v]) := by
  have hlocks := Z.2.2.2.2.2.2.2.2
  subst hw
  exact W.widen hc.1 hc.2 (W.dret Z.1 Z.2.1 hr (fun t ht hW => ⟨⟨v, u, rfl, hp, by rw [ht]; exact hP, va_K.moved hW.alike Z.2.2.2.2.2.2.1, hD⟩, hS.F ht⟩) hS.2.2 hdg hlocks)
theorem zret_I {v : Int32} {post : Int32 → S → Prop} {ws' : S → va_W} (u : S) (Z : ZCtx p s m args meth c G cc nL own A) (hr : meth.sig.returnType = some .int) (hP : va_P G.1 vwCl ws H) (hD : va_D A ws) (hS : va_S A s.heap H locs) (hp : post v u) (hw : ws = ws' u) (hc : cells ≤ R.cells ∧ slots ≤ R.slots) (hdg : decode cc pc = .ok (.ireturn, 1)) :
    W p l e R s m args below meth c H locs cells slots (MQ below (QI G post ws' A) args s R.cells R.slots A) (F0 m pc ls [.int v]) := by
  have hlocks := Z.2.2.2.2.2.2.2.2
  subst hw
  exact W.widen hc.1 hc.2 (W.iret Z.1 Z.2.1 hr (fun t ht hW => ⟨⟨v, u, rfl, hp, by rw [ht]; exact hP, va_K.moved hW.alike Z.2.2.2.2.2.2.1, hD⟩, hS.F ht⟩) hS.2.2 hdg hlocks)
theorem zret_B {v : Int32} {post : Int32 → S → Prop} {ws' : S → va_W} (u : S) (Z : ZCtx p s m args meth c G cc nL own A) (hr : meth.sig.returnType = some .boolean) (hv : narrow .boolean (.int v) = .int v) (hP : va_P G.1 vwCl ws H) (hD : va_D A ws) (hS : va_S A s.heap H locs) (hp : post v u) (hw : ws = ws' u) (hc : cells ≤ R.cells ∧ slots ≤ R.slots) (hdg : decode cc pc = .ok (.ireturn, 1)) :
    W p l e R s m args below meth c H locs cells slots (MQ below (QI G post ws' A) args s R.cells R.slots A) (F0 m pc ls [.int v]) := by
  have hlocks := Z.2.2.2.2.2.2.2.2
  subst hw
  exact W.widen hc.1 hc.2 (W.zret Z.1 Z.2.1 hr hv (fun t ht hW => ⟨⟨v, u, rfl, hp, by rw [ht]; exact hP, va_K.moved hW.alike Z.2.2.2.2.2.2.1, hD⟩, hS.F ht⟩) hS.2.2 hdg hlocks)
theorem zret_V {post : S → Prop} {ws' : S → va_W} (u : S) (Z : ZCtx p s m args meth c G cc nL own A) (hr : meth.sig.returnType = none) (hP : va_P G.1 vwCl ws H) (hD : va_D A ws) (hS : va_S A s.heap H locs) (hp : post u) (hw : ws = ws' u) (hc : cells ≤ R.cells ∧ slots ≤ R.slots) (hdg : decode cc pc = .ok (.return_, 1)) :
    W p l e R s m args below meth c H locs cells slots (MQ below (QV G post ws' A) args s R.cells R.slots A) (F0 m pc ls []) := by
  have hlocks := Z.2.2.2.2.2.2.2.2
  subst hw
  exact W.widen hc.1 hc.2 (W.vret Z.1 Z.2.1 hr (fun t ht hW => ⟨⟨u, rfl, hp, by rw [ht]; exact hP, va_K.moved hW.alike Z.2.2.2.2.2.2.1, hD⟩, hS.F ht⟩) hS.2.2 hdg hlocks)
theorem zret_R {ad : Nat} {post : S → Prop} {ws' : S → va_W} {rt : FieldType} (u : S) (Z : ZCtx p s m args meth c G cc nL own A) (hr : meth.sig.returnType = some (.array rt)) (hP : va_P G.1 vwCl ws H) (hD : va_D A ws) (hS : va_S A s.heap H locs) (hp : post u) (hw : ws = ws' u) (hc : cells ≤ R.cells ∧ slots ≤ R.slots) (hdg : decode cc pc = .ok (.areturn, 1)) :
    W p l e R s m args below meth c H locs cells slots (MQ below (QR G post ad ws' A) args s R.cells R.slots A) (F0 m pc ls [.ref ad]) := by
  have hlocks := Z.2.2.2.2.2.2.2.2
  subst hw
  exact W.widen hc.1 hc.2 (W.aret Z.1 Z.2.1 hr (Or.inr ⟨_, rfl⟩) (Or.inr ⟨_, rfl⟩) (fun t ht hW => ⟨⟨u, ad, rfl, hp, rfl, by rw [ht]; exact hP, va_K.moved hW.alike Z.2.2.2.2.2.2.1, hD⟩, hS.F ht⟩) hS.2.2 hdg hlocks)
end ZCalls
end
