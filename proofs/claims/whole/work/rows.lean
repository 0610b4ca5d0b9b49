section
-- ===== PART A: goes FIRST, ahead of the names: the tables' words, and 'selects' of the private methods out of them =====
/-- a private method of a class that the tables say can be made, by its rows of tables_1 -/
def lw_okq (q : MethodName × Nat) : Prop := (q.1.cls ≠ "java/lang/invoke/MethodHandle" ∧ q.1.cls ≠ "java/lang/invoke/VarHandle") ∧ Cond.instantiable q.1.cls q.2 ∈ tables_1 ∧ Cond.privateMethod q.1 ∈ tables_1 ∧ Cond.instanceMethod q.1 ∈ tables_1
theorem lw_p0 : lw_okq (⟨"JamSongs", "found", "(I)I"⟩, 18) := ⟨⟨by decide +kernel, by decide +kernel⟩, List.mem_of_getElem? (i := 11) (by decide +kernel), List.mem_of_getElem? (i := 219) (by decide +kernel), List.mem_of_getElem? (i := 220) (by decide +kernel)⟩
theorem lw_p1 : lw_okq (⟨"JamSongs", "fine", "(I)I"⟩, 18) := ⟨⟨by decide +kernel, by decide +kernel⟩, List.mem_of_getElem? (i := 11) (by decide +kernel), List.mem_of_getElem? (i := 231) (by decide +kernel), List.mem_of_getElem? (i := 232) (by decide +kernel)⟩
theorem lw_p2 : lw_okq (⟨"JamSongs$Tape", "step", "()V"⟩, 7) := ⟨⟨by decide +kernel, by decide +kernel⟩, List.mem_of_getElem? (i := 21) (by decide +kernel), List.mem_of_getElem? (i := 277) (by decide +kernel), List.mem_of_getElem? (i := 278) (by decide +kernel)⟩
theorem lw_p3 : lw_okq (⟨"JamSongs$Tape", "stepNumber", "()V"⟩, 7) := ⟨⟨by decide +kernel, by decide +kernel⟩, List.mem_of_getElem? (i := 21) (by decide +kernel), List.mem_of_getElem? (i := 284) (by decide +kernel), List.mem_of_getElem? (i := 285) (by decide +kernel)⟩
theorem lw_p4 : lw_okq (⟨"JamSongs$Tape", "take", "(I)V"⟩, 7) := ⟨⟨by decide +kernel, by decide +kernel⟩, List.mem_of_getElem? (i := 21) (by decide +kernel), List.mem_of_getElem? (i := 291) (by decide +kernel), List.mem_of_getElem? (i := 292) (by decide +kernel)⟩
theorem lw_p5 : lw_okq (⟨"JamSongs$Tape", "takeNumber", "(II)I"⟩, 7) := ⟨⟨by decide +kernel, by decide +kernel⟩, List.mem_of_getElem? (i := 21) (by decide +kernel), List.mem_of_getElem? (i := 295) (by decide +kernel), List.mem_of_getElem? (i := 296) (by decide +kernel)⟩
theorem lw_p6 : lw_okq (⟨"JamSongs$Tape", "readSinger", "(LJamSongs$Kitchen;I)V"⟩, 7) := ⟨⟨by decide +kernel, by decide +kernel⟩, List.mem_of_getElem? (i := 21) (by decide +kernel), List.mem_of_getElem? (i := 299) (by decide +kernel), List.mem_of_getElem? (i := 300) (by decide +kernel)⟩
theorem lw_p7 : lw_okq (⟨"JamSongs$Tape", "readPan", "(LJamSongs$Kitchen;I)V"⟩, 7) := ⟨⟨by decide +kernel, by decide +kernel⟩, List.mem_of_getElem? (i := 21) (by decide +kernel), List.mem_of_getElem? (i := 306) (by decide +kernel), List.mem_of_getElem? (i := 307) (by decide +kernel)⟩
theorem lw_p8 : lw_okq (⟨"JamSongs", "keepAct", "()V"⟩, 18) := ⟨⟨by decide +kernel, by decide +kernel⟩, List.mem_of_getElem? (i := 11) (by decide +kernel), List.mem_of_getElem? (i := 329) (by decide +kernel), List.mem_of_getElem? (i := 330) (by decide +kernel)⟩
theorem lw_p9 : lw_okq (⟨"JamSongs$Kitchen", "hear", "(I[I)V"⟩, 15) := ⟨⟨by decide +kernel, by decide +kernel⟩, List.mem_of_getElem? (i := 54) (by decide +kernel), List.mem_of_getElem? (i := 346) (by decide +kernel), List.mem_of_getElem? (i := 347) (by decide +kernel)⟩
theorem lw_p10 : lw_okq (⟨"JamSongs$Kitchen", "judge", "(III)I"⟩, 15) := ⟨⟨by decide +kernel, by decide +kernel⟩, List.mem_of_getElem? (i := 54) (by decide +kernel), List.mem_of_getElem? (i := 354) (by decide +kernel), List.mem_of_getElem? (i := 355) (by decide +kernel)⟩
theorem lw_p11 : lw_okq (⟨"JamSongs$Kitchen", "thickBy", "(II)I"⟩, 15) := ⟨⟨by decide +kernel, by decide +kernel⟩, List.mem_of_getElem? (i := 54) (by decide +kernel), List.mem_of_getElem? (i := 361) (by decide +kernel), List.mem_of_getElem? (i := 362) (by decide +kernel)⟩
theorem lw_p12 : lw_okq (⟨"JamSongs", "takeTune", "(LJamSongs$Row;II)I"⟩, 18) := ⟨⟨by decide +kernel, by decide +kernel⟩, List.mem_of_getElem? (i := 11) (by decide +kernel), List.mem_of_getElem? (i := 397) (by decide +kernel), List.mem_of_getElem? (i := 398) (by decide +kernel)⟩
theorem lw_p13 : lw_okq (⟨"JamSongs", "trySolo", "(III)V"⟩, 18) := ⟨⟨by decide +kernel, by decide +kernel⟩, List.mem_of_getElem? (i := 11) (by decide +kernel), List.mem_of_getElem? (i := 401) (by decide +kernel), List.mem_of_getElem? (i := 402) (by decide +kernel)⟩
theorem lw_p14 : lw_okq (⟨"JamSongs", "tryRound", "(II)V"⟩, 18) := ⟨⟨by decide +kernel, by decide +kernel⟩, List.mem_of_getElem? (i := 11) (by decide +kernel), List.mem_of_getElem? (i := 416) (by decide +kernel), List.mem_of_getElem? (i := 417) (by decide +kernel)⟩
theorem lw_p15 : lw_okq (⟨"JamSongs", "seekSong", "(II)V"⟩, 18) := ⟨⟨by decide +kernel, by decide +kernel⟩, List.mem_of_getElem? (i := 11) (by decide +kernel), List.mem_of_getElem? (i := 434) (by decide +kernel), List.mem_of_getElem? (i := 435) (by decide +kernel)⟩
def lw_privs_1 : List (MethodName × Nat) := [(⟨"JamSongs", "found", "(I)I"⟩, 18), (⟨"JamSongs", "fine", "(I)I"⟩, 18), (⟨"JamSongs$Tape", "step", "()V"⟩, 7), (⟨"JamSongs$Tape", "stepNumber", "()V"⟩, 7), (⟨"JamSongs$Tape", "take", "(I)V"⟩, 7), (⟨"JamSongs$Tape", "takeNumber", "(II)I"⟩, 7), (⟨"JamSongs$Tape", "readSinger", "(LJamSongs$Kitchen;I)V"⟩, 7), (⟨"JamSongs$Tape", "readPan", "(LJamSongs$Kitchen;I)V"⟩, 7), (⟨"JamSongs", "keepAct", "()V"⟩, 18), (⟨"JamSongs$Kitchen", "hear", "(I[I)V"⟩, 15), (⟨"JamSongs$Kitchen", "judge", "(III)I"⟩, 15), (⟨"JamSongs$Kitchen", "thickBy", "(II)I"⟩, 15), (⟨"JamSongs", "takeTune", "(LJamSongs$Row;II)I"⟩, 18), (⟨"JamSongs", "trySolo", "(III)V"⟩, 18), (⟨"JamSongs", "tryRound", "(II)V"⟩, 18), (⟨"JamSongs", "seekSong", "(II)V"⟩, 18)]
theorem lw_r1 : ∀ q ∈ lw_privs_1, lw_okq q := List.forall_mem_cons.mpr ⟨lw_p0, List.forall_mem_cons.mpr ⟨lw_p1, List.forall_mem_cons.mpr ⟨lw_p2, List.forall_mem_cons.mpr ⟨lw_p3, List.forall_mem_cons.mpr ⟨lw_p4, List.forall_mem_cons.mpr ⟨lw_p5, List.forall_mem_cons.mpr ⟨lw_p6, List.forall_mem_cons.mpr ⟨lw_p7, List.forall_mem_cons.mpr ⟨lw_p8, List.forall_mem_cons.mpr ⟨lw_p9, List.forall_mem_cons.mpr ⟨lw_p10, List.forall_mem_cons.mpr ⟨lw_p11, List.forall_mem_cons.mpr ⟨lw_p12, List.forall_mem_cons.mpr ⟨lw_p13, List.forall_mem_cons.mpr ⟨lw_p14, List.forall_mem_cons.mpr ⟨lw_p15, fun _ h => absurd h List.not_mem_nil⟩⟩⟩⟩⟩⟩⟩⟩⟩⟩⟩⟩⟩⟩⟩⟩
theorem lw_p16 : lw_okq (⟨"JamSongs", "trySong", "(III)I"⟩, 18) := ⟨⟨by decide +kernel, by decide +kernel⟩, List.mem_of_getElem? (i := 11) (by decide +kernel), List.mem_of_getElem? (i := 438) (by decide +kernel), List.mem_of_getElem? (i := 439) (by decide +kernel)⟩
theorem lw_p17 : lw_okq (⟨"JamSongs", "weighSong", "(II)V"⟩, 18) := ⟨⟨by decide +kernel, by decide +kernel⟩, List.mem_of_getElem? (i := 11) (by decide +kernel), List.mem_of_getElem? (i := 446) (by decide +kernel), List.mem_of_getElem? (i := 447) (by decide +kernel)⟩
theorem lw_p18 : lw_okq (⟨"JamSongs", "setsWithout", "(IIII)Z"⟩, 18) := ⟨⟨by decide +kernel, by decide +kernel⟩, List.mem_of_getElem? (i := 11) (by decide +kernel), List.mem_of_getElem? (i := 455) (by decide +kernel), List.mem_of_getElem? (i := 456) (by decide +kernel)⟩
theorem lw_p19 : lw_okq (⟨"JamSongs", "sizeOfPlums", "(I)I"⟩, 18) := ⟨⟨by decide +kernel, by decide +kernel⟩, List.mem_of_getElem? (i := 11) (by decide +kernel), List.mem_of_getElem? (i := 502) (by decide +kernel), List.mem_of_getElem? (i := 503) (by decide +kernel)⟩
theorem lw_p20 : lw_okq (⟨"JamSongs", "leave", "(I)V"⟩, 18) := ⟨⟨by decide +kernel, by decide +kernel⟩, List.mem_of_getElem? (i := 11) (by decide +kernel), List.mem_of_getElem? (i := 506) (by decide +kernel), List.mem_of_getElem? (i := 507) (by decide +kernel)⟩
theorem lw_p21 : lw_okq (⟨"JamSongs", "plumSize", "(I)I"⟩, 18) := ⟨⟨by decide +kernel, by decide +kernel⟩, List.mem_of_getElem? (i := 11) (by decide +kernel), List.mem_of_getElem? (i := 510) (by decide +kernel), List.mem_of_getElem? (i := 511) (by decide +kernel)⟩
theorem lw_p22 : lw_okq (⟨"JamSongs", "lentSize", "(I)I"⟩, 18) := ⟨⟨by decide +kernel, by decide +kernel⟩, List.mem_of_getElem? (i := 11) (by decide +kernel), List.mem_of_getElem? (i := 514) (by decide +kernel), List.mem_of_getElem? (i := 515) (by decide +kernel)⟩
theorem lw_p23 : lw_okq (⟨"JamSongs", "markOfPlums", "(I)I"⟩, 18) := ⟨⟨by decide +kernel, by decide +kernel⟩, List.mem_of_getElem? (i := 11) (by decide +kernel), List.mem_of_getElem? (i := 518) (by decide +kernel), List.mem_of_getElem? (i := 519) (by decide +kernel)⟩
theorem lw_p24 : lw_okq (⟨"JamSongs", "plumMark", "(I)I"⟩, 18) := ⟨⟨by decide +kernel, by decide +kernel⟩, List.mem_of_getElem? (i := 11) (by decide +kernel), List.mem_of_getElem? (i := 522) (by decide +kernel), List.mem_of_getElem? (i := 523) (by decide +kernel)⟩
theorem lw_p25 : lw_okq (⟨"JamSongs", "lentMark", "(I)I"⟩, 18) := ⟨⟨by decide +kernel, by decide +kernel⟩, List.mem_of_getElem? (i := 11) (by decide +kernel), List.mem_of_getElem? (i := 526) (by decide +kernel), List.mem_of_getElem? (i := 527) (by decide +kernel)⟩
theorem lw_p26 : lw_okq (⟨"JamSongs", "sizeOfMarrows", "(I)I"⟩, 18) := ⟨⟨by decide +kernel, by decide +kernel⟩, List.mem_of_getElem? (i := 11) (by decide +kernel), List.mem_of_getElem? (i := 530) (by decide +kernel), List.mem_of_getElem? (i := 531) (by decide +kernel)⟩
theorem lw_p27 : lw_okq (⟨"JamSongs", "marrowSize", "(I)I"⟩, 18) := ⟨⟨by decide +kernel, by decide +kernel⟩, List.mem_of_getElem? (i := 11) (by decide +kernel), List.mem_of_getElem? (i := 534) (by decide +kernel), List.mem_of_getElem? (i := 535) (by decide +kernel)⟩
theorem lw_p28 : lw_okq (⟨"JamSongs", "markOfMarrows", "(I)I"⟩, 18) := ⟨⟨by decide +kernel, by decide +kernel⟩, List.mem_of_getElem? (i := 11) (by decide +kernel), List.mem_of_getElem? (i := 538) (by decide +kernel), List.mem_of_getElem? (i := 539) (by decide +kernel)⟩
theorem lw_p29 : lw_okq (⟨"JamSongs", "rowsThere", "()I"⟩, 18) := ⟨⟨by decide +kernel, by decide +kernel⟩, List.mem_of_getElem? (i := 11) (by decide +kernel), List.mem_of_getElem? (i := 550) (by decide +kernel), List.mem_of_getElem? (i := 551) (by decide +kernel)⟩
theorem lw_p30 : lw_okq (⟨"JamSongsModel", "find", "(I)I"⟩, 26) := ⟨⟨by decide +kernel, by decide +kernel⟩, List.mem_of_getElem? (i := 558) (by decide +kernel), List.mem_of_getElem? (i := 657) (by decide +kernel), List.mem_of_getElem? (i := 658) (by decide +kernel)⟩
theorem lw_p31 : lw_okq (⟨"JamSongsModel", "well", "(I)I"⟩, 26) := ⟨⟨by decide +kernel, by decide +kernel⟩, List.mem_of_getElem? (i := 558) (by decide +kernel), List.mem_of_getElem? (i := 662) (by decide +kernel), List.mem_of_getElem? (i := 663) (by decide +kernel)⟩
def lw_privs_2 : List (MethodName × Nat) := [(⟨"JamSongs", "trySong", "(III)I"⟩, 18), (⟨"JamSongs", "weighSong", "(II)V"⟩, 18), (⟨"JamSongs", "setsWithout", "(IIII)Z"⟩, 18), (⟨"JamSongs", "sizeOfPlums", "(I)I"⟩, 18), (⟨"JamSongs", "leave", "(I)V"⟩, 18), (⟨"JamSongs", "plumSize", "(I)I"⟩, 18), (⟨"JamSongs", "lentSize", "(I)I"⟩, 18), (⟨"JamSongs", "markOfPlums", "(I)I"⟩, 18), (⟨"JamSongs", "plumMark", "(I)I"⟩, 18), (⟨"JamSongs", "lentMark", "(I)I"⟩, 18), (⟨"JamSongs", "sizeOfMarrows", "(I)I"⟩, 18), (⟨"JamSongs", "marrowSize", "(I)I"⟩, 18), (⟨"JamSongs", "markOfMarrows", "(I)I"⟩, 18), (⟨"JamSongs", "rowsThere", "()I"⟩, 18), (⟨"JamSongsModel", "find", "(I)I"⟩, 26), (⟨"JamSongsModel", "well", "(I)I"⟩, 26)]
theorem lw_r2 : ∀ q ∈ lw_privs_2, lw_okq q := List.forall_mem_cons.mpr ⟨lw_p16, List.forall_mem_cons.mpr ⟨lw_p17, List.forall_mem_cons.mpr ⟨lw_p18, List.forall_mem_cons.mpr ⟨lw_p19, List.forall_mem_cons.mpr ⟨lw_p20, List.forall_mem_cons.mpr ⟨lw_p21, List.forall_mem_cons.mpr ⟨lw_p22, List.forall_mem_cons.mpr ⟨lw_p23, List.forall_mem_cons.mpr ⟨lw_p24, List.forall_mem_cons.mpr ⟨lw_p25, List.forall_mem_cons.mpr ⟨lw_p26, List.forall_mem_cons.mpr ⟨lw_p27, List.forall_mem_cons.mpr ⟨lw_p28, List.forall_mem_cons.mpr ⟨lw_p29, List.forall_mem_cons.mpr ⟨lw_p30, List.forall_mem_cons.mpr ⟨lw_p31, fun _ h => absurd h List.not_mem_nil⟩⟩⟩⟩⟩⟩⟩⟩⟩⟩⟩⟩⟩⟩⟩⟩
theorem lw_p32 : lw_okq (⟨"JamSongsModel", "readKitchen", "()Z"⟩, 26) := ⟨⟨by decide +kernel, by decide +kernel⟩, List.mem_of_getElem? (i := 558) (by decide +kernel), List.mem_of_getElem? (i := 691) (by decide +kernel), List.mem_of_getElem? (i := 692) (by decide +kernel)⟩
theorem lw_p33 : lw_okq (⟨"JamSongsModel", "nextToken", "()V"⟩, 26) := ⟨⟨by decide +kernel, by decide +kernel⟩, List.mem_of_getElem? (i := 558) (by decide +kernel), List.mem_of_getElem? (i := 695) (by decide +kernel), List.mem_of_getElem? (i := 696) (by decide +kernel)⟩
theorem lw_p34 : lw_okq (⟨"JamSongsModel", "takes", "(I)Z"⟩, 26) := ⟨⟨by decide +kernel, by decide +kernel⟩, List.mem_of_getElem? (i := 558) (by decide +kernel), List.mem_of_getElem? (i := 703) (by decide +kernel), List.mem_of_getElem? (i := 704) (by decide +kernel)⟩
theorem lw_p35 : lw_okq (⟨"JamSongsModel", "isLetter", "(I)Z"⟩, 26) := ⟨⟨by decide +kernel, by decide +kernel⟩, List.mem_of_getElem? (i := 558) (by decide +kernel), List.mem_of_getElem? (i := 707) (by decide +kernel), List.mem_of_getElem? (i := 708) (by decide +kernel)⟩
theorem lw_p36 : lw_okq (⟨"JamSongsModel", "faults", "(I)Z"⟩, 26) := ⟨⟨by decide +kernel, by decide +kernel⟩, List.mem_of_getElem? (i := 558) (by decide +kernel), List.mem_of_getElem? (i := 711) (by decide +kernel), List.mem_of_getElem? (i := 712) (by decide +kernel)⟩
theorem lw_p37 : lw_okq (⟨"JamSongsModel", "takesNumber", "(IIII)Z"⟩, 26) := ⟨⟨by decide +kernel, by decide +kernel⟩, List.mem_of_getElem? (i := 558) (by decide +kernel), List.mem_of_getElem? (i := 715) (by decide +kernel), List.mem_of_getElem? (i := 716) (by decide +kernel)⟩
theorem lw_p38 : lw_okq (⟨"JamSongsModel", "readPan", "(I)Z"⟩, 26) := ⟨⟨by decide +kernel, by decide +kernel⟩, List.mem_of_getElem? (i := 558) (by decide +kernel), List.mem_of_getElem? (i := 719) (by decide +kernel), List.mem_of_getElem? (i := 720) (by decide +kernel)⟩
theorem lw_p39 : lw_okq (⟨"JamSongsModel", "readSinger", "()Z"⟩, 26) := ⟨⟨by decide +kernel, by decide +kernel⟩, List.mem_of_getElem? (i := 558) (by decide +kernel), List.mem_of_getElem? (i := 724) (by decide +kernel), List.mem_of_getElem? (i := 725) (by decide +kernel)⟩
theorem lw_p40 : lw_okq (⟨"JamSongsModel", "canSing", "(II)Z"⟩, 26) := ⟨⟨by decide +kernel, by decide +kernel⟩, List.mem_of_getElem? (i := 558) (by decide +kernel), List.mem_of_getElem? (i := 738) (by decide +kernel), List.mem_of_getElem? (i := 739) (by decide +kernel)⟩
theorem lw_p41 : lw_okq (⟨"JamSongsModel", "note", "()V"⟩, 26) := ⟨⟨by decide +kernel, by decide +kernel⟩, List.mem_of_getElem? (i := 558) (by decide +kernel), List.mem_of_getElem? (i := 742) (by decide +kernel), List.mem_of_getElem? (i := 743) (by decide +kernel)⟩
theorem lw_p42 : lw_okq (⟨"JamSongsModel", "oneBar", "()V"⟩, 26) := ⟨⟨by decide +kernel, by decide +kernel⟩, List.mem_of_getElem? (i := 558) (by decide +kernel), List.mem_of_getElem? (i := 746) (by decide +kernel), List.mem_of_getElem? (i := 747) (by decide +kernel)⟩
theorem lw_p43 : lw_okq (⟨"JamSongsModel", "panHears", "(I)V"⟩, 26) := ⟨⟨by decide +kernel, by decide +kernel⟩, List.mem_of_getElem? (i := 558) (by decide +kernel), List.mem_of_getElem? (i := 750) (by decide +kernel), List.mem_of_getElem? (i := 751) (by decide +kernel)⟩
theorem lw_p44 : lw_okq (⟨"JamSongsModel", "setPans", "()I"⟩, 26) := ⟨⟨by decide +kernel, by decide +kernel⟩, List.mem_of_getElem? (i := 558) (by decide +kernel), List.mem_of_getElem? (i := 757) (by decide +kernel), List.mem_of_getElem? (i := 758) (by decide +kernel)⟩
theorem lw_p45 : lw_okq (⟨"JamSongsModel", "isPan", "(I)Z"⟩, 26) := ⟨⟨by decide +kernel, by decide +kernel⟩, List.mem_of_getElem? (i := 558) (by decide +kernel), List.mem_of_getElem? (i := 765) (by decide +kernel), List.mem_of_getElem? (i := 766) (by decide +kernel)⟩
theorem lw_p46 : lw_okq (⟨"JamSongsModel", "isSinger", "(I)Z"⟩, 26) := ⟨⟨by decide +kernel, by decide +kernel⟩, List.mem_of_getElem? (i := 558) (by decide +kernel), List.mem_of_getElem? (i := 769) (by decide +kernel), List.mem_of_getElem? (i := 770) (by decide +kernel)⟩
theorem lw_p47 : lw_okq (⟨"JamSongsModel", "lacks", "(III)I"⟩, 26) := ⟨⟨by decide +kernel, by decide +kernel⟩, List.mem_of_getElem? (i := 558) (by decide +kernel), List.mem_of_getElem? (i := 790) (by decide +kernel), List.mem_of_getElem? (i := 791) (by decide +kernel)⟩
def lw_privs_3 : List (MethodName × Nat) := [(⟨"JamSongsModel", "readKitchen", "()Z"⟩, 26), (⟨"JamSongsModel", "nextToken", "()V"⟩, 26), (⟨"JamSongsModel", "takes", "(I)Z"⟩, 26), (⟨"JamSongsModel", "isLetter", "(I)Z"⟩, 26), (⟨"JamSongsModel", "faults", "(I)Z"⟩, 26), (⟨"JamSongsModel", "takesNumber", "(IIII)Z"⟩, 26), (⟨"JamSongsModel", "readPan", "(I)Z"⟩, 26), (⟨"JamSongsModel", "readSinger", "()Z"⟩, 26), (⟨"JamSongsModel", "canSing", "(II)Z"⟩, 26), (⟨"JamSongsModel", "note", "()V"⟩, 26), (⟨"JamSongsModel", "oneBar", "()V"⟩, 26), (⟨"JamSongsModel", "panHears", "(I)V"⟩, 26), (⟨"JamSongsModel", "setPans", "()I"⟩, 26), (⟨"JamSongsModel", "isPan", "(I)Z"⟩, 26), (⟨"JamSongsModel", "isSinger", "(I)Z"⟩, 26), (⟨"JamSongsModel", "lacks", "(III)I"⟩, 26)]
theorem lw_r3 : ∀ q ∈ lw_privs_3, lw_okq q := List.forall_mem_cons.mpr ⟨lw_p32, List.forall_mem_cons.mpr ⟨lw_p33, List.forall_mem_cons.mpr ⟨lw_p34, List.forall_mem_cons.mpr ⟨lw_p35, List.forall_mem_cons.mpr ⟨lw_p36, List.forall_mem_cons.mpr ⟨lw_p37, List.forall_mem_cons.mpr ⟨lw_p38, List.forall_mem_cons.mpr ⟨lw_p39, List.forall_mem_cons.mpr ⟨lw_p40, List.forall_mem_cons.mpr ⟨lw_p41, List.forall_mem_cons.mpr ⟨lw_p42, List.forall_mem_cons.mpr ⟨lw_p43, List.forall_mem_cons.mpr ⟨lw_p44, List.forall_mem_cons.mpr ⟨lw_p45, List.forall_mem_cons.mpr ⟨lw_p46, List.forall_mem_cons.mpr ⟨lw_p47, fun _ h => absurd h List.not_mem_nil⟩⟩⟩⟩⟩⟩⟩⟩⟩⟩⟩⟩⟩⟩⟩⟩
theorem lw_p48 : lw_okq (⟨"JamSongsModel", "putAside", "()V"⟩, 26) := ⟨⟨by decide +kernel, by decide +kernel⟩, List.mem_of_getElem? (i := 558) (by decide +kernel), List.mem_of_getElem? (i := 794) (by decide +kernel), List.mem_of_getElem? (i := 795) (by decide +kernel)⟩
theorem lw_p49 : lw_okq (⟨"JamSongsModel", "singAlone", "(IIII)V"⟩, 26) := ⟨⟨by decide +kernel, by decide +kernel⟩, List.mem_of_getElem? (i := 558) (by decide +kernel), List.mem_of_getElem? (i := 798) (by decide +kernel), List.mem_of_getElem? (i := 799) (by decide +kernel)⟩
theorem lw_p50 : lw_okq (⟨"JamSongsModel", "allRest", "()V"⟩, 26) := ⟨⟨by decide +kernel, by decide +kernel⟩, List.mem_of_getElem? (i := 558) (by decide +kernel), List.mem_of_getElem? (i := 802) (by decide +kernel), List.mem_of_getElem? (i := 803) (by decide +kernel)⟩
theorem lw_p51 : lw_okq (⟨"JamSongsModel", "takeBack", "()V"⟩, 26) := ⟨⟨by decide +kernel, by decide +kernel⟩, List.mem_of_getElem? (i := 558) (by decide +kernel), List.mem_of_getElem? (i := 806) (by decide +kernel), List.mem_of_getElem? (i := 807) (by decide +kernel)⟩
theorem lw_p52 : lw_okq (⟨"JamSongsModel", "singRound", "(III)V"⟩, 26) := ⟨⟨by decide +kernel, by decide +kernel⟩, List.mem_of_getElem? (i := 558) (by decide +kernel), List.mem_of_getElem? (i := 815) (by decide +kernel), List.mem_of_getElem? (i := 816) (by decide +kernel)⟩
theorem lw_p53 : lw_okq (⟨"JamSongsModel", "singsRow", "(II)Z"⟩, 26) := ⟨⟨by decide +kernel, by decide +kernel⟩, List.mem_of_getElem? (i := 558) (by decide +kernel), List.mem_of_getElem? (i := 832) (by decide +kernel), List.mem_of_getElem? (i := 833) (by decide +kernel)⟩
theorem lw_p54 : lw_okq (⟨"JamSongsModel", "sizeOf", "(I)I"⟩, 26) := ⟨⟨by decide +kernel, by decide +kernel⟩, List.mem_of_getElem? (i := 558) (by decide +kernel), List.mem_of_getElem? (i := 874) (by decide +kernel), List.mem_of_getElem? (i := 875) (by decide +kernel)⟩
theorem lw_p55 : lw_okq (⟨"JamSongsModel", "begin", "(I)V"⟩, 26) := ⟨⟨by decide +kernel, by decide +kernel⟩, List.mem_of_getElem? (i := 558) (by decide +kernel), List.mem_of_getElem? (i := 878) (by decide +kernel), List.mem_of_getElem? (i := 879) (by decide +kernel)⟩
theorem lw_p56 : lw_okq (⟨"JamSongsModel", "plumSize", "(I)I"⟩, 26) := ⟨⟨by decide +kernel, by decide +kernel⟩, List.mem_of_getElem? (i := 558) (by decide +kernel), List.mem_of_getElem? (i := 882) (by decide +kernel), List.mem_of_getElem? (i := 883) (by decide +kernel)⟩
theorem lw_p57 : lw_okq (⟨"JamSongsModel", "lent", "(II)I"⟩, 26) := ⟨⟨by decide +kernel, by decide +kernel⟩, List.mem_of_getElem? (i := 558) (by decide +kernel), List.mem_of_getElem? (i := 886) (by decide +kernel), List.mem_of_getElem? (i := 887) (by decide +kernel)⟩
theorem lw_p58 : lw_okq (⟨"JamSongsModel", "markOf", "(I)I"⟩, 26) := ⟨⟨by decide +kernel, by decide +kernel⟩, List.mem_of_getElem? (i := 558) (by decide +kernel), List.mem_of_getElem? (i := 890) (by decide +kernel), List.mem_of_getElem? (i := 891) (by decide +kernel)⟩
theorem lw_p59 : lw_okq (⟨"JamSongsModel", "plumMark", "(I)I"⟩, 26) := ⟨⟨by decide +kernel, by decide +kernel⟩, List.mem_of_getElem? (i := 558) (by decide +kernel), List.mem_of_getElem? (i := 894) (by decide +kernel), List.mem_of_getElem? (i := 895) (by decide +kernel)⟩
theorem lw_p60 : lw_okq (⟨"JamSongsModel", "sizeOfMarrow", "(I)I"⟩, 26) := ⟨⟨by decide +kernel, by decide +kernel⟩, List.mem_of_getElem? (i := 558) (by decide +kernel), List.mem_of_getElem? (i := 898) (by decide +kernel), List.mem_of_getElem? (i := 899) (by decide +kernel)⟩
theorem lw_p61 : lw_okq (⟨"JamSongsModel", "marrowSize", "(I)I"⟩, 26) := ⟨⟨by decide +kernel, by decide +kernel⟩, List.mem_of_getElem? (i := 558) (by decide +kernel), List.mem_of_getElem? (i := 902) (by decide +kernel), List.mem_of_getElem? (i := 903) (by decide +kernel)⟩
def lw_privs_4 : List (MethodName × Nat) := [(⟨"JamSongsModel", "putAside", "()V"⟩, 26), (⟨"JamSongsModel", "singAlone", "(IIII)V"⟩, 26), (⟨"JamSongsModel", "allRest", "()V"⟩, 26), (⟨"JamSongsModel", "takeBack", "()V"⟩, 26), (⟨"JamSongsModel", "singRound", "(III)V"⟩, 26), (⟨"JamSongsModel", "singsRow", "(II)Z"⟩, 26), (⟨"JamSongsModel", "sizeOf", "(I)I"⟩, 26), (⟨"JamSongsModel", "begin", "(I)V"⟩, 26), (⟨"JamSongsModel", "plumSize", "(I)I"⟩, 26), (⟨"JamSongsModel", "lent", "(II)I"⟩, 26), (⟨"JamSongsModel", "markOf", "(I)I"⟩, 26), (⟨"JamSongsModel", "plumMark", "(I)I"⟩, 26), (⟨"JamSongsModel", "sizeOfMarrow", "(I)I"⟩, 26), (⟨"JamSongsModel", "marrowSize", "(I)I"⟩, 26)]
theorem lw_r4 : ∀ q ∈ lw_privs_4, lw_okq q := List.forall_mem_cons.mpr ⟨lw_p48, List.forall_mem_cons.mpr ⟨lw_p49, List.forall_mem_cons.mpr ⟨lw_p50, List.forall_mem_cons.mpr ⟨lw_p51, List.forall_mem_cons.mpr ⟨lw_p52, List.forall_mem_cons.mpr ⟨lw_p53, List.forall_mem_cons.mpr ⟨lw_p54, List.forall_mem_cons.mpr ⟨lw_p55, List.forall_mem_cons.mpr ⟨lw_p56, List.forall_mem_cons.mpr ⟨lw_p57, List.forall_mem_cons.mpr ⟨lw_p58, List.forall_mem_cons.mpr ⟨lw_p59, List.forall_mem_cons.mpr ⟨lw_p60, List.forall_mem_cons.mpr ⟨lw_p61, fun _ h => absurd h List.not_mem_nil⟩⟩⟩⟩⟩⟩⟩⟩⟩⟩⟩⟩⟩⟩
def lw_privs : List (MethodName × Nat) := lw_privs_1 ++ (lw_privs_2 ++ (lw_privs_3 ++ (lw_privs_4)))
def lw_tbl : List Cond := k2_sels lw_privs ++ tables_1
theorem lw_privs_ok : ∀ q ∈ lw_privs, lw_okq q := by
  show ∀ q ∈ lw_privs_1 ++ (lw_privs_2 ++ (lw_privs_3 ++ (lw_privs_4))), lw_okq q
  exact List.forall_mem_append.mpr ⟨lw_r1, List.forall_mem_append.mpr ⟨lw_r2, List.forall_mem_append.mpr ⟨lw_r3, lw_r4⟩⟩⟩
end
section
/-! ===== BEGIN words of one list among another's, by their places ===== -/
theorem goodIn_r {big : List Cond} (ws : List Cond) (ps : List Nat) (hp : ws = ps.filterMap (fun i => big[i]?)) (h : ws.all goodWord = true) : GoodIn big ws := by
  intro w hw
  have h1 := List.all_eq_true.mp h w hw
  rw [hp] at hw
  obtain ⟨i, -, hi⟩ := List.mem_filterMap.mp hw
  have hm : w ∈ big := by first | exact List.mem_of_getElem? hi | exact List.getElem?_mem hi
  exact ⟨hm, good_of_word h1⟩
theorem goodIn_app {big a b : List Cond} (ha : GoodIn big a) (hb : GoodIn big b) : GoodIn big (a ++ b) := fun w h => (List.mem_append.mp h).elim (ha w) (hb w)
theorem goodIn_ca {big a b : List Cond} {c : Cond} (ha : GoodIn big (c :: a)) (hb : GoodIn big b) : GoodIn big (c :: (a ++ b)) := fun w h => (List.mem_cons.mp h).elim (fun e => ha w (List.mem_cons.mpr (Or.inl e))) (fun h => (List.mem_append.mp h).elim (fun h => ha w (List.mem_cons.mpr (Or.inr h))) (hb w))
theorem goodIn_sub {big ws : List Cond} (hm : ∀ w ∈ ws, w ∈ big) (h : ws.all goodWord = true) : GoodIn big ws := fun w hw => ⟨hm w hw, good_of_word (List.all_eq_true.mp h w hw)⟩
/-! ===== END ===== -/
/-! ===== BEGIN printed: names, fields, word lists, decode rows ===== -/
def RX0 : String := "JamSongs$Kitchen"
def TX0 : u_T := fun k => match k with
  | 0 => ("JamSongs$Kitchen", "told", "Z", false)
  | 1 => ("JamSongs$Kitchen", "back", "I", false)
  | 2 => ("JamSongs$Kitchen", "singers", "I", false)
  | 3 => ("JamSongs$Kitchen", "low", "[I", true)
  | 4 => ("JamSongs$Kitchen", "high", "[I", true)
  | 5 => ("JamSongs$Kitchen", "breath", "[I", true)
  | 6 => ("JamSongs$Kitchen", "pans", "I", false)
  | 7 => ("JamSongs$Kitchen", "kind", "[I", true)
  | 8 => ("JamSongs$Kitchen", "mode", "[I", true)
  | 9 => ("JamSongs$Kitchen", "needs", "[I", true)
  | 10 => ("JamSongs$Kitchen", "bar", "I", false)
  | 11 => ("JamSongs$Kitchen", "sung", "[I", true)
  | 12 => ("JamSongs$Kitchen", "hears", "[I", true)
  | 13 => ("JamSongs$Kitchen", "thick", "[I", true)
  | _ => ("JamSongs$Kitchen", "heard", "[I", true)
def tyX0 : Nat → FieldType := fun k => match k with
  | 0 => .boolean
  | 1 => .int
  | 2 => .int
  | 3 => .array .int
  | 4 => .array .int
  | 5 => .array .int
  | 6 => .int
  | 7 => .array .int
  | 8 => .array .int
  | 9 => .array .int
  | 10 => .int
  | 11 => .array .int
  | 12 => .array .int
  | 13 => .array .int
  | _ => .array .int
abbrev wsX00 : List Cond := u_ws RX0 TX0 15
theorem nmX0 : ∀ a, a < 15 → ∀ b, b < 15 → a ≠ b → (TX0 a).2.1 ≠ (TX0 b).2.1 := by decide +kernel
theorem tyX0_ok : ∀ k, k < 15 → parseFieldDescriptor (TX0 k).2.2.1 = some (tyX0 k) := by decide +kernel
abbrev cX0_init : ByteArray := prog_2_method_1_code
def yX0_init : MethodName := ⟨RX0, "<init>", "()V"⟩
abbrev cX0_begin : ByteArray := prog_2_method_2_code
def yX0_begin : MethodName := ⟨RX0, "begin", "()V"⟩
abbrev cX0_takeFrom : ByteArray := prog_2_method_3_code
def yX0_takeFrom : MethodName := ⟨RX0, "takeFrom", "(LJamSongs$Kitchen;)V"⟩
abbrev cX0_keep : ByteArray := prog_2_method_4_code
def yX0_keep : MethodName := ⟨RX0, "keep", "([I)V"⟩
abbrev cX0_bring : ByteArray := prog_2_method_5_code
def yX0_bring : MethodName := ⟨RX0, "bring", "([I)V"⟩
abbrev cX0_can : ByteArray := prog_2_method_6_code
def yX0_can : MethodName := ⟨RX0, "can", "(II)Z"⟩
abbrev cX0_isSet : ByteArray := prog_2_method_7_code
def yX0_isSet : MethodName := ⟨RX0, "isSet", "(I)Z"⟩
abbrev cX0_setPans : ByteArray := prog_2_method_8_code
def yX0_setPans : MethodName := ⟨RX0, "setPans", "()I"⟩
abbrev cX0_tryBar : ByteArray := prog_2_method_9_code
def yX0_tryBar : MethodName := ⟨RX0, "tryBar", "([I)V"⟩
abbrev cX0_singBar : ByteArray := prog_2_method_10_code
def yX0_singBar : MethodName := ⟨RX0, "singBar", "([I)V"⟩
abbrev cX0_hear : ByteArray := prog_2_method_11_code
def yX0_hear : MethodName := ⟨RX0, "hear", "(I[I)V"⟩
abbrev cX0_judge : ByteArray := prog_2_method_12_code
def yX0_judge : MethodName := ⟨RX0, "judge", "(III)I"⟩
abbrev cX0_thickBy : ByteArray := prog_2_method_13_code
def yX0_thickBy : MethodName := ⟨RX0, "thickBy", "(II)I"⟩
def RX1 : String := "JamSongs$Row"
def TX1 : u_T := fun k => match k with
  | 0 => ("JamSongs$Row", "there", "Z", false)
  | 1 => ("JamSongs$Row", "lane", "I", false)
  | 2 => ("JamSongs$Row", "size", "I", false)
  | _ => ("JamSongs$Row", "items", "[I", true)
def tyX1 : Nat → FieldType := fun k => match k with
  | 0 => .boolean
  | 1 => .int
  | 2 => .int
  | _ => .array .int
abbrev wsX10 : List Cond := u_ws RX1 TX1 4
theorem nmX1 : ∀ a, a < 4 → ∀ b, b < 4 → a ≠ b → (TX1 a).2.1 ≠ (TX1 b).2.1 := by decide +kernel
theorem tyX1_ok : ∀ k, k < 4 → parseFieldDescriptor (TX1 k).2.2.1 = some (tyX1 k) := by decide +kernel
abbrev cX1_init : ByteArray := prog_3_method_1_code
def yX1_init : MethodName := ⟨RX1, "<init>", "()V"⟩
abbrev cX1_begin : ByteArray := prog_3_method_2_code
def yX1_begin : MethodName := ⟨RX1, "begin", "(II)V"⟩
abbrev cX1_reaches : ByteArray := prog_3_method_3_code
def yX1_reaches : MethodName := ⟨RX1, "reaches", "(II)Z"⟩
abbrev cX1_cut : ByteArray := prog_3_method_4_code
def yX1_cut : MethodName := ⟨RX1, "cut", "(I)I"⟩
def RX2 : String := "JamSongs$Tape"
def TX2 : u_T := fun k => match k with
  | 0 => ("JamSongs$Tape", "bytes", "[I", true)
  | 1 => ("JamSongs$Tape", "size", "I", false)
  | 2 => ("JamSongs$Tape", "place", "I", false)
  | 3 => ("JamSongs$Tape", "next", "I", false)
  | 4 => ("JamSongs$Tape", "token", "I", false)
  | 5 => ("JamSongs$Tape", "value", "I", false)
  | _ => ("JamSongs$Tape", "fault", "I", false)
def tyX2 : Nat → FieldType := fun k => match k with
  | 0 => .array .int
  | 1 => .int
  | 2 => .int
  | 3 => .int
  | 4 => .int
  | 5 => .int
  | _ => .int
abbrev wsX20 : List Cond := u_ws RX2 TX2 7
theorem nmX2 : ∀ a, a < 7 → ∀ b, b < 7 → a ≠ b → (TX2 a).2.1 ≠ (TX2 b).2.1 := by decide +kernel
theorem tyX2_ok : ∀ k, k < 7 → parseFieldDescriptor (TX2 k).2.2.1 = some (tyX2 k) := by decide +kernel
abbrev cX2_init : ByteArray := prog_4_method_1_code
def yX2_init : MethodName := ⟨RX2, "<init>", "()V"⟩
abbrev cX2_readInto : ByteArray := prog_4_method_2_code
def yX2_readInto : MethodName := ⟨RX2, "readInto", "(LJamSongs$Kitchen;)V"⟩
abbrev cX2_readSinger : ByteArray := prog_4_method_3_code
def yX2_readSinger : MethodName := ⟨RX2, "readSinger", "(LJamSongs$Kitchen;I)V"⟩
abbrev cX2_readPan : ByteArray := prog_4_method_4_code
def yX2_readPan : MethodName := ⟨RX2, "readPan", "(LJamSongs$Kitchen;I)V"⟩
abbrev cX2_kindOf : ByteArray := prog_4_method_5_code
def yX2_kindOf : MethodName := ⟨RX2, "kindOf", "(I)I"⟩
abbrev cX2_take : ByteArray := prog_4_method_6_code
def yX2_take : MethodName := ⟨RX2, "take", "(I)V"⟩
abbrev cX2_takeNumber : ByteArray := prog_4_method_7_code
def yX2_takeNumber : MethodName := ⟨RX2, "takeNumber", "(II)I"⟩
abbrev cX2_step : ByteArray := prog_4_method_8_code
def yX2_step : MethodName := ⟨RX2, "step", "()V"⟩
abbrev cX2_stepNumber : ByteArray := prog_4_method_9_code
def yX2_stepNumber : MethodName := ⟨RX2, "stepNumber", "()V"⟩
abbrev cX2_isFigure : ByteArray := prog_4_method_10_code
def yX2_isFigure : MethodName := ⟨RX2, "isFigure", "(I)Z"⟩
def RX3 : String := "JamSongs"
def TX3 : u_T := fun k => match k with
  | 0 => ("JamSongs", "rows", "[LJamSongs$Row;", true)
  | 1 => ("JamSongs", "tape", "LJamSongs$Tape;", true)
  | 2 => ("JamSongs", "now", "LJamSongs$Kitchen;", true)
  | 3 => ("JamSongs", "trial", "LJamSongs$Kitchen;", true)
  | 4 => ("JamSongs", "images", "[LJamSongs$Kitchen;", true)
  | 5 => ("JamSongs", "acts", "[[I", true)
  | 6 => ("JamSongs", "kept", "I", false)
  | 7 => ("JamSongs", "nextAct", "I", false)
  | 8 => ("JamSongs", "voices", "[I", true)
  | 9 => ("JamSongs", "tune", "[I", true)
  | 10 => ("JamSongs", "songBars", "[[I", true)
  | 11 => ("JamSongs", "bestSong", "I", false)
  | 12 => ("JamSongs", "bestSet", "I", false)
  | 13 => ("JamSongs", "bestNotes", "I", false)
  | 14 => ("JamSongs", "traced", "[I", true)
  | 15 => ("JamSongs", "bodies", "I", false)
  | 16 => ("JamSongs", "latestFault", "I", false)
  | _ => ("JamSongs", "latestFinding", "I", false)
def tyX3 : Nat → FieldType := fun k => match k with
  | 0 => .array (.object "JamSongs$Row")
  | 1 => .object "JamSongs$Tape"
  | 2 => .object "JamSongs$Kitchen"
  | 3 => .object "JamSongs$Kitchen"
  | 4 => .array (.object "JamSongs$Kitchen")
  | 5 => .array (.array .int)
  | 6 => .int
  | 7 => .int
  | 8 => .array .int
  | 9 => .array .int
  | 10 => .array (.array .int)
  | 11 => .int
  | 12 => .int
  | 13 => .int
  | 14 => .array .int
  | 15 => .int
  | 16 => .int
  | _ => .int
abbrev wsX30 : List Cond := u_ws RX3 TX3 18
theorem nmX3 : ∀ a, a < 18 → ∀ b, b < 18 → a ≠ b → (TX3 a).2.1 ≠ (TX3 b).2.1 := by decide +kernel
theorem tyX3_ok : ∀ k, k < 18 → parseFieldDescriptor (TX3 k).2.2.1 = some (tyX3 k) := by decide +kernel
abbrev cX3_init : ByteArray := prog_1_method_1_code
def yX3_init : MethodName := ⟨RX3, "<init>", "()V"⟩
abbrev cX3_row : ByteArray := prog_1_method_2_code
def yX3_row : MethodName := ⟨RX3, "row", "(III)I"⟩
abbrev cX3_set : ByteArray := prog_1_method_3_code
def yX3_set : MethodName := ⟨RX3, "set", "(III)I"⟩
abbrev cX3_copy : ByteArray := prog_1_method_4_code
def yX3_copy : MethodName := ⟨RX3, "copy", "(IIIII)I"⟩
abbrev cX3_drop : ByteArray := prog_1_method_5_code
def yX3_drop : MethodName := ⟨RX3, "drop", "(I)I"⟩
abbrev cX3_feed : ByteArray := prog_1_method_6_code
def yX3_feed : MethodName := ⟨RX3, "feed", "(I)I"⟩
abbrev cX3_kitchen : ByteArray := prog_1_method_7_code
def yX3_kitchen : MethodName := ⟨RX3, "kitchen", "()I"⟩
abbrev cX3_fault : ByteArray := prog_1_method_8_code
def yX3_fault : MethodName := ⟨RX3, "fault", "()I"⟩
abbrev cX3_bar : ByteArray := prog_1_method_9_code
def yX3_bar : MethodName := ⟨RX3, "bar", "(III)I"⟩
abbrev cX3_window : ByteArray := prog_1_method_10_code
def yX3_window : MethodName := ⟨RX3, "window", "(III)I"⟩
abbrev cX3_undo : ByteArray := prog_1_method_11_code
def yX3_undo : MethodName := ⟨RX3, "undo", "()I"⟩
abbrev cX3_pan : ByteArray := prog_1_method_12_code
def yX3_pan : MethodName := ⟨RX3, "pan", "(II)I"⟩
abbrev cX3_singer : ByteArray := prog_1_method_13_code
def yX3_singer : MethodName := ⟨RX3, "singer", "(II)I"⟩
abbrev cX3_alone : ByteArray := prog_1_method_14_code
def yX3_alone : MethodName := ⟨RX3, "alone", "(IIII)I"⟩
abbrev cX3_round : ByteArray := prog_1_method_15_code
def yX3_round : MethodName := ⟨RX3, "round", "(IIII)I"⟩
abbrev cX3_bestRound : ByteArray := prog_1_method_16_code
def yX3_bestRound : MethodName := ⟨RX3, "bestRound", "(IIII)I"⟩
abbrev cX3_song : ByteArray := prog_1_method_17_code
def yX3_song : MethodName := ⟨RX3, "song", "(III)I"⟩
abbrev cX3_toShut : ByteArray := prog_1_method_18_code
def yX3_toShut : MethodName := ⟨RX3, "toShut", "(IIIIII)I"⟩
abbrev cX3_modes : ByteArray := prog_1_method_19_code
def yX3_modes : MethodName := ⟨RX3, "modes", "(IIIIIII)I"⟩
abbrev cX3_coughs : ByteArray := prog_1_method_20_code
def yX3_coughs : MethodName := ⟨RX3, "coughs", "(IIIIIII)I"⟩
abbrev cX3_image : ByteArray := prog_1_method_21_code
def yX3_image : MethodName := ⟨RX3, "image", "(I)I"⟩
abbrev cX3_restore : ByteArray := prog_1_method_22_code
def yX3_restore : MethodName := ⟨RX3, "restore", "(I)I"⟩
abbrev cX3_kind : ByteArray := prog_1_method_23_code
def yX3_kind : MethodName := ⟨RX3, "kind", "(I)I"⟩
abbrev cX3_as : ByteArray := prog_1_method_24_code
def yX3_as : MethodName := ⟨RX3, "as", "(II)I"⟩
abbrev cX3_ask : ByteArray := prog_1_method_25_code
def yX3_ask : MethodName := ⟨RX3, "ask", "(II)I"⟩
abbrev cX3_trace : ByteArray := prog_1_method_26_code
def yX3_trace : MethodName := ⟨RX3, "trace", "(I)I"⟩
abbrev cX3_count : ByteArray := prog_1_method_27_code
def yX3_count : MethodName := ⟨RX3, "count", "(I)I"⟩
abbrev cX3_status : ByteArray := prog_1_method_28_code
def yX3_status : MethodName := ⟨RX3, "status", "()I"⟩
abbrev cX3_isNot : ByteArray := prog_1_method_29_code
def yX3_isNot : MethodName := ⟨RX3, "isNot", "(II)Z"⟩
abbrev cX3_found : ByteArray := prog_1_method_30_code
def yX3_found : MethodName := ⟨RX3, "found", "(I)I"⟩
abbrev cX3_fine : ByteArray := prog_1_method_31_code
def yX3_fine : MethodName := ⟨RX3, "fine", "(I)I"⟩
abbrev cX3_rowsThere : ByteArray := prog_1_method_32_code
def yX3_rowsThere : MethodName := ⟨RX3, "rowsThere", "()I"⟩
abbrev cX3_keepAct : ByteArray := prog_1_method_33_code
def yX3_keepAct : MethodName := ⟨RX3, "keepAct", "()V"⟩
abbrev cX3_takeTune : ByteArray := prog_1_method_34_code
def yX3_takeTune : MethodName := ⟨RX3, "takeTune", "(LJamSongs$Row;II)I"⟩
abbrev cX3_trySolo : ByteArray := prog_1_method_35_code
def yX3_trySolo : MethodName := ⟨RX3, "trySolo", "(III)V"⟩
abbrev cX3_tryRound : ByteArray := prog_1_method_36_code
def yX3_tryRound : MethodName := ⟨RX3, "tryRound", "(II)V"⟩
abbrev cX3_setsWithout : ByteArray := prog_1_method_37_code
def yX3_setsWithout : MethodName := ⟨RX3, "setsWithout", "(IIII)Z"⟩
abbrev cX3_seekSong : ByteArray := prog_1_method_38_code
def yX3_seekSong : MethodName := ⟨RX3, "seekSong", "(II)V"⟩
abbrev cX3_trySong : ByteArray := prog_1_method_39_code
def yX3_trySong : MethodName := ⟨RX3, "trySong", "(III)I"⟩
abbrev cX3_weighSong : ByteArray := prog_1_method_40_code
def yX3_weighSong : MethodName := ⟨RX3, "weighSong", "(II)V"⟩
abbrev cX3_noteOf : ByteArray := prog_1_method_41_code
def yX3_noteOf : MethodName := ⟨RX3, "noteOf", "(III)I"⟩
abbrev cX3_weightOf : ByteArray := prog_1_method_42_code
def yX3_weightOf : MethodName := ⟨RX3, "weightOf", "(III)I"⟩
abbrev cX3_power : ByteArray := prog_1_method_43_code
def yX3_power : MethodName := ⟨RX3, "power", "(II)I"⟩
abbrev cX3_commonDivisor : ByteArray := prog_1_method_44_code
def yX3_commonDivisor : MethodName := ⟨RX3, "commonDivisor", "(II)I"⟩
abbrev cX3_isOf : ByteArray := prog_1_method_45_code
def yX3_isOf : MethodName := ⟨RX3, "isOf", "(II)Z"⟩
abbrev cX3_leave : ByteArray := prog_1_method_46_code
def yX3_leave : MethodName := ⟨RX3, "leave", "(I)V"⟩
abbrev cX3_lentSize : ByteArray := prog_1_method_47_code
def yX3_lentSize : MethodName := ⟨RX3, "lentSize", "(I)I"⟩
abbrev cX3_sizeOfPlums : ByteArray := prog_1_method_48_code
def yX3_sizeOfPlums : MethodName := ⟨RX3, "sizeOfPlums", "(I)I"⟩
abbrev cX3_plumSize : ByteArray := prog_1_method_49_code
def yX3_plumSize : MethodName := ⟨RX3, "plumSize", "(I)I"⟩
abbrev cX3_sizeOfMarrows : ByteArray := prog_1_method_50_code
def yX3_sizeOfMarrows : MethodName := ⟨RX3, "sizeOfMarrows", "(I)I"⟩
abbrev cX3_marrowSize : ByteArray := prog_1_method_51_code
def yX3_marrowSize : MethodName := ⟨RX3, "marrowSize", "(I)I"⟩
abbrev cX3_lentMark : ByteArray := prog_1_method_52_code
def yX3_lentMark : MethodName := ⟨RX3, "lentMark", "(I)I"⟩
abbrev cX3_markOfPlums : ByteArray := prog_1_method_53_code
def yX3_markOfPlums : MethodName := ⟨RX3, "markOfPlums", "(I)I"⟩
abbrev cX3_plumMark : ByteArray := prog_1_method_54_code
def yX3_plumMark : MethodName := ⟨RX3, "plumMark", "(I)I"⟩
abbrev cX3_markOfMarrows : ByteArray := prog_1_method_55_code
def yX3_markOfMarrows : MethodName := ⟨RX3, "markOfMarrows", "(I)I"⟩
def RX4 : String := "JamSongsModel"
def TX4 : u_T := fun k => match k with
  | 0 => ("JamSongsModel", "lanes", "[I", true)
  | 1 => ("JamSongsModel", "sizes", "[I", true)
  | 2 => ("JamSongsModel", "items", "[I", true)
  | 3 => ("JamSongsModel", "status", "I", false)
  | 4 => ("JamSongsModel", "isThere", "Z", false)
  | 5 => ("JamSongsModel", "st", "[I", true)
  | 6 => ("JamSongsModel", "moved", "[I", true)
  | 7 => ("JamSongsModel", "tape", "[I", true)
  | 8 => ("JamSongsModel", "bytes", "I", false)
  | 9 => ("JamSongsModel", "latest", "I", false)
  | 10 => ("JamSongsModel", "place", "I", false)
  | 11 => ("JamSongsModel", "token", "I", false)
  | 12 => ("JamSongsModel", "value", "I", false)
  | 13 => ("JamSongsModel", "begins", "I", false)
  | 14 => ("JamSongsModel", "wrong", "I", false)
  | 15 => ("JamSongsModel", "read", "[I", true)
  | 16 => ("JamSongsModel", "notes", "[I", true)
  | 17 => ("JamSongsModel", "acts", "[I", true)
  | 18 => ("JamSongsModel", "actMany", "I", false)
  | 19 => ("JamSongsModel", "aside", "[I", true)
  | 20 => ("JamSongsModel", "row", "[I", true)
  | 21 => ("JamSongsModel", "noteMany", "I", false)
  | 22 => ("JamSongsModel", "isKept", "[Z", true)
  | 23 => ("JamSongsModel", "kept", "[I", true)
  | 24 => ("JamSongsModel", "trace", "[I", true)
  | _ => ("JamSongsModel", "traced", "I", false)
def tyX4 : Nat → FieldType := fun k => match k with
  | 0 => .array .int
  | 1 => .array .int
  | 2 => .array .int
  | 3 => .int
  | 4 => .boolean
  | 5 => .array .int
  | 6 => .array .int
  | 7 => .array .int
  | 8 => .int
  | 9 => .int
  | 10 => .int
  | 11 => .int
  | 12 => .int
  | 13 => .int
  | 14 => .int
  | 15 => .array .int
  | 16 => .array .int
  | 17 => .array .int
  | 18 => .int
  | 19 => .array .int
  | 20 => .array .int
  | 21 => .int
  | 22 => .array .boolean
  | 23 => .array .int
  | 24 => .array .int
  | _ => .int
abbrev wsX40 : List Cond := u_ws RX4 TX4 26
theorem nmX4 : ∀ a, a < 26 → ∀ b, b < 26 → a ≠ b → (TX4 a).2.1 ≠ (TX4 b).2.1 := by decide +kernel
theorem tyX4_ok : ∀ k, k < 26 → parseFieldDescriptor (TX4 k).2.2.1 = some (tyX4 k) := by decide +kernel
abbrev cX4_init : ByteArray := prog_6_method_1_code
def yX4_init : MethodName := ⟨RX4, "<init>", "()V"⟩
abbrev cX4_in : ByteArray := prog_6_method_2_code
def yX4_in : MethodName := ⟨RX4, "in", "(JJJ)Z"⟩
abbrev cX4_has : ByteArray := prog_6_method_3_code
def yX4_has : MethodName := ⟨RX4, "has", "(II)Z"⟩
abbrev cX4_ones : ByteArray := prog_6_method_4_code
def yX4_ones : MethodName := ⟨RX4, "ones", "(I)I"⟩
abbrev cX4_find : ByteArray := prog_6_method_5_code
def yX4_find : MethodName := ⟨RX4, "find", "(I)I"⟩
abbrev cX4_well : ByteArray := prog_6_method_6_code
def yX4_well : MethodName := ⟨RX4, "well", "(I)I"⟩
abbrev cX4_isRow : ByteArray := prog_6_method_7_code
def yX4_isRow : MethodName := ⟨RX4, "isRow", "(I)Z"⟩
abbrev cX4_row : ByteArray := prog_6_method_8_code
def yX4_row : MethodName := ⟨RX4, "row", "(III)I"⟩
abbrev cX4_asLane : ByteArray := prog_6_method_9_code
def yX4_asLane : MethodName := ⟨RX4, "asLane", "(II)I"⟩
abbrev cX4_set : ByteArray := prog_6_method_10_code
def yX4_set : MethodName := ⟨RX4, "set", "(III)I"⟩
abbrev cX4_copy : ByteArray := prog_6_method_11_code
def yX4_copy : MethodName := ⟨RX4, "copy", "(IIIII)I"⟩
abbrev cX4_drop : ByteArray := prog_6_method_12_code
def yX4_drop : MethodName := ⟨RX4, "drop", "(I)I"⟩
abbrev cX4_feed : ByteArray := prog_6_method_13_code
def yX4_feed : MethodName := ⟨RX4, "feed", "(I)I"⟩
abbrev cX4_nextToken : ByteArray := prog_6_method_14_code
def yX4_nextToken : MethodName := ⟨RX4, "nextToken", "()V"⟩
abbrev cX4_faults : ByteArray := prog_6_method_15_code
def yX4_faults : MethodName := ⟨RX4, "faults", "(I)Z"⟩
abbrev cX4_isLetter : ByteArray := prog_6_method_16_code
def yX4_isLetter : MethodName := ⟨RX4, "isLetter", "(I)Z"⟩
abbrev cX4_takes : ByteArray := prog_6_method_17_code
def yX4_takes : MethodName := ⟨RX4, "takes", "(I)Z"⟩
abbrev cX4_takesNumber : ByteArray := prog_6_method_18_code
def yX4_takesNumber : MethodName := ⟨RX4, "takesNumber", "(IIII)Z"⟩
abbrev cX4_readSinger : ByteArray := prog_6_method_19_code
def yX4_readSinger : MethodName := ⟨RX4, "readSinger", "()Z"⟩
abbrev cX4_readPan : ByteArray := prog_6_method_20_code
def yX4_readPan : MethodName := ⟨RX4, "readPan", "(I)Z"⟩
abbrev cX4_readKitchen : ByteArray := prog_6_method_21_code
def yX4_readKitchen : MethodName := ⟨RX4, "readKitchen", "()Z"⟩
abbrev cX4_kitchen : ByteArray := prog_6_method_22_code
def yX4_kitchen : MethodName := ⟨RX4, "kitchen", "()I"⟩
abbrev cX4_fault : ByteArray := prog_6_method_23_code
def yX4_fault : MethodName := ⟨RX4, "fault", "()I"⟩
abbrev cX4_isPan : ByteArray := prog_6_method_24_code
def yX4_isPan : MethodName := ⟨RX4, "isPan", "(I)Z"⟩
abbrev cX4_isSinger : ByteArray := prog_6_method_25_code
def yX4_isSinger : MethodName := ⟨RX4, "isSinger", "(I)Z"⟩
abbrev cX4_canSing : ByteArray := prog_6_method_26_code
def yX4_canSing : MethodName := ⟨RX4, "canSing", "(II)Z"⟩
abbrev cX4_panHears : ByteArray := prog_6_method_27_code
def yX4_panHears : MethodName := ⟨RX4, "panHears", "(I)V"⟩
abbrev cX4_oneBar : ByteArray := prog_6_method_28_code
def yX4_oneBar : MethodName := ⟨RX4, "oneBar", "()V"⟩
abbrev cX4_setPans : ByteArray := prog_6_method_29_code
def yX4_setPans : MethodName := ⟨RX4, "setPans", "()I"⟩
abbrev cX4_note : ByteArray := prog_6_method_30_code
def yX4_note : MethodName := ⟨RX4, "note", "()V"⟩
abbrev cX4_bar : ByteArray := prog_6_method_31_code
def yX4_bar : MethodName := ⟨RX4, "bar", "(III)I"⟩
abbrev cX4_window : ByteArray := prog_6_method_32_code
def yX4_window : MethodName := ⟨RX4, "window", "(III)I"⟩
abbrev cX4_undo : ByteArray := prog_6_method_33_code
def yX4_undo : MethodName := ⟨RX4, "undo", "()I"⟩
abbrev cX4_pan : ByteArray := prog_6_method_34_code
def yX4_pan : MethodName := ⟨RX4, "pan", "(II)I"⟩
abbrev cX4_singer : ByteArray := prog_6_method_35_code
def yX4_singer : MethodName := ⟨RX4, "singer", "(II)I"⟩
abbrev cX4_putAside : ByteArray := prog_6_method_36_code
def yX4_putAside : MethodName := ⟨RX4, "putAside", "()V"⟩
abbrev cX4_takeBack : ByteArray := prog_6_method_37_code
def yX4_takeBack : MethodName := ⟨RX4, "takeBack", "()V"⟩
abbrev cX4_allRest : ByteArray := prog_6_method_38_code
def yX4_allRest : MethodName := ⟨RX4, "allRest", "()V"⟩
abbrev cX4_lacks : ByteArray := prog_6_method_39_code
def yX4_lacks : MethodName := ⟨RX4, "lacks", "(III)I"⟩
abbrev cX4_singAlone : ByteArray := prog_6_method_40_code
def yX4_singAlone : MethodName := ⟨RX4, "singAlone", "(IIII)V"⟩
abbrev cX4_singRound : ByteArray := prog_6_method_41_code
def yX4_singRound : MethodName := ⟨RX4, "singRound", "(III)V"⟩
abbrev cX4_alone : ByteArray := prog_6_method_42_code
def yX4_alone : MethodName := ⟨RX4, "alone", "(IIII)I"⟩
abbrev cX4_round : ByteArray := prog_6_method_43_code
def yX4_round : MethodName := ⟨RX4, "round", "(IIII)I"⟩
abbrev cX4_bestRound : ByteArray := prog_6_method_44_code
def yX4_bestRound : MethodName := ⟨RX4, "bestRound", "(IIII)I"⟩
abbrev cX4_singsRow : ByteArray := prog_6_method_45_code
def yX4_singsRow : MethodName := ⟨RX4, "singsRow", "(II)Z"⟩
abbrev cX4_song : ByteArray := prog_6_method_46_code
def yX4_song : MethodName := ⟨RX4, "song", "(III)I"⟩
abbrev cX4_toShut : ByteArray := prog_6_method_47_code
def yX4_toShut : MethodName := ⟨RX4, "toShut", "(IIIIII)I"⟩
abbrev cX4_modes : ByteArray := prog_6_method_48_code
def yX4_modes : MethodName := ⟨RX4, "modes", "(IIIIIII)I"⟩
abbrev cX4_coughs : ByteArray := prog_6_method_49_code
def yX4_coughs : MethodName := ⟨RX4, "coughs", "(IIIIIII)I"⟩
abbrev cX4_image : ByteArray := prog_6_method_50_code
def yX4_image : MethodName := ⟨RX4, "image", "(I)I"⟩
abbrev cX4_restore : ByteArray := prog_6_method_51_code
def yX4_restore : MethodName := ⟨RX4, "restore", "(I)I"⟩
abbrev cX4_kind : ByteArray := prog_6_method_52_code
def yX4_kind : MethodName := ⟨RX4, "kind", "(I)I"⟩
abbrev cX4_isKind : ByteArray := prog_6_method_53_code
def yX4_isKind : MethodName := ⟨RX4, "isKind", "(II)Z"⟩
abbrev cX4_as : ByteArray := prog_6_method_54_code
def yX4_as : MethodName := ⟨RX4, "as", "(II)I"⟩
abbrev cX4_begin : ByteArray := prog_6_method_55_code
def yX4_begin : MethodName := ⟨RX4, "begin", "(I)V"⟩
abbrev cX4_lent : ByteArray := prog_6_method_56_code
def yX4_lent : MethodName := ⟨RX4, "lent", "(II)I"⟩
abbrev cX4_plumMark : ByteArray := prog_6_method_57_code
def yX4_plumMark : MethodName := ⟨RX4, "plumMark", "(I)I"⟩
abbrev cX4_marrowSize : ByteArray := prog_6_method_58_code
def yX4_marrowSize : MethodName := ⟨RX4, "marrowSize", "(I)I"⟩
abbrev cX4_sizeOfMarrow : ByteArray := prog_6_method_59_code
def yX4_sizeOfMarrow : MethodName := ⟨RX4, "sizeOfMarrow", "(I)I"⟩
abbrev cX4_markOf : ByteArray := prog_6_method_60_code
def yX4_markOf : MethodName := ⟨RX4, "markOf", "(I)I"⟩
abbrev cX4_plumSize : ByteArray := prog_6_method_61_code
def yX4_plumSize : MethodName := ⟨RX4, "plumSize", "(I)I"⟩
abbrev cX4_sizeOf : ByteArray := prog_6_method_62_code
def yX4_sizeOf : MethodName := ⟨RX4, "sizeOf", "(I)I"⟩
abbrev cX4_ask : ByteArray := prog_6_method_63_code
def yX4_ask : MethodName := ⟨RX4, "ask", "(II)I"⟩
abbrev cX4_trace : ByteArray := prog_6_method_64_code
def yX4_trace : MethodName := ⟨RX4, "trace", "(I)I"⟩
abbrev cX4_count : ByteArray := prog_6_method_65_code
def yX4_count : MethodName := ⟨RX4, "count", "(I)I"⟩
abbrev cX4_status : ByteArray := prog_6_method_66_code
def yX4_status : MethodName := ⟨RX4, "status", "()I"⟩
def RJ6 : String := "java/lang/Integer"
def TJ6 : u_T := fun k => match k with
  | _ => ("", "", "", false)
def tyJ6 : Nat → FieldType := fun k => match k with
  | _ => .int
abbrev wsJ60 : List Cond := u_ws RJ6 TJ6 0
theorem nmJ6 : ∀ a, a < 0 → ∀ b, b < 0 → a ≠ b → (TJ6 a).2.1 ≠ (TJ6 b).2.1 := by decide +kernel
theorem tyJ6_ok : ∀ k, k < 0 → parseFieldDescriptor (TJ6 k).2.2.1 = some (tyJ6 k) := by decide +kernel
abbrev cJ6_numberOfTrailingZeros_0f7a4 : ByteArray := prog_7_method_48_code
def yJ6_numberOfTrailingZeros_0f7a4 : MethodName := ⟨RJ6, "numberOfTrailingZeros", "(I)I"⟩
abbrev cJ6_bitCount_0f7a4 : ByteArray := prog_7_method_49_code
def yJ6_bitCount_0f7a4 : MethodName := ⟨RJ6, "bitCount", "(I)I"⟩
def RJ9 : String := "java/lang/Math"
def TJ9 : u_T := fun k => match k with
  | _ => ("", "", "", false)
def tyJ9 : Nat → FieldType := fun k => match k with
  | _ => .int
abbrev wsJ90 : List Cond := u_ws RJ9 TJ9 0
theorem nmJ9 : ∀ a, a < 0 → ∀ b, b < 0 → a ≠ b → (TJ9 a).2.1 ≠ (TJ9 b).2.1 := by decide +kernel
theorem tyJ9_ok : ∀ k, k < 0 → parseFieldDescriptor (TJ9 k).2.2.1 = some (tyJ9 k) := by decide +kernel
abbrev cJ9_abs_0f7a4 : ByteArray := prog_8_method_59_code
def yJ9_abs_0f7a4 : MethodName := ⟨RJ9, "abs", "(I)I"⟩
abbrev cJ9_max_7cf53 : ByteArray := prog_8_method_65_code
def yJ9_max_7cf53 : MethodName := ⟨RJ9, "max", "(II)I"⟩
abbrev cJ9_min_7cf53 : ByteArray := prog_8_method_69_code
def yJ9_min_7cf53 : MethodName := ⟨RJ9, "min", "(II)I"⟩
def RJ10 : String := "java/lang/System"
def TJ10 : u_T := fun k => match k with
  | _ => ("", "", "", false)
def tyJ10 : Nat → FieldType := fun k => match k with
  | _ => .int
abbrev wsJ100 : List Cond := u_ws RJ10 TJ10 0
theorem nmJ10 : ∀ a, a < 0 → ∀ b, b < 0 → a ≠ b → (TJ10 a).2.1 ≠ (TJ10 b).2.1 := by decide +kernel
theorem tyJ10_ok : ∀ k, k < 0 → parseFieldDescriptor (TJ10 k).2.2.1 = some (tyJ10 k) := by decide +kernel
def RJ7 : String := "java/util/Arrays"
def TJ7 : u_T := fun k => match k with
  | _ => ("", "", "", false)
def tyJ7 : Nat → FieldType := fun k => match k with
  | _ => .int
abbrev wsJ70 : List Cond := u_ws RJ7 TJ7 0
theorem nmJ7 : ∀ a, a < 0 → ∀ b, b < 0 → a ≠ b → (TJ7 a).2.1 ≠ (TJ7 b).2.1 := by decide +kernel
theorem tyJ7_ok : ∀ k, k < 0 → parseFieldDescriptor (TJ7 k).2.2.1 = some (tyJ7 k) := by decide +kernel
abbrev cJ7_fill_53178 : ByteArray := prog_10_method_103_code
def yJ7_fill_53178 : MethodName := ⟨RJ7, "fill", "([II)V"⟩
def RL : String := "JamSongsLaw"
abbrev cL_law : ByteArray := code
def yL_law : MethodName := ⟨RL, "law", "([I)Z"⟩
def wsL_law_r1 : List Cond := [Cond.classLink RL 7 RX3, Cond.instantiable RX3 18, Cond.initialized RX3, Cond.classLink RL 10 RX4, Cond.instantiable RX4 26, Cond.initialized RX4, Cond.methodLink RL 9 yX3_init, Cond.instanceMethod yX3_init, Cond.code yX3_init cX3_init 2 none, Cond.methodLink RX3 1 objectInit, Cond.instanceMethod objectInit, Cond.code objectInit ⟨#[0xb1]⟩ 1 none, Cond.classLink RX3 9 RX1, Cond.fieldLink RX3 11 "JamSongs" "rows" "[LJamSongs$Row;", Cond.classLink RX3 15 RX2, Cond.instantiable RX2 7, Cond.initialized RX2, Cond.fieldLink RX3 18 "JamSongs" "tape" "LJamSongs$Tape;", Cond.classLink RX3 22 RX0, Cond.instantiable RX0 15, Cond.initialized RX0, Cond.fieldLink RX3 25 "JamSongs" "now" "LJamSongs$Kitchen;", Cond.fieldLink RX3 29 "JamSongs" "trial" "LJamSongs$Kitchen;", Cond.fieldLink RX3 32 "JamSongs" "images" "[LJamSongs$Kitchen;"]
def wsL_law_r2 : List Cond := [Cond.classLink RX3 36 "[[I", Cond.arrayClass .int, Cond.fieldLink RX3 38 "JamSongs" "acts" "[[I", Cond.fieldLink RX3 41 "JamSongs" "kept" "I", Cond.fieldLink RX3 45 "JamSongs" "nextAct" "I", Cond.fieldLink RX3 48 "JamSongs" "voices" "[I", Cond.fieldLink RX3 52 "JamSongs" "tune" "[I", Cond.fieldLink RX3 55 "JamSongs" "songBars" "[[I", Cond.fieldLink RX3 58 "JamSongs" "bestSong" "I", Cond.fieldLink RX3 61 "JamSongs" "bestSet" "I", Cond.fieldLink RX3 64 "JamSongs" "bestNotes" "I", Cond.fieldLink RX3 67 "JamSongs" "traced" "[I", Cond.fieldLink RX3 70 "JamSongs" "bodies" "I", Cond.fieldLink RX3 73 "JamSongs" "latestFault" "I", Cond.fieldLink RX3 76 "JamSongs" "latestFinding" "I", Cond.instantiable RX1 4, Cond.initialized RX1, Cond.instanceMethod yX2_init, Cond.code yX2_init cX2_init 1 none, Cond.methodLink RX2 3 objectInit, Cond.fieldLink RX2 9 "JamSongs$Tape" "bytes" "[I", Cond.fieldLink RX2 15 "JamSongs$Tape" "size" "I", Cond.fieldLink RX2 19 "JamSongs$Tape" "place" "I", Cond.fieldLink RX2 22 "JamSongs$Tape" "next" "I"]
def wsL_law_r3 : List Cond := [Cond.fieldLink RX2 25 "JamSongs$Tape" "token" "I", Cond.fieldLink RX2 28 "JamSongs$Tape" "value" "I", Cond.fieldLink RX2 31 "JamSongs$Tape" "fault" "I", Cond.instanceMethod yX0_init, Cond.code yX0_init cX0_init 1 none, Cond.methodLink RX0 3 objectInit, Cond.fieldLink RX0 9 "JamSongs$Kitchen" "told" "Z", Cond.fieldLink RX0 15 "JamSongs$Kitchen" "back" "I", Cond.fieldLink RX0 19 "JamSongs$Kitchen" "singers" "I", Cond.fieldLink RX0 22 "JamSongs$Kitchen" "low" "[I", Cond.fieldLink RX0 26 "JamSongs$Kitchen" "high" "[I", Cond.fieldLink RX0 29 "JamSongs$Kitchen" "breath" "[I", Cond.fieldLink RX0 32 "JamSongs$Kitchen" "pans" "I", Cond.fieldLink RX0 35 "JamSongs$Kitchen" "kind" "[I", Cond.fieldLink RX0 38 "JamSongs$Kitchen" "mode" "[I", Cond.fieldLink RX0 41 "JamSongs$Kitchen" "needs" "[I", Cond.fieldLink RX0 44 "JamSongs$Kitchen" "bar" "I", Cond.fieldLink RX0 47 "JamSongs$Kitchen" "sung" "[I", Cond.fieldLink RX0 50 "JamSongs$Kitchen" "hears" "[I", Cond.fieldLink RX0 53 "JamSongs$Kitchen" "thick" "[I", Cond.fieldLink RX0 56 "JamSongs$Kitchen" "heard" "[I", Cond.instanceMethod yX1_init, Cond.code yX1_init cX1_init 1 none, Cond.methodLink RX1 3 objectInit]
def wsL_law_r4 : List Cond := [Cond.fieldLink RX1 9 "JamSongs$Row" "there" "Z", Cond.fieldLink RX1 15 "JamSongs$Row" "lane" "I", Cond.fieldLink RX1 19 "JamSongs$Row" "size" "I", Cond.fieldLink RX1 22 "JamSongs$Row" "items" "[I", Cond.methodLink RL 12 yX4_init, Cond.instanceMethod yX4_init, Cond.code yX4_init cX4_init 2 none, Cond.methodLink RX4 1 objectInit, Cond.fieldLink RX4 7 "JamSongsModel" "lanes" "[I", Cond.fieldLink RX4 13 "JamSongsModel" "sizes" "[I", Cond.fieldLink RX4 16 "JamSongsModel" "items" "[I", Cond.fieldLink RX4 19 "JamSongsModel" "st" "[I", Cond.fieldLink RX4 22 "JamSongsModel" "moved" "[I", Cond.fieldLink RX4 25 "JamSongsModel" "tape" "[I", Cond.fieldLink RX4 28 "JamSongsModel" "read" "[I", Cond.fieldLink RX4 31 "JamSongsModel" "notes" "[I", Cond.fieldLink RX4 34 "JamSongsModel" "acts" "[I", Cond.fieldLink RX4 37 "JamSongsModel" "aside" "[I", Cond.fieldLink RX4 40 "JamSongsModel" "row" "[I", Cond.arrayClass .boolean, Cond.fieldLink RX4 43 "JamSongsModel" "isKept" "[Z", Cond.fieldLink RX4 47 "JamSongsModel" "kept" "[I", Cond.fieldLink RX4 50 "JamSongsModel" "trace" "[I", Cond.methodLink RL 13 yX3_row]
def wsL_law_r5 : List Cond := [Cond.instanceMethod yX3_row, Cond.selects RX3 yX3_row yX3_row, Cond.code yX3_row cX3_row 4 (some .int), Cond.constant RX3 84 (-1000001), Cond.methodLink RX3 80 yX3_isNot, Cond.static yX3_isNot, Cond.code yX3_isNot cX3_isNot 2 (some .boolean), Cond.methodLink RX3 85 yX3_found, Cond.instanceMethod yX3_found, Cond.selects RX3 yX3_found yX3_found, Cond.code yX3_found cX3_found 2 (some .int), Cond.constant RX3 263 (-1000010), Cond.methodLink RX3 89 yX1_begin, Cond.instanceMethod yX1_begin, Cond.selects RX1 yX1_begin yX1_begin, Cond.code yX1_begin cX1_begin 3 none, Cond.methodLink RX1 26 yJ7_fill_53178, Cond.static yJ7_fill_53178, Cond.initialized RJ7, Cond.code yJ7_fill_53178 cJ7_fill_53178 4 none, Cond.methodLink RX3 93 yX3_fine, Cond.instanceMethod yX3_fine, Cond.selects RX3 yX3_fine yX3_fine, Cond.code yX3_fine cX3_fine 2 (some .int)]
def wsL_law_r6 : List Cond := [Cond.methodLink RL 17 yX4_row, Cond.instanceMethod yX4_row, Cond.selects RX4 yX4_row yX4_row, Cond.code yX4_row cX4_row 5 (some .int), Cond.constantLong RX4 68 (2), Cond.constant RX4 70 (-1000001), Cond.methodLink RX4 64 yX4_isRow, Cond.static yX4_isRow, Cond.code yX4_isRow cX4_isRow 1 (some .boolean), Cond.constantLong RX4 58 (7), Cond.methodLink RX4 60 yX4_in, Cond.static yX4_in, Cond.code yX4_in cX4_in 6 (some .boolean), Cond.methodLink RX4 71 yX4_find, Cond.instanceMethod yX4_find, Cond.selects RX4 yX4_find yX4_find, Cond.code yX4_find cX4_find 2 (some .int), Cond.fieldLink RX4 53 "JamSongsModel" "status" "I", Cond.constant RX4 57 (-1000010), Cond.methodLink RX4 75 yX4_well, Cond.instanceMethod yX4_well, Cond.selects RX4 yX4_well yX4_well, Cond.code yX4_well cX4_well 2 (some .int), Cond.methodLink RL 18 yX3_set]
def wsL_law_r7 : List Cond := [Cond.instanceMethod yX3_set, Cond.selects RX3 yX3_set yX3_set, Cond.code yX3_set cX3_set 5 (some .int), Cond.fieldLink RX3 96 "JamSongs$Row" "there" "Z", Cond.fieldLink RX3 103 "JamSongs$Row" "items" "[I", Cond.methodLink RX3 100 yX1_reaches, Cond.instanceMethod yX1_reaches, Cond.selects RX1 yX1_reaches yX1_reaches, Cond.code yX1_reaches cX1_reaches 3 (some .boolean), Cond.methodLink RX3 106 yX1_cut, Cond.instanceMethod yX1_cut, Cond.selects RX1 yX1_cut yX1_cut, Cond.code yX1_cut cX1_cut 2 (some .int), Cond.methodLink RL 21 yX4_set, Cond.instanceMethod yX4_set, Cond.selects RX4 yX4_set yX4_set, Cond.code yX4_set cX4_set 4 (some .int), Cond.methodLink RX4 78 yX4_asLane, Cond.static yX4_asLane, Cond.code yX4_asLane cX4_asLane 2 (some .int), Cond.methodLink RL 22 yX3_copy, Cond.instanceMethod yX3_copy, Cond.selects RX3 yX3_copy yX3_copy, Cond.code yX3_copy cX3_copy 8 (some .int)]
def wsL_law_r8 : List Cond := [Cond.fieldLink RX3 109 "JamSongs$Row" "lane" "I", Cond.methodLink RX3 112 arraycopyName, Cond.native arraycopyName, Cond.static arraycopyName, Cond.initialized "java/lang/System", Cond.methodLink RL 26 yX4_copy, Cond.instanceMethod yX4_copy, Cond.selects RX4 yX4_copy yX4_copy, Cond.code yX4_copy cX4_copy 7 (some .int), Cond.methodLink RL 27 yX3_drop, Cond.instanceMethod yX3_drop, Cond.selects RX3 yX3_drop yX3_drop, Cond.code yX3_drop cX3_drop 3 (some .int), Cond.fieldLink RX3 118 "JamSongs$Row" "size" "I", Cond.methodLink RL 31 yX4_drop, Cond.instanceMethod yX4_drop, Cond.selects RX4 yX4_drop yX4_drop, Cond.code yX4_drop cX4_drop 3 (some .int), Cond.methodLink RL 32 yX3_feed, Cond.instanceMethod yX3_feed, Cond.selects RX3 yX3_feed yX3_feed, Cond.code yX3_feed cX3_feed 2 (some .int), Cond.fieldLink RX3 121 "JamSongs$Tape" "size" "I", Cond.constant RX3 122 (-1000003)]
def wsL_law_r9 : List Cond := [Cond.fieldLink RX3 123 "JamSongs$Tape" "bytes" "[I", Cond.methodLink RL 35 yX4_feed, Cond.instanceMethod yX4_feed, Cond.selects RX4 yX4_feed yX4_feed, Cond.code yX4_feed cX4_feed 2 (some .int), Cond.constantLong RX4 82 (255), Cond.fieldLink RX4 84 "JamSongsModel" "bytes" "I", Cond.constant RX4 87 (-1000003), Cond.methodLink RL 36 yX3_kitchen, Cond.instanceMethod yX3_kitchen, Cond.selects RX3 yX3_kitchen yX3_kitchen, Cond.code yX3_kitchen cX3_kitchen 1 (some .int), Cond.fieldLink RX3 130 "JamSongs$Tape" "fault" "I", Cond.constant RX3 133 (-1000100), Cond.fieldLink RX3 134 "JamSongs$Tape" "place" "I", Cond.fieldLink RX3 140 "JamSongs$Kitchen" "pans" "I", Cond.methodLink RX3 126 yX2_readInto, Cond.instanceMethod yX2_readInto, Cond.selects RX2 yX2_readInto yX2_readInto, Cond.code yX2_readInto cX2_readInto 3 none, Cond.fieldLink RX2 50 "JamSongs$Kitchen" "back" "I", Cond.methodLink RX2 34 yX0_begin, Cond.instanceMethod yX0_begin, Cond.selects RX0 yX0_begin yX0_begin]
def wsL_law_r10 : List Cond := [Cond.code yX0_begin cX0_begin 1 none, Cond.constant RX0 65 (-1000000), Cond.methodLink RX0 59 yJ7_fill_53178, Cond.methodLink RX2 39 yX2_step, Cond.instanceMethod yX2_step, Cond.selects RX2 yX2_step yX2_step, Cond.code yX2_step cX2_step 3 none, Cond.methodLink RX2 91 yX2_isFigure, Cond.static yX2_isFigure, Cond.code yX2_isFigure cX2_isFigure 1 (some .boolean), Cond.methodLink RX2 95 yX2_stepNumber, Cond.instanceMethod yX2_stepNumber, Cond.selects RX2 yX2_stepNumber yX2_stepNumber, Cond.code yX2_stepNumber cX2_stepNumber 1 none, Cond.methodLink RX2 98 Lib.Math.min.name, Cond.static Lib.Math.min.name, Cond.initialized "java/lang/Math", Cond.code Lib.Math.min.name Lib.Math.min.code 2 (some .int), Cond.methodLink RX2 42 yX2_take, Cond.instanceMethod yX2_take, Cond.selects RX2 yX2_take yX2_take, Cond.code yX2_take cX2_take 2 none, Cond.methodLink RX2 46 yX2_takeNumber, Cond.instanceMethod yX2_takeNumber]
def wsL_law_r11 : List Cond := [Cond.selects RX2 yX2_takeNumber yX2_takeNumber, Cond.code yX2_takeNumber cX2_takeNumber 4 (some .int), Cond.methodLink RX2 53 yX2_readSinger, Cond.instanceMethod yX2_readSinger, Cond.selects RX2 yX2_readSinger yX2_readSinger, Cond.code yX2_readSinger cX2_readSinger 3 none, Cond.fieldLink RX2 64 "JamSongs$Kitchen" "low" "[I", Cond.fieldLink RX2 67 "JamSongs$Kitchen" "high" "[I", Cond.fieldLink RX2 70 "JamSongs$Kitchen" "breath" "[I", Cond.fieldLink RX2 73 "JamSongs$Kitchen" "singers" "I", Cond.methodLink RX2 57 yX2_kindOf, Cond.static yX2_kindOf, Cond.code yX2_kindOf cX2_kindOf 1 (some .int), Cond.methodLink RX2 61 yX2_readPan, Cond.instanceMethod yX2_readPan, Cond.selects RX2 yX2_readPan yX2_readPan, Cond.code yX2_readPan cX2_readPan 3 none, Cond.fieldLink RX2 76 "JamSongs$Kitchen" "kind" "[I", Cond.fieldLink RX2 79 "JamSongs$Kitchen" "mode" "[I", Cond.fieldLink RX2 82 "JamSongs$Kitchen" "needs" "[I", Cond.fieldLink RX2 85 "JamSongs$Kitchen" "hears" "[I", Cond.fieldLink RX2 88 "JamSongs$Kitchen" "pans" "I", Cond.methodLink RX3 137 yX0_takeFrom, Cond.instanceMethod yX0_takeFrom]
def wsL_law_r12 : List Cond := [Cond.selects RX0 yX0_takeFrom yX0_takeFrom, Cond.code yX0_takeFrom cX0_takeFrom 2 none, Cond.methodLink RX0 66 arraycopyName, Cond.methodLink RL 40 yX4_kitchen, Cond.instanceMethod yX4_kitchen, Cond.selects RX4 yX4_kitchen yX4_kitchen, Cond.code yX4_kitchen cX4_kitchen 3 (some .int), Cond.fieldLink RX4 108 "JamSongsModel" "wrong" "I", Cond.fieldLink RX4 138 "JamSongsModel" "latest" "I", Cond.constant RX4 141 (-1000100), Cond.fieldLink RX4 91 "JamSongsModel" "begins" "I", Cond.fieldLink RX4 142 "JamSongsModel" "isThere" "Z", Cond.fieldLink RX4 146 "JamSongsModel" "actMany" "I", Cond.methodLink RX4 135 yX4_readKitchen, Cond.instanceMethod yX4_readKitchen, Cond.selects RX4 yX4_readKitchen yX4_readKitchen, Cond.code yX4_readKitchen cX4_readKitchen 3 (some .boolean), Cond.fieldLink RX4 88 "JamSongsModel" "place" "I", Cond.fieldLink RX4 94 "JamSongsModel" "token" "I", Cond.methodLink RX4 117 yX4_nextToken, Cond.instanceMethod yX4_nextToken, Cond.selects RX4 yX4_nextToken yX4_nextToken, Cond.code yX4_nextToken cX4_nextToken 1 none, Cond.fieldLink RX4 97 "JamSongsModel" "value" "I"]
def wsL_law_r13 : List Cond := [Cond.constantLong RX4 100 (48), Cond.constantLong RX4 102 (57), Cond.constantLong RX4 104 (97), Cond.constantLong RX4 106 (122), Cond.methodLink RX4 120 yX4_takes, Cond.instanceMethod yX4_takes, Cond.selects RX4 yX4_takes yX4_takes, Cond.code yX4_takes cX4_takes 2 (some .boolean), Cond.methodLink RX4 111 yX4_isLetter, Cond.instanceMethod yX4_isLetter, Cond.selects RX4 yX4_isLetter yX4_isLetter, Cond.code yX4_isLetter cX4_isLetter 2 (some .boolean), Cond.methodLink RX4 114 yX4_faults, Cond.instanceMethod yX4_faults, Cond.selects RX4 yX4_faults yX4_faults, Cond.code yX4_faults cX4_faults 2 (some .boolean), Cond.methodLink RX4 123 yX4_takesNumber, Cond.instanceMethod yX4_takesNumber, Cond.selects RX4 yX4_takesNumber yX4_takesNumber, Cond.code yX4_takesNumber cX4_takesNumber 5 (some .boolean), Cond.methodLink RX4 128 yX4_readPan, Cond.instanceMethod yX4_readPan, Cond.selects RX4 yX4_readPan yX4_readPan, Cond.code yX4_readPan cX4_readPan 3 (some .boolean)]
def wsL_law_r14 : List Cond := [Cond.constant RX4 127 (-1000000), Cond.methodLink RX4 131 yX4_readSinger, Cond.instanceMethod yX4_readSinger, Cond.selects RX4 yX4_readSinger yX4_readSinger, Cond.code yX4_readSinger cX4_readSinger 2 (some .boolean), Cond.methodLink RL 41 yX3_fault, Cond.instanceMethod yX3_fault, Cond.selects RX3 yX3_fault yX3_fault, Cond.code yX3_fault cX3_fault 1 (some .int), Cond.methodLink RL 44 yX4_fault, Cond.instanceMethod yX4_fault, Cond.selects RX4 yX4_fault yX4_fault, Cond.code yX4_fault cX4_fault 1 (some .int), Cond.methodLink RL 45 yX3_bar, Cond.instanceMethod yX3_bar, Cond.selects RX3 yX3_bar yX3_bar, Cond.code yX3_bar cX3_bar 5 (some .int), Cond.fieldLink RX3 143 "JamSongs$Kitchen" "told" "Z", Cond.constant RX3 146 (-1000002), Cond.fieldLink RX3 147 "JamSongs$Kitchen" "singers" "I", Cond.methodLink RX3 150 yX0_can, Cond.instanceMethod yX0_can, Cond.selects RX0 yX0_can yX0_can, Cond.code yX0_can cX0_can 3 (some .boolean)]
def wsL_law_r15 : List Cond := [Cond.methodLink RX3 153 yX3_keepAct, Cond.instanceMethod yX3_keepAct, Cond.selects RX3 yX3_keepAct yX3_keepAct, Cond.code yX3_keepAct cX3_keepAct 1 none, Cond.methodLink RX3 267 Lib.Math.min.name, Cond.methodLink RX3 264 yX0_keep, Cond.instanceMethod yX0_keep, Cond.selects RX0 yX0_keep yX0_keep, Cond.code yX0_keep cX0_keep 2 none, Cond.methodLink RX3 156 yX0_singBar, Cond.instanceMethod yX0_singBar, Cond.selects RX0 yX0_singBar yX0_singBar, Cond.code yX0_singBar cX0_singBar 3 none, Cond.methodLink RX0 72 yX0_isSet, Cond.instanceMethod yX0_isSet, Cond.selects RX0 yX0_isSet yX0_isSet, Cond.code yX0_isSet cX0_isSet 2 (some .boolean), Cond.methodLink RX0 84 yX0_hear, Cond.instanceMethod yX0_hear, Cond.selects RX0 yX0_hear yX0_hear, Cond.code yX0_hear cX0_hear 5 none, Cond.methodLink RX0 88 yJ6_numberOfTrailingZeros_0f7a4, Cond.static yJ6_numberOfTrailingZeros_0f7a4, Cond.initialized RJ6]
def wsL_law_r16 : List Cond := [Cond.code yJ6_numberOfTrailingZeros_0f7a4 cJ6_numberOfTrailingZeros_0f7a4 2 (some .int), Cond.constant RJ6 264 (65536), Cond.methodLink RX0 94 yX0_judge, Cond.instanceMethod yX0_judge, Cond.selects RX0 yX0_judge yX0_judge, Cond.code yX0_judge cX0_judge 5 (some .int), Cond.methodLink RX0 102 Lib.Math.abs.name, Cond.static Lib.Math.abs.name, Cond.code Lib.Math.abs.name Lib.Math.abs.code 1 (some .int), Cond.methodLink RX0 98 yX0_thickBy, Cond.instanceMethod yX0_thickBy, Cond.selects RX0 yX0_thickBy yX0_thickBy, Cond.code yX0_thickBy cX0_thickBy 3 (some .int), Cond.methodLink RX0 107 Lib.Math.max.name, Cond.static Lib.Math.max.name, Cond.code Lib.Math.max.name Lib.Math.max.code 2 (some .int), Cond.methodLink RX3 160 yX0_setPans, Cond.instanceMethod yX0_setPans, Cond.selects RX0 yX0_setPans yX0_setPans, Cond.code yX0_setPans cX0_setPans 3 (some .int), Cond.methodLink RL 48 yX4_bar, Cond.instanceMethod yX4_bar, Cond.selects RX4 yX4_bar yX4_bar, Cond.code yX4_bar cX4_bar 6 (some .int)]
def wsL_law_r17 : List Cond := [Cond.constant RX4 157 (-1000002), Cond.methodLink RX4 158 yX4_canSing, Cond.instanceMethod yX4_canSing, Cond.selects RX4 yX4_canSing yX4_canSing, Cond.code yX4_canSing cX4_canSing 3 (some .boolean), Cond.methodLink RX4 161 yX4_note, Cond.instanceMethod yX4_note, Cond.selects RX4 yX4_note yX4_note, Cond.code yX4_note cX4_note 2 none, Cond.methodLink RX4 164 yX4_oneBar, Cond.instanceMethod yX4_oneBar, Cond.selects RX4 yX4_oneBar yX4_oneBar, Cond.code yX4_oneBar cX4_oneBar 2 none, Cond.methodLink RX4 153 yX4_panHears, Cond.instanceMethod yX4_panHears, Cond.selects RX4 yX4_panHears yX4_panHears, Cond.code yX4_panHears cX4_panHears 7 none, Cond.methodLink RX4 149 yX4_has, Cond.static yX4_has, Cond.code yX4_has cX4_has 2 (some .boolean), Cond.methodLink RX4 167 yX4_setPans, Cond.instanceMethod yX4_setPans, Cond.selects RX4 yX4_setPans yX4_setPans, Cond.code yX4_setPans cX4_setPans 3 (some .int)]
def wsL_law_r18 : List Cond := [Cond.methodLink RL 49 yX3_window, Cond.instanceMethod yX3_window, Cond.selects RX3 yX3_window yX3_window, Cond.code yX3_window cX3_window 4 (some .int), Cond.fieldLink RX3 164 "JamSongs$Kitchen" "hears" "[I", Cond.methodLink RL 52 yX4_window, Cond.instanceMethod yX4_window, Cond.selects RX4 yX4_window yX4_window, Cond.code yX4_window cX4_window 4 (some .int), Cond.methodLink RX4 171 yX4_isPan, Cond.instanceMethod yX4_isPan, Cond.selects RX4 yX4_isPan yX4_isPan, Cond.code yX4_isPan cX4_isPan 2 (some .boolean), Cond.methodLink RX4 174 yX4_isSinger, Cond.instanceMethod yX4_isSinger, Cond.selects RX4 yX4_isSinger yX4_isSinger, Cond.code yX4_isSinger cX4_isSinger 2 (some .boolean), Cond.methodLink RL 53 yX3_undo, Cond.instanceMethod yX3_undo, Cond.selects RX3 yX3_undo yX3_undo, Cond.code yX3_undo cX3_undo 1 (some .int), Cond.methodLink RX3 167 yX0_bring, Cond.instanceMethod yX0_bring, Cond.selects RX0 yX0_bring yX0_bring]
def wsL_law_r19 : List Cond := [Cond.code yX0_bring cX0_bring 2 none, Cond.methodLink RL 56 yX4_undo, Cond.instanceMethod yX4_undo, Cond.selects RX4 yX4_undo yX4_undo, Cond.code yX4_undo cX4_undo 2 (some .int), Cond.methodLink RL 57 yX3_pan, Cond.instanceMethod yX3_pan, Cond.selects RX3 yX3_pan yX3_pan, Cond.code yX3_pan cX3_pan 3 (some .int), Cond.fieldLink RX3 170 "JamSongs$Kitchen" "mode" "[I", Cond.fieldLink RX3 173 "JamSongs$Kitchen" "needs" "[I", Cond.fieldLink RX3 176 "JamSongs$Kitchen" "thick" "[I", Cond.fieldLink RX3 183 "JamSongs$Kitchen" "heard" "[I", Cond.methodLink RX3 179 yX0_isSet, Cond.methodLink RL 61 yX4_pan, Cond.instanceMethod yX4_pan, Cond.selects RX4 yX4_pan yX4_pan, Cond.code yX4_pan cX4_pan 3 (some .int), Cond.methodLink RL 62 yX3_singer, Cond.instanceMethod yX3_singer, Cond.selects RX3 yX3_singer yX3_singer, Cond.code yX3_singer cX3_singer 3 (some .int), Cond.fieldLink RX3 186 "JamSongs$Kitchen" "low" "[I", Cond.fieldLink RX3 189 "JamSongs$Kitchen" "high" "[I"]
def wsL_law_r20 : List Cond := [Cond.fieldLink RX3 192 "JamSongs$Kitchen" "breath" "[I", Cond.fieldLink RX3 195 "JamSongs$Kitchen" "sung" "[I", Cond.methodLink RL 65 yX4_singer, Cond.instanceMethod yX4_singer, Cond.selects RX4 yX4_singer yX4_singer, Cond.code yX4_singer cX4_singer 3 (some .int), Cond.methodLink RL 66 yX3_alone, Cond.instanceMethod yX3_alone, Cond.selects RX3 yX3_alone yX3_alone, Cond.code yX3_alone cX3_alone 6 (some .int), Cond.methodLink RX3 198 yX3_takeTune, Cond.instanceMethod yX3_takeTune, Cond.selects RX3 yX3_takeTune yX3_takeTune, Cond.code yX3_takeTune cX3_takeTune 5 (some .int), Cond.methodLink RX3 202 yX3_trySolo, Cond.instanceMethod yX3_trySolo, Cond.selects RX3 yX3_trySolo yX3_trySolo, Cond.code yX3_trySolo cX3_trySolo 5 none, Cond.methodLink RX3 272 yJ7_fill_53178, Cond.methodLink RX3 278 yX0_tryBar, Cond.instanceMethod yX0_tryBar, Cond.selects RX0 yX0_tryBar yX0_tryBar, Cond.code yX0_tryBar cX0_tryBar 3 none, Cond.methodLink RX0 76 yX0_can]
def wsL_law_r21 : List Cond := [Cond.methodLink RX0 80 yX0_singBar, Cond.methodLink RL 70 yX4_alone, Cond.instanceMethod yX4_alone, Cond.selects RX4 yX4_alone yX4_alone, Cond.code yX4_alone cX4_alone 7 (some .int), Cond.constantLong RX4 180 (16), Cond.methodLink RX4 182 yX4_lacks, Cond.instanceMethod yX4_lacks, Cond.selects RX4 yX4_lacks yX4_lacks, Cond.code yX4_lacks cX4_lacks 6 (some .int), Cond.methodLink RX4 186 yX4_putAside, Cond.instanceMethod yX4_putAside, Cond.selects RX4 yX4_putAside yX4_putAside, Cond.code yX4_putAside cX4_putAside 2 none, Cond.methodLink RX4 189 yX4_singAlone, Cond.instanceMethod yX4_singAlone, Cond.selects RX4 yX4_singAlone yX4_singAlone, Cond.code yX4_singAlone cX4_singAlone 7 none, Cond.methodLink RX4 177 yX4_allRest, Cond.instanceMethod yX4_allRest, Cond.selects RX4 yX4_allRest yX4_allRest, Cond.code yX4_allRest cX4_allRest 2 none, Cond.methodLink RX4 193 yX4_takeBack, Cond.instanceMethod yX4_takeBack]
def wsL_law_r22 : List Cond := [Cond.selects RX4 yX4_takeBack yX4_takeBack, Cond.code yX4_takeBack cX4_takeBack 2 none, Cond.methodLink RL 71 yX3_round, Cond.instanceMethod yX3_round, Cond.selects RX3 yX3_round yX3_round, Cond.code yX3_round cX3_round 6 (some .int), Cond.methodLink RX3 206 yX3_tryRound, Cond.instanceMethod yX3_tryRound, Cond.selects RX3 yX3_tryRound yX3_tryRound, Cond.code yX3_tryRound cX3_tryRound 7 none, Cond.methodLink RL 74 yX4_round, Cond.instanceMethod yX4_round, Cond.selects RX4 yX4_round yX4_round, Cond.code yX4_round cX4_round 7 (some .int), Cond.constantLong RX4 196 (8), Cond.methodLink RX4 198 yX4_singRound, Cond.instanceMethod yX4_singRound, Cond.selects RX4 yX4_singRound yX4_singRound, Cond.code yX4_singRound cX4_singRound 9 none, Cond.methodLink RL 75 yX3_bestRound, Cond.instanceMethod yX3_bestRound, Cond.selects RX3 yX3_bestRound yX3_bestRound, Cond.code yX3_bestRound cX3_bestRound 10 (some .int), Cond.methodLink RX3 209 yJ6_bitCount_0f7a4]
def wsL_law_r23 : List Cond := [Cond.static yJ6_bitCount_0f7a4, Cond.code yJ6_bitCount_0f7a4 cJ6_bitCount_0f7a4 1 (some .int), Cond.constant RJ6 265 (1431655765), Cond.constant RJ6 266 (858993459), Cond.constant RJ6 267 (252645135), Cond.methodLink RL 78 yX4_bestRound, Cond.instanceMethod yX4_bestRound, Cond.selects RX4 yX4_bestRound yX4_bestRound, Cond.code yX4_bestRound cX4_bestRound 10 (some .int), Cond.methodLink RX4 202 yX4_ones, Cond.static yX4_ones, Cond.code yX4_ones cX4_ones 3 (some .int), Cond.methodLink RL 79 yX3_song, Cond.instanceMethod yX3_song, Cond.selects RX3 yX3_song yX3_song, Cond.code yX3_song cX3_song 4 (some .int), Cond.methodLink RX3 214 yX3_seekSong, Cond.instanceMethod yX3_seekSong, Cond.selects RX3 yX3_seekSong yX3_seekSong, Cond.code yX3_seekSong cX3_seekSong 6 none, Cond.methodLink RX3 281 yX3_trySong, Cond.instanceMethod yX3_trySong, Cond.selects RX3 yX3_trySong yX3_trySong, Cond.code yX3_trySong cX3_trySong 7 (some .int)]
def wsL_law_r24 : List Cond := [Cond.methodLink RX3 287 yJ6_numberOfTrailingZeros_0f7a4, Cond.methodLink RX3 217 yX3_noteOf, Cond.static yX3_noteOf, Cond.code yX3_noteOf cX3_noteOf 3 (some .int), Cond.methodLink RX3 284 yX3_weighSong, Cond.instanceMethod yX3_weighSong, Cond.selects RX3 yX3_weighSong yX3_weighSong, Cond.code yX3_weighSong cX3_weighSong 6 none, Cond.methodLink RL 82 yX4_song, Cond.instanceMethod yX4_song, Cond.selects RX4 yX4_song yX4_song, Cond.code yX4_song cX4_song 10 (some .int), Cond.constantLong RX4 208 (4), Cond.constantLong RX4 210 (-1), Cond.fieldLink RX4 205 "JamSongsModel" "noteMany" "I", Cond.methodLink RX4 212 yX4_singsRow, Cond.instanceMethod yX4_singsRow, Cond.selects RX4 yX4_singsRow yX4_singsRow, Cond.code yX4_singsRow cX4_singsRow 5 (some .boolean), Cond.methodLink RL 83 yX3_toShut, Cond.instanceMethod yX3_toShut, Cond.selects RX3 yX3_toShut yX3_toShut, Cond.code yX3_toShut cX3_toShut 12 (some .int), Cond.constant RX3 221 (-1000000)]
def wsL_law_r25 : List Cond := [Cond.methodLink RX3 222 yX3_setsWithout, Cond.instanceMethod yX3_setsWithout, Cond.selects RX3 yX3_setsWithout yX3_setsWithout, Cond.code yX3_setsWithout cX3_setsWithout 5 (some .boolean), Cond.methodLink RL 87 yX4_toShut, Cond.instanceMethod yX4_toShut, Cond.selects RX4 yX4_toShut yX4_toShut, Cond.code yX4_toShut cX4_toShut 11 (some .int), Cond.methodLink RL 88 yX3_modes, Cond.instanceMethod yX3_modes, Cond.selects RX3 yX3_modes yX3_modes, Cond.code yX3_modes cX3_modes 12 (some .int), Cond.methodLink RL 92 yX4_modes, Cond.instanceMethod yX4_modes, Cond.selects RX4 yX4_modes yX4_modes, Cond.code yX4_modes cX4_modes 13 (some .int), Cond.constantLong RX4 215 (20), Cond.methodLink RL 93 yX3_coughs, Cond.instanceMethod yX3_coughs, Cond.selects RX3 yX3_coughs yX3_coughs, Cond.code yX3_coughs cX3_coughs 12 (some .int), Cond.methodLink RX3 226 yX3_weightOf, Cond.static yX3_weightOf, Cond.code yX3_weightOf cX3_weightOf 4 (some .int)]
def wsL_law_r26 : List Cond := [Cond.methodLink RX3 229 yX3_power, Cond.static yX3_power, Cond.code yX3_power cX3_power 4 (some .int), Cond.methodLink RX3 233 yX3_commonDivisor, Cond.static yX3_commonDivisor, Cond.code yX3_commonDivisor cX3_commonDivisor 6 (some .int), Cond.methodLink RX3 290 Lib.Math.max.name, Cond.methodLink RL 96 yX4_coughs, Cond.instanceMethod yX4_coughs, Cond.selects RX4 yX4_coughs yX4_coughs, Cond.code yX4_coughs cX4_coughs 14 (some .int), Cond.constantLong RX4 217 (10), Cond.methodLink RL 97 yX3_image, Cond.instanceMethod yX3_image, Cond.selects RX3 yX3_image yX3_image, Cond.code yX3_image cX3_image 2 (some .int), Cond.methodLink RL 100 yX4_image, Cond.instanceMethod yX4_image, Cond.selects RX4 yX4_image yX4_image, Cond.code yX4_image cX4_image 3 (some .int), Cond.methodLink RL 101 yX3_restore, Cond.instanceMethod yX3_restore, Cond.selects RX3 yX3_restore yX3_restore, Cond.code yX3_restore cX3_restore 2 (some .int)]
def wsL_law_r27 : List Cond := [Cond.methodLink RL 104 yX4_restore, Cond.instanceMethod yX4_restore, Cond.selects RX4 yX4_restore yX4_restore, Cond.code yX4_restore cX4_restore 3 (some .int), Cond.methodLink RL 105 yX3_kind, Cond.instanceMethod yX3_kind, Cond.selects RX3 yX3_kind yX3_kind, Cond.code yX3_kind cX3_kind 2 (some .int), Cond.fieldLink RX3 236 "JamSongs$Kitchen" "kind" "[I", Cond.methodLink RL 108 yX4_kind, Cond.instanceMethod yX4_kind, Cond.selects RX4 yX4_kind yX4_kind, Cond.code yX4_kind cX4_kind 2 (some .int), Cond.methodLink RL 109 yX3_as, Cond.instanceMethod yX3_as, Cond.selects RX3 yX3_as yX3_as, Cond.code yX3_as cX3_as 3 (some .int), Cond.methodLink RX3 239 yX3_isOf, Cond.static yX3_isOf, Cond.code yX3_isOf cX3_isOf 4 (some .boolean), Cond.fieldLink RX3 293 "JamSongs" "NEAREST" "[I", Cond.methodLink RL 112 yX4_as, Cond.instanceMethod yX4_as, Cond.selects RX4 yX4_as yX4_as]
def wsL_law_r28 : List Cond := [Cond.code yX4_as cX4_as 3 (some .int), Cond.constantLong RX4 219 (5), Cond.methodLink RX4 221 yX4_isKind, Cond.static yX4_isKind, Cond.code yX4_isKind cX4_isKind 2 (some .boolean), Cond.methodLink RL 113 yX3_ask, Cond.instanceMethod yX3_ask, Cond.selects RX3 yX3_ask yX3_ask, Cond.code yX3_ask cX3_ask 4 (some .int), Cond.methodLink RX3 242 yX3_sizeOfPlums, Cond.instanceMethod yX3_sizeOfPlums, Cond.selects RX3 yX3_sizeOfPlums yX3_sizeOfPlums, Cond.code yX3_sizeOfPlums cX3_sizeOfPlums 2 (some .int), Cond.methodLink RX3 296 yX3_leave, Cond.instanceMethod yX3_leave, Cond.selects RX3 yX3_leave yX3_leave, Cond.code yX3_leave cX3_leave 2 none, Cond.methodLink RX3 300 yX3_plumSize, Cond.instanceMethod yX3_plumSize, Cond.selects RX3 yX3_plumSize yX3_plumSize, Cond.code yX3_plumSize cX3_plumSize 3 (some .int), Cond.methodLink RX3 303 yX3_lentSize, Cond.instanceMethod yX3_lentSize, Cond.selects RX3 yX3_lentSize yX3_lentSize]
def wsL_law_r29 : List Cond := [Cond.code yX3_lentSize cX3_lentSize 2 (some .int), Cond.methodLink RX3 248 yX3_markOfPlums, Cond.instanceMethod yX3_markOfPlums, Cond.selects RX3 yX3_markOfPlums yX3_markOfPlums, Cond.code yX3_markOfPlums cX3_markOfPlums 2 (some .int), Cond.methodLink RX3 309 yX3_plumMark, Cond.instanceMethod yX3_plumMark, Cond.selects RX3 yX3_plumMark yX3_plumMark, Cond.code yX3_plumMark cX3_plumMark 2 (some .int), Cond.methodLink RX3 312 yX3_lentMark, Cond.instanceMethod yX3_lentMark, Cond.selects RX3 yX3_lentMark yX3_lentMark, Cond.code yX3_lentMark cX3_lentMark 2 (some .int), Cond.methodLink RX3 245 yX3_sizeOfMarrows, Cond.instanceMethod yX3_sizeOfMarrows, Cond.selects RX3 yX3_sizeOfMarrows yX3_sizeOfMarrows, Cond.code yX3_sizeOfMarrows cX3_sizeOfMarrows 2 (some .int), Cond.methodLink RX3 306 yX3_marrowSize, Cond.instanceMethod yX3_marrowSize, Cond.selects RX3 yX3_marrowSize yX3_marrowSize, Cond.code yX3_marrowSize cX3_marrowSize 2 (some .int), Cond.methodLink RX3 251 yX3_markOfMarrows, Cond.instanceMethod yX3_markOfMarrows, Cond.selects RX3 yX3_markOfMarrows yX3_markOfMarrows]
def wsL_law_r30 : List Cond := [Cond.code yX3_markOfMarrows cX3_markOfMarrows 3 (some .int), Cond.methodLink RL 116 yX4_ask, Cond.instanceMethod yX4_ask, Cond.selects RX4 yX4_ask yX4_ask, Cond.code yX4_ask cX4_ask 3 (some .int), Cond.fieldLink RX4 224 "JamSongsModel" "traced" "I", Cond.methodLink RX4 248 yX4_sizeOf, Cond.instanceMethod yX4_sizeOf, Cond.selects RX4 yX4_sizeOf yX4_sizeOf, Cond.code yX4_sizeOf cX4_sizeOf 3 (some .int), Cond.methodLink RX4 227 yX4_begin, Cond.instanceMethod yX4_begin, Cond.selects RX4 yX4_begin yX4_begin, Cond.code yX4_begin cX4_begin 2 none, Cond.methodLink RX4 245 yX4_plumSize, Cond.instanceMethod yX4_plumSize, Cond.selects RX4 yX4_plumSize yX4_plumSize, Cond.code yX4_plumSize cX4_plumSize 3 (some .int), Cond.methodLink RX4 230 yX4_lent, Cond.instanceMethod yX4_lent, Cond.selects RX4 yX4_lent yX4_lent, Cond.code yX4_lent cX4_lent 3 (some .int), Cond.methodLink RX4 242 yX4_markOf, Cond.instanceMethod yX4_markOf]
def wsL_law_r31 : List Cond := [Cond.selects RX4 yX4_markOf yX4_markOf, Cond.code yX4_markOf cX4_markOf 4 (some .int), Cond.methodLink RX4 236 yX4_plumMark, Cond.instanceMethod yX4_plumMark, Cond.selects RX4 yX4_plumMark yX4_plumMark, Cond.code yX4_plumMark cX4_plumMark 2 (some .int), Cond.methodLink RX4 239 yX4_sizeOfMarrow, Cond.instanceMethod yX4_sizeOfMarrow, Cond.selects RX4 yX4_sizeOfMarrow yX4_sizeOfMarrow, Cond.code yX4_sizeOfMarrow cX4_sizeOfMarrow 2 (some .int), Cond.methodLink RX4 233 yX4_marrowSize, Cond.instanceMethod yX4_marrowSize, Cond.selects RX4 yX4_marrowSize yX4_marrowSize, Cond.code yX4_marrowSize cX4_marrowSize 2 (some .int), Cond.methodLink RL 117 yX3_trace, Cond.instanceMethod yX3_trace, Cond.selects RX3 yX3_trace yX3_trace, Cond.code yX3_trace cX3_trace 2 (some .int), Cond.methodLink RL 120 yX4_trace, Cond.instanceMethod yX4_trace, Cond.selects RX4 yX4_trace yX4_trace, Cond.code yX4_trace cX4_trace 2 (some .int), Cond.methodLink RL 121 yX3_count, Cond.instanceMethod yX3_count]
def wsL_law_r32 : List Cond := [Cond.selects RX3 yX3_count yX3_count, Cond.code yX3_count cX3_count 2 (some .int), Cond.fieldLink RX3 257 "JamSongs$Kitchen" "bar" "I", Cond.fieldLink RX3 260 "JamSongs$Kitchen" "back" "I", Cond.methodLink RX3 254 yX3_rowsThere, Cond.instanceMethod yX3_rowsThere, Cond.selects RX3 yX3_rowsThere yX3_rowsThere, Cond.code yX3_rowsThere cX3_rowsThere 3 (some .int), Cond.methodLink RL 124 yX4_count, Cond.instanceMethod yX4_count, Cond.selects RX4 yX4_count yX4_count, Cond.code yX4_count cX4_count 4 (some .int), Cond.methodLink RL 125 yX3_status, Cond.instanceMethod yX3_status, Cond.selects RX3 yX3_status yX3_status, Cond.code yX3_status cX3_status 1 (some .int), Cond.methodLink RL 128 yX4_status, Cond.instanceMethod yX4_status, Cond.selects RX4 yX4_status yX4_status, Cond.code yX4_status cX4_status 1 (some .int)]
def wsL_law : List Cond := (wsL_law_r1 ++ (wsL_law_r2 ++ (wsL_law_r3 ++ (wsL_law_r4 ++ (wsL_law_r5 ++ (wsL_law_r6 ++ (wsL_law_r7 ++ (wsL_law_r8 ++ (wsL_law_r9 ++ (wsL_law_r10 ++ (wsL_law_r11 ++ (wsL_law_r12 ++ (wsL_law_r13 ++ (wsL_law_r14 ++ (wsL_law_r15 ++ (wsL_law_r16 ++ (wsL_law_r17 ++ (wsL_law_r18 ++ (wsL_law_r19 ++ (wsL_law_r20 ++ (wsL_law_r21 ++ (wsL_law_r22 ++ (wsL_law_r23 ++ (wsL_law_r24 ++ (wsL_law_r25 ++ (wsL_law_r26 ++ (wsL_law_r27 ++ (wsL_law_r28 ++ (wsL_law_r29 ++ (wsL_law_r30 ++ (wsL_law_r31 ++ wsL_law_r32))))))))))))))))))))))))))))))) ++ wsX30 ++ wsX40 ++ wsX20 ++ wsX00 ++ wsX10 ++ ([] : List Cond)
theorem jz_in {big : List Cond} : ∀ (ws : List Cond) (ps : List Nat), ws.length = ps.length → (ws.zip ps).all (fun q => decide (big[q.2]? = some q.1)) = true → ∀ w ∈ ws, w ∈ big
  | [], _, _, _, w, hw => by cases hw
  | _ :: _, [], hl, _, _, _ => by cases hl
  | u :: us, p :: ps, hl, h, w, hw => by
    rw [List.zip_cons_cons, List.all_cons, Bool.and_eq_true] at h
    rcases List.mem_cons.mp hw with rfl | hw
    · exact List.mem_of_getElem? (of_decide_eq_true h.1)
    · exact jz_in us ps (Nat.succ.inj hl) h.2 w hw
theorem jz_two {big : List Cond} (ws : List Cond) (pc ps : List Nat) (hp : ws.filter k2_isCode = pc.filterMap (fun i => big[i]?)) (hl : (ws.filter (fun w => !k2_isCode w)).length = ps.length) (h : ((ws.filter (fun w => !k2_isCode w)).zip ps).all (fun q => decide (big[q.2]? = some q.1)) = true) : ∀ w ∈ ws, w ∈ big := by
  intro w hw
  by_cases hc : k2_isCode w = true
  · have h1 : w ∈ ws.filter k2_isCode := List.mem_filter.mpr ⟨hw, hc⟩
    rw [hp] at h1
    obtain ⟨i, -, hi⟩ := List.mem_filterMap.mp h1
    exact List.mem_of_getElem? hi
  · exact jz_in _ ps hl h w (List.mem_filter.mpr ⟨hw, by simp [hc]⟩)
set_option maxRecDepth 100000 in
theorem wsL_law_in : ∀ w ∈ wsL_law, w ∈ lw_tbl := jz_two wsL_law [76, 79, 86, 119, 198, 623, 275, 278, 283, 288, 291, 295, 708, 711, 715, 721, 726, 299, 303, 307, 730, 733, 311, 737, 318, 741, 322, 745, 327, 331, 335, 341, 344, 348, 351, 355, 359, 363, 366, 370, 375, 751, 755, 759, 767, 771, 775, 779, 783, 788, 380, 793, 384, 389, 393, 397, 402, 406, 410, 413, 418, 421, 425, 428, 432, 797, 802, 806, 810, 814, 817, 821, 436, 825, 829, 833, 440, 444, 837, 448, 841, 453, 845, 457, 461, 465, 470, 849, 854, 858, 862, 866, 870, 476, 480, 874, 879, 484, 487, 883, 886, 494, 498, 502, 506, 510, 890, 896, 514, 519, 900, 523, 904, 527, 530, 533, 536, 909, 541, 914, 545, 918, 549, 922, 553, 556, 926, 930, 562, 566, 570, 574, 578, 582, 586, 590, 594, 598, 602, 934, 938, 942, 946, 950, 954, 958, 962, 966, 606, 970, 610, 614, 974, 618, 978] [72, 73, 63, 619, 620, 67, 74, 75, 77, 78, 80, 217, 82, 83, 64, 218, 115, 116, 65, 219, 220, 221, 193, 114, 222, 223, 224, 225, 226, 227, 228, 229, 230, 231, 232, 233, 234, 195, 66, 85, 87, 88, 90, 92, 94, 95, 96, 97, 118, 120, 121, 123, 126, 129, 132, 135, 138, 141, 144, 147, 150, 152, 154, 157, 159, 197, 199, 200, 202, 204, 206, 621, 622, 624, 625, 626, 627, 630, 631, 632, 640, 641, 642, 644, 645, 704, 647, 648, 649, 272, 273, 274, 279, 276, 277, 280, 282, 0, 284, 285, 286, 287, 289, 290, 68, 292, 294, 1, 705, 706, 707, 716, 717, 709, 710, 712, 713, 714, 718, 720, 30, 628, 722, 723, 725, 31, 296, 297, 298, 201, 207, 300, 301, 302, 304, 305, 306, 727, 728, 729, 731, 732, 308, 309, 310, 203, 312, 314, 313, 69, 734, 735, 736, 315, 316, 317, 205, 738, 739, 740, 319, 320, 321, 91, 323, 89, 742, 743, 744, 746, 633, 747, 324, 325, 326, 98, 371, 93, 140, 328, 329, 330, 124, 332, 333, 334, 337, 336, 338, 340, 2, 342, 343, 345, 347, 3, 349, 350, 70, 352, 354, 4, 356, 358, 5, 360, 362, 6, 130, 133, 136, 127, 364, 365, 367, 369, 7, 142, 145, 148, 155, 139, 372, 373, 374, 376, 748, 749, 750, 639, 634, 789, 638, 629, 643, 752, 754, 32, 635, 636, 756, 758, 33, 637, 760, 761, 762, 763, 764, 766, 34, 768, 770, 35, 772, 774, 36, 776, 778, 37, 780, 782, 38, 784, 785, 787, 39, 377, 378, 379, 790, 791, 792, 381, 382, 383, 122, 385, 128, 386, 387, 388, 390, 392, 8, 398, 394, 395, 396, 399, 400, 401, 403, 404, 405, 407, 409, 9, 411, 412, 71, 414, 415, 417, 10, 419, 420, 422, 424, 11, 426, 427, 429, 430, 431, 794, 795, 796, 798, 799, 801, 40, 803, 805, 41, 807, 809, 42, 811, 813, 43, 815, 816, 818, 820, 44, 433, 434, 435, 156, 822, 823, 824, 826, 828, 45, 830, 832, 46, 437, 438, 439, 441, 442, 443, 834, 835, 836, 445, 446, 447, 146, 149, 158, 160, 449, 838, 839, 840, 450, 451, 452, 131, 134, 137, 153, 842, 843, 844, 454, 455, 456, 458, 460, 12, 462, 464, 13, 466, 467, 468, 469, 471, 472, 846, 847, 848, 850, 851, 853, 47, 855, 857, 48, 859, 861, 49, 863, 865, 50, 867, 869, 51, 473, 474, 475, 477, 479, 14, 871, 872, 873, 875, 876, 878, 52, 481, 482, 483, 485, 486, 488, 489, 490, 880, 881, 882, 884, 885, 491, 492, 493, 495, 497, 15, 499, 501, 16, 503, 504, 505, 507, 509, 17, 887, 888, 889, 891, 892, 646, 893, 895, 53, 511, 512, 513, 515, 516, 518, 18, 897, 898, 899, 520, 521, 522, 901, 902, 903, 905, 524, 525, 526, 528, 529, 531, 532, 534, 535, 537, 906, 907, 908, 910, 538, 539, 540, 911, 912, 913, 542, 543, 544, 915, 916, 917, 546, 547, 548, 143, 919, 920, 921, 550, 551, 552, 554, 555, 557, 923, 924, 925, 927, 928, 929, 559, 560, 561, 563, 565, 19, 567, 569, 20, 571, 573, 21, 575, 577, 22, 579, 581, 23, 583, 585, 24, 587, 589, 25, 591, 593, 26, 595, 597, 27, 599, 601, 28, 931, 932, 933, 650, 935, 937, 54, 939, 941, 55, 943, 945, 56, 947, 949, 57, 951, 953, 58, 955, 957, 59, 959, 961, 60, 963, 965, 61, 603, 604, 605, 967, 968, 969, 607, 608, 609, 151, 125, 611, 613, 29, 971, 972, 973, 615, 616, 617, 975, 976, 977, 235, 237, 239, 241, 243, 245, 247, 249, 251, 253, 255, 257, 259, 261, 263, 265, 267, 269, 651, 653, 655, 657, 659, 661, 663, 665, 667, 669, 671, 673, 675, 677, 679, 681, 683, 685, 687, 689, 691, 693, 695, 697, 699, 701, 99, 101, 103, 105, 107, 109, 111, 161, 163, 165, 167, 169, 171, 173, 175, 177, 179, 181, 183, 185, 187, 189, 208, 210, 212, 214] rfl (by decide +kernel) (by decide +kernel)
theorem inlX0 : ∀ w ∈ wsX00, w ∈ wsL_law := fun _ h => List.mem_append_left _ (List.mem_append_left _ (List.mem_append_right _ h))
theorem inX0 : ∀ w ∈ wsX00, w ∈ lw_tbl := fun w h => wsL_law_in w (inlX0 w h)
theorem inlX1 : ∀ w ∈ wsX10, w ∈ wsL_law := fun _ h => List.mem_append_left _ (List.mem_append_right _ h)
theorem inX1 : ∀ w ∈ wsX10, w ∈ lw_tbl := fun w h => wsL_law_in w (inlX1 w h)
theorem inlX2 : ∀ w ∈ wsX20, w ∈ wsL_law := fun _ h => List.mem_append_left _ (List.mem_append_left _ (List.mem_append_left _ (List.mem_append_right _ h)))
theorem inX2 : ∀ w ∈ wsX20, w ∈ lw_tbl := fun w h => wsL_law_in w (inlX2 w h)
theorem inlX3 : ∀ w ∈ wsX30, w ∈ wsL_law := fun _ h => List.mem_append_left _ (List.mem_append_left _ (List.mem_append_left _ (List.mem_append_left _ (List.mem_append_left _ (List.mem_append_right _ h)))))
theorem inX3 : ∀ w ∈ wsX30, w ∈ lw_tbl := fun w h => wsL_law_in w (inlX3 w h)
theorem inlX4 : ∀ w ∈ wsX40, w ∈ wsL_law := fun _ h => List.mem_append_left _ (List.mem_append_left _ (List.mem_append_left _ (List.mem_append_left _ (List.mem_append_right _ h))))
theorem inX4 : ∀ w ∈ wsX40, w ∈ lw_tbl := fun w h => wsL_law_in w (inlX4 w h)
end
section
/-! ===== the layout: after both constructors the heap is a fixed list of cells; its state is m : cell -> place -> Int32 ===== -/
abbrev jM : Type := Nat → Nat → Int32
abbrev jG : Type := va_G × (Nat → ClassId) × (Nat → Nat)
abbrev jMeth : Type := MethodName × ByteArray × Nat × Option FieldType × String × Nat × Nat
abbrev jMode : Type := Room × Nat × Nat × (jG → State → (Nat → Prop) → Array Value → List Frame → State → Prop) × (jG → State → (Nat → Prop) → Prop)
/-- (kind, length or class): 0 ints, 1 booleans, 2 Row[], 3 Kitchen[], 4 int[][], 5 an object -/
def jKit : List (Nat × Nat) := [(5, 0), (0, 3), (0, 3), (0, 3), (0, 5), (0, 5), (0, 5), (0, 3), (0, 5), (0, 5), (0, 5)]
def jlayL : List (Nat × Nat) :=
  [(5, 3), (2, 8), (5, 1), (0, 40), (5, 1), (0, 40), (5, 1), (0, 40), (5, 1), (0, 40), (5, 1), (0, 40), (5, 1), (0, 40), (5, 1), (0, 40), (5, 1), (0, 40), (5, 2), (0, 120)] ++
  (jKit ++ (jKit ++ ([(3, 2)] ++ (jKit ++ (jKit ++ ([(4, 24)] ++ (List.replicate 24 (0, 19) ++ ([(0, 3), (0, 16), (4, 4)] ++ (List.replicate 4 (0, 19) ++
  [(0, 16), (5, 4), (0, 8), (0, 8), (0, 320), (0, 51), (0, 40), (0, 120), (0, 51), (0, 3), (0, 1224), (0, 51), (0, 4), (1, 2), (0, 102), (0, 16)])))))))))
def jlay (c : Nat) : Nat × Nat := jlayL.getD c (9, 0)
/-- fields: 0 a number, k + 1: a reference to the cell k + 1 places behind the object -/
def jfoL : List (List Nat) :=
  [[0, 0, 0, 1, 2, 3, 0, 4, 5, 6, 0, 7, 8, 9, 10], [0, 0, 0, 1], [1, 0, 0, 0, 0, 0, 0], [1, 18, 20, 31, 42, 65, 0, 0, 90, 91, 92, 0, 0, 0, 97, 0, 0, 0],
   [1, 2, 3, 0, 0, 4, 5, 6, 0, 0, 0, 0, 0, 0, 0, 7, 8, 9, 0, 10, 11, 0, 12, 13, 14, 0]]
def jfo (ci k : Nat) : Nat := (jfoL.getD ci []).getD k 0
def jCl : List vw_C := [(RX0, TX0, 15), (RX1, TX1, 4), (RX2, TX2, 7), (RX3, TX3, 18), (RX4, TX4, 26)]
def jN (ci : Nat) : Nat := ([15, 4, 7, 18, 26] : List Nat).getD ci 0
def jtg (c j : Nat) : Nat := if c = 1 then 2 + 2 * j else if c = 42 then 43 + 11 * j else if c = 65 then 66 + j else 93 + j
def jfv (G : jG) (m : jM) (c ci k : Nat) : Value := if jfo ci k = 0 then .int (m c k) else .ref (G.2.2 (c + jfo ci k))
def jent (G : jG) (m : jM) (c : Nat) : va_E :=
  if (jlay c).1 = 5 then .inr ((jlay c).2, (List.range (jN (jlay c).2)).map (jfv G m c (jlay c).2))
  else if (jlay c).1 < 2 then .inl (G.2.1 (jlay c).1, (jlay c).2, .inl (m c))
  else .inl (G.2.1 (jlay c).1, (jlay c).2, .inr (.inr (.inr (.inr (fun j => some (G.2.2 (jtg c j)))))))
def jw (G : jG) (m : jM) : va_W := (List.range 113).map (fun c => (G.2.2 c, jent G m c))
def jtys (G : jG) : List (ClassId × FieldType) := [(G.2.1 0, .int), (G.2.1 1, .boolean), (G.2.1 2, .object "JamSongs$Row"), (G.2.1 3, .object "JamSongs$Kitchen"), (G.2.1 4, .array .int)]
def jA (G : jG) : Nat → Prop := fun q => ∃ c, c < 113 ∧ q = G.2.2 c
def jInj (G : jG) : Prop := ∀ i j : Nat, i < 113 → j < 113 → G.2.2 i = G.2.2 j → i = j
def jtr (G : jG) : Value → Value
  | .ref a => .ref (G.2.2 a)
  | v => v
def jnear (j : Nat) : Int32 := ([0, 0, 1, 1, 0, 4] : List Int32).getD j 0
def jNear (G : jG) (A : Nat → Prop) (s : State) (H : Heap) : Prop := va_Z "JamSongs" "NEAREST" "[I" (.ref (G.2.2 113)) A s H ∧ va_T .int (G.2.2 113) 6 (fun j => .int (jnear j)) A s H
/-- the row c becomes f -/
def jup (m : jM) (c : Nat) (f : Nat → Int32) : jM := fun a => if a = c then f else m a
theorem jup_s (m : jM) (c : Nat) (f : Nat → Int32) : jup m c f c = f := if_pos rfl
theorem jup_n (m : jM) {c a : Nat} (f : Nat → Int32) (h : a ≠ c) : jup m c f a = m a := if_neg h
theorem jw_get (G : jG) (m : jM) {c : Nat} (h : c < 113) : (jw G m)[c]? = some (G.2.2 c, jent G m c) := by
  simp [jw, h]
theorem jlay_lt {c k n : Nat} (h : jlay c = (k, n)) (hk : k < 6) : c < 113 := by
  rcases Nat.lt_or_ge c 113 with q | q
  · exact q
  · exfalso
    have e : jlayL.length = 113 := by decide +kernel
    unfold jlay at h
    rw [List.getD_eq_getElem?_getD, List.getElem?_eq_none (by omega)] at h
    have : (9 : Nat) = k := congrArg Prod.fst h
    omega
theorem jent_to {G : jG} {m m' : jM} {a : Nat} (h : m' a = m a) : jent G m' a = jent G m a := by
  unfold jent
  have e : ∀ ci, jfv G m' a ci = jfv G m a ci := fun ci => by funext k; unfold jfv; rw [h]
  rw [h, e]
theorem jw_set {G : jG} {m : jM} {c : Nat} {f : Nat → Int32} {e : va_E} (he : jent G (jup m c f) c = e) : (jw G m).set c (G.2.2 c, e) = jw G (jup m c f) := by
  apply List.ext_getElem?
  intro i
  by_cases hi : i < 113
  · rw [jw_get G _ hi]
    by_cases hc : i = c
    · subst hc
      rw [List.getElem?_set_self (by simp [jw, hi]), he]
    · rw [List.getElem?_set_ne (Ne.symm hc), jw_get G m hi, jent_to (jup_n m f hc)]
  · have l1 : (jw G m).length = 113 := by simp [jw]
    have l2 : (jw G (jup m c f)).length = 113 := by simp [jw]
    rw [List.getElem?_eq_none (by rw [List.length_set]; omega), List.getElem?_eq_none (by omega)]
theorem jw_D {G : jG} {m : jM} {A : Nat → Prop} (hi : jInj G) (hA : ∀ c, c < 113 → A (G.2.2 c)) : va_D A (jw G m) := by
  have key : ∀ (k : Nat) (q : Nat × va_E), (jw G m)[k]? = some q → k < 113 ∧ q.1 = G.2.2 k := by
    intro k q h
    have hl : k < 113 := by
      have := (List.getElem?_eq_some_iff.mp h).1
      simpa [jw] using this
    rw [jw_get G m hl] at h
    exact ⟨hl, by rw [← Option.some.inj h]⟩
  refine ⟨fun i j p q h1 h2 e => ?_, fun k q h => ?_⟩
  · obtain ⟨a1, b1⟩ := key i p h1
    obtain ⟨a2, b2⟩ := key j q h2
    exact hi i j a1 a2 (by rw [← b1, ← b2]; exact e)
  · obtain ⟨a1, b1⟩ := key k q h
    rw [b1]
    exact hA k a1
/-- locals: those that are told are held -/
def jlv (G : jG) (ls : Array Slot) (nL : Nat) (L : List (Option Value)) : Prop := ls.size = nL ∧ lv_wf ls ∧ ∀ (i : Nat) (v : Value), L[i]? = some (some v) → ls[i]? = some (.val (jtr G v))
/-- no long in a place -/
def jnl (o : Option Value) : Bool := match o with
  | some (.long _) => false
  | some (.double _) => false
  | _ => true
def jpr (G : jG) (L : List (Option Value)) : List (Nat × Value) := (List.range L.length).filterMap (fun i => (L[i]?.getD none).map (fun v => (i, jtr G v)))
theorem jpr_mem {G : jG} {L : List (Option Value)} {i : Nat} {v : Value} (h : L[i]? = some (some v)) : (i, jtr G v) ∈ jpr G L := by
  refine List.mem_filterMap.mpr ⟨i, List.mem_range.mpr (List.getElem?_eq_some_iff.mp h).1, ?_⟩
  rw [h]
  rfl
theorem jpr_of {G : jG} {L : List (Option Value)} {q : Nat × Value} (h : q ∈ jpr G L) : ∃ v, L[q.1]? = some (some v) ∧ q.2 = jtr G v := by
  obtain ⟨i, -, h2⟩ := List.mem_filterMap.mp h
  cases hL : L[i]? with
  | none => rw [hL] at h2; cases h2
  | some o =>
    cases o with
    | none => rw [hL] at h2; cases h2
    | some v =>
      rw [hL] at h2
      have e : (i, jtr G v) = q := Option.some.inj h2
      subst e
      exact ⟨v, hL, rfl⟩
theorem jlv_has {G : jG} {ls : Array Slot} {nL : Nat} {L : List (Option Value)} (h : jlv G ls nL L) : lv_has ls nL (jpr G L) :=
  ⟨h.1, h.2.1, fun q hq => by
    obtain ⟨v, h1, h2⟩ := jpr_of hq
    rw [h2]
    exact h.2.2 _ _ h1⟩
theorem jtr_cat (G : jG) (v : Value) : (jtr G v).category = v.category := by cases v <;> rfl
theorem jlv_store {G : jG} {ls' : Array Slot} {nL i : Nat} {L : List (Option Value)} {v : Value} (hn : ∀ j, j + 1 = i → jnl (L[j]?.getD none) = true) (hi : i < L.length)
    (h : lv_has ls' nL ((i, jtr G v) :: (jpr G L).filter (fun q => !(q.1 == i) && !(q.1 + 1 == i && q.2.category == 2)))) : jlv G ls' nL (L.set i (some v)) := by
  refine ⟨h.1, h.2.1, fun j w hj => ?_⟩
  by_cases e : j = i
  · subst e
    rw [List.getElem?_set_self hi] at hj
    cases hj
    exact h.2.2 (j, jtr G v) List.mem_cons_self
  · rw [List.getElem?_set_ne (Ne.symm e)] at hj
    refine h.2.2 (j, jtr G w) (List.mem_cons_of_mem _ (List.mem_filter.mpr ⟨jpr_mem hj, ?_⟩))
    have c : ¬ (j + 1 = i ∧ w.category = 2) := by
      rintro ⟨c1, c2⟩
      have := hn j c1
      rw [hj] at this
      cases w <;> simp_all [jnl, Value.category]
    simp only [Bool.and_eq_true, Bool.not_eq_true', beq_eq_false_iff_ne, ne_eq, Bool.and_eq_false_iff, jtr_cat]
    refine ⟨e, ?_⟩
    by_cases c1 : j + 1 = i
    · exact Or.inr (fun z => c ⟨c1, z⟩)
    · exact Or.inl c1
/-! ===== contracts ===== -/
def jrm (M : jMeth) : Room := { frames := M.2.2.2.2.2.1, cells := 0, slots := 0, locals := M.2.2.2.2.2.2 }
def jws (M : jMeth) : List Cond := .code M.1 M.2.1 M.2.2.1 M.2.2.2.1 :: wsL_law
def jPc (G : jG) (as : List Value) (m : jM) : Array Value → State → Prop := va_Pc (as.map (jtr G)) (fun U => va_P G.1 jCl (jw G m) U.heap ∧ va_K G.1 jCl (jtys G) U ∧ jNear G (jA G) U U.heap ∧ jInj G)
def jQc (G : jG) (r : Option Value) (m' : jM) : Array Value → State → Outcome → State → Prop := fun _ st oc t => (oc = .returned (r.map (jtr G)) ∧ va_P G.1 jCl (jw G m') t.heap) ∧ va_F (jA G) st t
def jX (M : jMeth) (as : List Value) (m : jM) (r : Option Value) (m' : jM) : Prop := ∀ (l : Launch) (G : jG), Met l M.1 (jws M) (jrm M) (jPc G as m) (jQc G r m') 0 0 (jA G)
def jC (G : jG) (A : Nat → Prop) (M : jMeth) (p : Program) (s : State) (mth : MethodId) (args : Array Value) (meth : Method) (c : Code) : Prop :=
  p.tables.exec = Jvm.exec ∧ c.code = M.2.1 ∧ c.maxLocals = M.2.2.1 ∧ meth.sig.returnType = M.2.2.2.1 ∧ meth.locks = false ∧ s.vm.findClass M.2.2.2.2.1 = some mth.cls ∧ (∀ w ∈ wsL_law, w.before args s = true) ∧ va_K G.1 jCl (jtys G) s ∧ jNear G A s s.heap ∧ jInj G ∧ ∀ k, k < 113 → A (G.2.2 k)
def jE (B : jMode) (M : jMeth) (pc : Nat) (L : List (Option Value)) (S : List Value) (m : jM) : Prop :=
  ∀ (p : Program) (l : Launch) (e : Env) (G : jG) (A : Nat → Prop) (s : State) (mth : MethodId) (args : Array Value) (below : List Frame) (meth : Method) (c : Code), jC G A M p s mth args meth c → B.2.2.2.2 G s A →
    ∀ (H : Heap) (locs : List Loc) (ls : Array Slot), jlv G ls M.2.2.1 L → va_P G.1 jCl (jw G m) H → va_S A s.heap H locs → W p l e B.1 s mth args below meth c H locs B.2.1 B.2.2.1 (B.2.2.2.1 G s A args below) (F0 mth pc ls (S.map (jtr G)))
def jmd (M : jMeth) (r : Option Value) (m' : jM) : jMode := (jrm M, 0, 0, fun G s A args below => MQ below (jQc G r m') args s 0 0 A, fun G _ A => A = jA G)
theorem jgood : ∀ w ∈ wsL_law, (w.onTables && w.keeps) = true ∨ ∃ ty, w = .arrayClass ty := by
  have h : wsL_law.all goodWord = true := by decide +kernel
  exact fun w hw => good_of_word (List.all_eq_true.mp h w hw)
theorem jgoodIn {ws : List Cond} (h : ∀ w ∈ ws, w ∈ wsL_law) : GoodIn wsL_law ws := fun w hw => ⟨h w hw, jgood w (h w hw)⟩
def jloc : List Value → List (Option Value)
  | [] => []
  | v :: vs => if v.category = 2 then some v :: none :: jloc vs else some v :: jloc vs
theorem jloc_in (G : jG) : ∀ (vs : List Value) (k i : Nat) (v : Value), (jloc vs)[i]? = some (some v) → (k + i, jtr G v) ∈ lv_args k (vs.map (jtr G))
  | [], k, i, v, h => by simp [jloc] at h
  | u :: us, k, i, v, h => by
    show (k + i, jtr G v) ∈ (k, jtr G u) :: lv_args (if (jtr G u).category = 2 then k + 2 else k + 1) (us.map (jtr G))
    rw [jtr_cat]
    unfold jloc at h
    by_cases c : u.category = 2
    · rw [if_pos c] at h ⊢
      match i, h with
      | 0, h => cases h; exact List.mem_cons_self
      | 1, h => cases h
      | i + 2, h =>
        have := jloc_in G us (k + 2) i v (by simpa using h)
        rw [show k + (i + 2) = k + 2 + i by omega]
        exact List.mem_cons_of_mem _ this
    · rw [if_neg c] at h ⊢
      match i, h with
      | 0, h => cases h; exact List.mem_cons_self
      | i + 1, h =>
        have := jloc_in G us (k + 1) i v (by simpa using h)
        rw [show k + (i + 1) = k + 1 + i by omega]
        exact List.mem_cons_of_mem _ this
theorem lg_sl_tr (G : jG) (vs : List Value) : (lg_sl (vs.map (jtr G))).length = (jloc vs).length := by
  induction vs with
  | nil => rfl
  | cons v vs ih =>
    have e : lg_sl ((v :: vs).map (jtr G)) = (if (jtr G v).category = 2 then [.val (jtr G v), .second] else [.val (jtr G v)]) ++ lg_sl (vs.map (jtr G)) := rfl
    have e2 : jloc (v :: vs) = if v.category = 2 then some v :: none :: jloc vs else some v :: jloc vs := rfl
    rw [e, e2, List.length_append, ih, jtr_cat]
    by_cases c : v.category = 2
    · rw [if_pos c, if_pos c]; simp; omega
    · rw [if_neg c, if_neg c]; simp; omega
/-- a method's contract out of a walk from its entry -/
theorem jX_of {M : jMeth} {as : List Value} {m m' : jM} {r : Option Value} {L : List (Option Value)} (n : Nat) (hL : jloc as ++ List.replicate n none = L) (hn : (jloc as).length + n = M.2.2.1) (hp : plainName M.1.cls = true) (ho : M.2.2.2.2.1 = M.1.cls)
    (h : jE (jmd M r m') M 0 L [] m) : jX M as m r m' := by
  intro l G
  refine Met.ofW (cc := M.2.1) (maxL := M.2.2.1) (ret := M.2.2.2.1) hp rfl ?_
  intro p e s mth args below meth c s₁ B hml hv
  obtain ⟨rfl, hP, hK, hN, hI⟩ := hv
  have hts := atoms_spec (ws := jws M) B.pre
  have hC : jC G (jA G) M p s mth (as.map (jtr G)).toArray meth c :=
    ⟨B.exec, B.bytes, hml, B.returns, B.notSynchronized, by rw [ho]; exact findClass_of_methodNamed B.named, fun w hw => hts w (List.mem_cons_of_mem _ hw), hK, hN, hI, fun k hk => ⟨k, hk, rfl⟩⟩
  have hl := lv_entry (as.map (jtr G)) (n := M.2.2.1) (by rw [lg_sl_tr]; omega)
  rw [lg_entry_eq]
  refine h p l e G (jA G) s mth _ below meth c hC rfl s.heap [] _ ⟨hl.1, hl.2.1, fun i v hi => ?_⟩ hP va_S.rf
  refine hl.2.2 (i, jtr G v) ?_
  rw [← hL] at hi
  have hi2 : (jloc as)[i]? = some (some v) := by
    rcases Nat.lt_or_ge i (jloc as).length with q | q
    · rw [List.getElem?_append_left q] at hi
      exact hi
    · rw [List.getElem?_append_right q, List.getElem?_replicate] at hi
      split at hi <;> cases hi
  have := jloc_in G as 0 i v hi2
  rwa [Nat.zero_add] at this
end
section
theorem jw_native : Cond.native arraycopyName ∈ wsL_law := List.mem_of_getElem? (i := 170) (by decide +kernel)
theorem jw_static : Cond.static arraycopyName ∈ wsL_law := List.mem_of_getElem? (i := 171) (by decide +kernel)
theorem jw_system : Cond.initialized "java/lang/System" ∈ wsL_law := List.mem_of_getElem? (i := 172) (by decide +kernel)
theorem e_iconst {B : jMode} {M : jMeth} {pc : Nat} {L : List (Option Value)} {S : List Value} {m : jM} {n : Int} {v : Int32} (hd : decode M.2.1 pc = .ok (.iconst n, 1)) (hv : Int32.ofInt n = v) (k : jE B M (pc + 1) L (.int v :: S) m) : jE B M pc L S m := by
  intro p l e G A s mth args below meth c C X H locs ls hl hP hS
  exact lv_iconst C.1 C.2.1 hd hv (k p l e G A s mth args below meth c C X H locs ls hl hP hS)
theorem e_bipush {B : jMode} {M : jMeth} {pc : Nat} {L : List (Option Value)} {S : List Value} {m : jM} {n : Int} {v : Int32} (hd : decode M.2.1 pc = .ok (.bipush n, 2)) (hv : (Int8.ofInt n).toInt32 = v) (k : jE B M (pc + 2) L (.int v :: S) m) : jE B M pc L S m := by
  intro p l e G A s mth args below meth c C X H locs ls hl hP hS
  exact lv_bipush C.1 C.2.1 hd hv (k p l e G A s mth args below meth c C X H locs ls hl hP hS)
theorem e_sipush {B : jMode} {M : jMeth} {pc : Nat} {L : List (Option Value)} {S : List Value} {m : jM} {n : Int} {v : Int32} (hd : decode M.2.1 pc = .ok (.sipush n, 3)) (hv : (Int16.ofInt n).toInt32 = v) (k : jE B M (pc + 3) L (.int v :: S) m) : jE B M pc L S m := by
  intro p l e G A s mth args below meth c C X H locs ls hl hP hS
  exact lv_sipush C.1 C.2.1 hd hv (k p l e G A s mth args below meth c C X H locs ls hl hP hS)
theorem e_lconst {B : jMode} {M : jMeth} {pc : Nat} {L : List (Option Value)} {S : List Value} {m : jM} {n : Fin 2} {v : Int64} (hd : decode M.2.1 pc = .ok (.lconst n, 1)) (hv : Int64.ofNat (n : Nat) = v) (k : jE B M (pc + 1) L (.long v :: S) m) : jE B M pc L S m := by
  intro p l e G A s mth args below meth c C X H locs ls hl hP hS
  exact lv_lconst C.1 C.2.1 hd hv (k p l e G A s mth args below meth c C X H locs ls hl hP hS)
theorem e_ldc {B : jMode} {M : jMeth} {pc : Nat} {L : List (Option Value)} {S : List Value} {m : jM} {index : Nat} {v : Int32} (hd : decode M.2.1 pc = .ok (.ldc index, 2)) (hc : Cond.constant M.2.2.2.2.1 index v ∈ wsL_law) (k : jE B M (pc + 2) L (.int v :: S) m) : jE B M pc L S m := by
  intro p l e G A s mth args below meth c C X H locs ls hl hP hS
  exact lv_ldc C.1 C.2.1 C.2.2.2.2.2.1 (C.2.2.2.2.2.2.1 _ hc) hd (k p l e G A s mth args below meth c C X H locs ls hl hP hS)
theorem e_ldcw {B : jMode} {M : jMeth} {pc : Nat} {L : List (Option Value)} {S : List Value} {m : jM} {index : Nat} {v : Int32} (hd : decode M.2.1 pc = .ok (.ldc_w index, 3)) (hc : Cond.constant M.2.2.2.2.1 index v ∈ wsL_law) (k : jE B M (pc + 3) L (.int v :: S) m) : jE B M pc L S m := by
  intro p l e G A s mth args below meth c C X H locs ls hl hP hS
  exact lv_ldcw C.1 C.2.1 C.2.2.2.2.2.1 (C.2.2.2.2.2.2.1 _ hc) hd (k p l e G A s mth args below meth c C X H locs ls hl hP hS)
theorem e_ldc2 {B : jMode} {M : jMeth} {pc : Nat} {L : List (Option Value)} {S : List Value} {m : jM} {index : Nat} {v : Int64} (hd : decode M.2.1 pc = .ok (.ldc2_w index, 3)) (hc : Cond.constantLong M.2.2.2.2.1 index v ∈ wsL_law) (k : jE B M (pc + 3) L (.long v :: S) m) : jE B M pc L S m := by
  intro p l e G A s mth args below meth c C X H locs ls hl hP hS
  exact lv_ldc2 C.1 C.2.1 C.2.2.2.2.2.1 (C.2.2.2.2.2.2.1 _ hc) hd (k p l e G A s mth args below meth c C X H locs ls hl hP hS)
theorem e_iload_n {B : jMode} {M : jMeth} {pc : Nat} {L : List (Option Value)} {S : List Value} {m : jM} {q : Fin 4} {x : Int32} (hd : decode M.2.1 pc = .ok (.iload_n q, 1)) (hL : L[(q : Nat)]? = some (some (.int x))) (k : jE B M (pc + 1) L (.int x :: S) m) : jE B M pc L S m := by
  intro p l e G A s mth args below meth c C X H locs ls hl hP hS
  exact lv_iload_n C.1 C.2.1 hd rfl (hl.2.2 _ _ hL) (k p l e G A s mth args below meth c C X H locs ls hl hP hS)
theorem e_iload {B : jMode} {M : jMeth} {pc : Nat} {L : List (Option Value)} {S : List Value} {m : jM} {i : Nat} {x : Int32} (hd : decode M.2.1 pc = .ok (.iload i, 2)) (hL : L[i]? = some (some (.int x))) (k : jE B M (pc + 2) L (.int x :: S) m) : jE B M pc L S m := by
  intro p l e G A s mth args below meth c C X H locs ls hl hP hS
  exact lv_iload C.1 C.2.1 hd (hl.2.2 _ _ hL) (k p l e G A s mth args below meth c C X H locs ls hl hP hS)
theorem e_lload_n {B : jMode} {M : jMeth} {pc : Nat} {L : List (Option Value)} {S : List Value} {m : jM} {q : Fin 4} {x : Int64} (hd : decode M.2.1 pc = .ok (.lload_n q, 1)) (hL : L[(q : Nat)]? = some (some (.long x))) (k : jE B M (pc + 1) L (.long x :: S) m) : jE B M pc L S m := by
  intro p l e G A s mth args below meth c C X H locs ls hl hP hS
  exact lv_lload_n C.1 C.2.1 hd rfl (hl.2.2 _ _ hL) (k p l e G A s mth args below meth c C X H locs ls hl hP hS)
theorem e_lload {B : jMode} {M : jMeth} {pc : Nat} {L : List (Option Value)} {S : List Value} {m : jM} {i : Nat} {x : Int64} (hd : decode M.2.1 pc = .ok (.lload i, 2)) (hL : L[i]? = some (some (.long x))) (k : jE B M (pc + 2) L (.long x :: S) m) : jE B M pc L S m := by
  intro p l e G A s mth args below meth c C X H locs ls hl hP hS
  exact lv_lload C.1 C.2.1 hd (hl.2.2 _ _ hL) (k p l e G A s mth args below meth c C X H locs ls hl hP hS)
theorem e_aload_n {B : jMode} {M : jMeth} {pc : Nat} {L : List (Option Value)} {S : List Value} {m : jM} {q : Fin 4} {x : Nat} (hd : decode M.2.1 pc = .ok (.aload_n q, 1)) (hL : L[(q : Nat)]? = some (some (.ref x))) (k : jE B M (pc + 1) L (.ref x :: S) m) : jE B M pc L S m := by
  intro p l e G A s mth args below meth c C X H locs ls hl hP hS
  exact lv_aload_n C.1 C.2.1 hd rfl (hl.2.2 _ _ hL) (k p l e G A s mth args below meth c C X H locs ls hl hP hS)
theorem e_aload {B : jMode} {M : jMeth} {pc : Nat} {L : List (Option Value)} {S : List Value} {m : jM} {i : Nat} {x : Nat} (hd : decode M.2.1 pc = .ok (.aload i, 2)) (hL : L[i]? = some (some (.ref x))) (k : jE B M (pc + 2) L (.ref x :: S) m) : jE B M pc L S m := by
  intro p l e G A s mth args below meth c C X H locs ls hl hP hS
  exact lv_aload C.1 C.2.1 hd (hl.2.2 _ _ hL) (k p l e G A s mth args below meth c C X H locs ls hl hP hS)
theorem e_istore_n {B : jMode} {M : jMeth} {pc : Nat} {L : List (Option Value)} {S : List Value} {m : jM} {q : Fin 4} {x : Int32} {L' : List (Option Value)} (hd : decode M.2.1 pc = .ok (.istore_n q, 1)) (hi : (q : Nat) < M.2.2.1) (hi2 : (q : Nat) < L.length) (hn : ∀ j, j + 1 = (q : Nat) → jnl (L[j]?.getD none) = true) (hL : L.set q (some (.int x)) = L') (k : jE B M (pc + 1) L' S m) : jE B M pc L (.int x :: S) m := by
  intro p l e G A s mth args below meth c C X H locs ls hl hP hS
  subst hL
  exact lv_istore_n C.1 C.2.1 hd rfl (jlv_has hl) hi rfl (fun ls' h => k p l e G A s mth args below meth c C X H locs ls' (jlv_store hn hi2 h) hP hS)
theorem e_istore {B : jMode} {M : jMeth} {pc : Nat} {L : List (Option Value)} {S : List Value} {m : jM} {i : Nat} {x : Int32} {L' : List (Option Value)} (hd : decode M.2.1 pc = .ok (.istore i, 2)) (hi : i < M.2.2.1) (hi2 : i < L.length) (hn : ∀ j, j + 1 = i → jnl (L[j]?.getD none) = true) (hL : L.set i (some (.int x)) = L') (k : jE B M (pc + 2) L' S m) : jE B M pc L (.int x :: S) m := by
  intro p l e G A s mth args below meth c C X H locs ls hl hP hS
  subst hL
  exact lv_istore C.1 C.2.1 hd (jlv_has hl) hi rfl (fun ls' h => k p l e G A s mth args below meth c C X H locs ls' (jlv_store hn hi2 h) hP hS)
theorem e_astore_n {B : jMode} {M : jMeth} {pc : Nat} {L : List (Option Value)} {S : List Value} {m : jM} {q : Fin 4} {x : Nat} {L' : List (Option Value)} (hd : decode M.2.1 pc = .ok (.astore_n q, 1)) (hi : (q : Nat) < M.2.2.1) (hi2 : (q : Nat) < L.length) (hn : ∀ j, j + 1 = (q : Nat) → jnl (L[j]?.getD none) = true) (hL : L.set q (some (.ref x)) = L') (k : jE B M (pc + 1) L' S m) : jE B M pc L (.ref x :: S) m := by
  intro p l e G A s mth args below meth c C X H locs ls hl hP hS
  subst hL
  exact lv_astore_n C.1 C.2.1 hd rfl (jlv_has hl) hi rfl (fun ls' h => k p l e G A s mth args below meth c C X H locs ls' (jlv_store hn hi2 h) hP hS)
theorem e_astore {B : jMode} {M : jMeth} {pc : Nat} {L : List (Option Value)} {S : List Value} {m : jM} {i : Nat} {x : Nat} {L' : List (Option Value)} (hd : decode M.2.1 pc = .ok (.astore i, 2)) (hi : i < M.2.2.1) (hi2 : i < L.length) (hn : ∀ j, j + 1 = i → jnl (L[j]?.getD none) = true) (hL : L.set i (some (.ref x)) = L') (k : jE B M (pc + 2) L' S m) : jE B M pc L (.ref x :: S) m := by
  intro p l e G A s mth args below meth c C X H locs ls hl hP hS
  subst hL
  exact lv_astore C.1 C.2.1 hd (jlv_has hl) hi rfl (fun ls' h => k p l e G A s mth args below meth c C X H locs ls' (jlv_store hn hi2 h) hP hS)
theorem e_iinc {B : jMode} {M : jMeth} {pc : Nat} {L : List (Option Value)} {S : List Value} {m : jM} {i : Nat} {n : Int} {x v : Int32} {L' : List (Option Value)} (hd : decode M.2.1 pc = .ok (.iinc i n, 3)) (hx : L[i]? = some (some (.int x))) (hv : x + Int32.ofInt n = v) (hi : i < M.2.2.1) (hn : ∀ j, j + 1 = i → jnl (L[j]?.getD none) = true) (hL : L.set i (some (.int v)) = L') (k : jE B M (pc + 3) L' S m) : jE B M pc L S m := by
  intro p l e G A s mth args below meth c C X H locs ls hl hP hS
  subst hL
  obtain ⟨k0, hk0⟩ := List.getElem?_of_mem (jpr_mem (G := G) hx)
  exact lv_iinc C.1 C.2.1 hd (jlv_has hl) (k := k0) hk0 hv hi rfl (fun ls' h => k p l e G A s mth args below meth c C X H locs ls' (jlv_store (v := .int v) hn (List.getElem?_eq_some_iff.mp hx).1 h) hP hS)
theorem e_iadd {B : jMode} {M : jMeth} {pc : Nat} {L : List (Option Value)} {S : List Value} {m : jM} {x y : Int32} (hd : decode M.2.1 pc = .ok (.iadd, 1)) (k : jE B M (pc + 1) L (.int (x + y) :: S) m) : jE B M pc L (.int y :: .int x :: S) m := by
  intro p l e G A s mth args below meth c C X H locs ls hl hP hS
  exact lv_iadd C.1 C.2.1 hd (k p l e G A s mth args below meth c C X H locs ls hl hP hS)
theorem e_isub {B : jMode} {M : jMeth} {pc : Nat} {L : List (Option Value)} {S : List Value} {m : jM} {x y : Int32} (hd : decode M.2.1 pc = .ok (.isub, 1)) (k : jE B M (pc + 1) L (.int (x - y) :: S) m) : jE B M pc L (.int y :: .int x :: S) m := by
  intro p l e G A s mth args below meth c C X H locs ls hl hP hS
  exact lv_isub C.1 C.2.1 hd (k p l e G A s mth args below meth c C X H locs ls hl hP hS)
theorem e_imul {B : jMode} {M : jMeth} {pc : Nat} {L : List (Option Value)} {S : List Value} {m : jM} {x y : Int32} (hd : decode M.2.1 pc = .ok (.imul, 1)) (k : jE B M (pc + 1) L (.int (x * y) :: S) m) : jE B M pc L (.int y :: .int x :: S) m := by
  intro p l e G A s mth args below meth c C X H locs ls hl hP hS
  exact lv_imul C.1 C.2.1 hd (k p l e G A s mth args below meth c C X H locs ls hl hP hS)
theorem e_iand {B : jMode} {M : jMeth} {pc : Nat} {L : List (Option Value)} {S : List Value} {m : jM} {x y : Int32} (hd : decode M.2.1 pc = .ok (.iand, 1)) (k : jE B M (pc + 1) L (.int (x &&& y) :: S) m) : jE B M pc L (.int y :: .int x :: S) m := by
  intro p l e G A s mth args below meth c C X H locs ls hl hP hS
  exact lv_iand C.1 C.2.1 hd (k p l e G A s mth args below meth c C X H locs ls hl hP hS)
theorem e_ior {B : jMode} {M : jMeth} {pc : Nat} {L : List (Option Value)} {S : List Value} {m : jM} {x y : Int32} (hd : decode M.2.1 pc = .ok (.ior, 1)) (k : jE B M (pc + 1) L (.int (x ||| y) :: S) m) : jE B M pc L (.int y :: .int x :: S) m := by
  intro p l e G A s mth args below meth c C X H locs ls hl hP hS
  exact lv_ior C.1 C.2.1 hd (k p l e G A s mth args below meth c C X H locs ls hl hP hS)
theorem e_ixor {B : jMode} {M : jMeth} {pc : Nat} {L : List (Option Value)} {S : List Value} {m : jM} {x y : Int32} (hd : decode M.2.1 pc = .ok (.ixor, 1)) (k : jE B M (pc + 1) L (.int (x ^^^ y) :: S) m) : jE B M pc L (.int y :: .int x :: S) m := by
  intro p l e G A s mth args below meth c C X H locs ls hl hP hS
  exact lv_ixor C.1 C.2.1 hd (k p l e G A s mth args below meth c C X H locs ls hl hP hS)
theorem e_ishl {B : jMode} {M : jMeth} {pc : Nat} {L : List (Option Value)} {S : List Value} {m : jM} {x y : Int32} (hd : decode M.2.1 pc = .ok (.ishl, 1)) (k : jE B M (pc + 1) L (.int (x <<< (y &&& 31)) :: S) m) : jE B M pc L (.int y :: .int x :: S) m := by
  intro p l e G A s mth args below meth c C X H locs ls hl hP hS
  exact lv_ishl C.1 C.2.1 hd (k p l e G A s mth args below meth c C X H locs ls hl hP hS)
theorem e_ishr {B : jMode} {M : jMeth} {pc : Nat} {L : List (Option Value)} {S : List Value} {m : jM} {x y : Int32} (hd : decode M.2.1 pc = .ok (.ishr, 1)) (k : jE B M (pc + 1) L (.int (x >>> (y &&& 31)) :: S) m) : jE B M pc L (.int y :: .int x :: S) m := by
  intro p l e G A s mth args below meth c C X H locs ls hl hP hS
  exact lv_ishr C.1 C.2.1 hd (k p l e G A s mth args below meth c C X H locs ls hl hP hS)
theorem e_iushr {B : jMode} {M : jMeth} {pc : Nat} {L : List (Option Value)} {S : List Value} {m : jM} {x y : Int32} (hd : decode M.2.1 pc = .ok (.iushr, 1)) (k : jE B M (pc + 1) L (.int ((x.toUInt32 >>> (y.toUInt32 &&& Int32.toUInt32 31)).toInt32) :: S) m) : jE B M pc L (.int y :: .int x :: S) m := by
  intro p l e G A s mth args below meth c C X H locs ls hl hP hS
  exact lv_iushr C.1 C.2.1 hd rfl (k p l e G A s mth args below meth c C X H locs ls hl hP hS)
theorem e_ineg {B : jMode} {M : jMeth} {pc : Nat} {L : List (Option Value)} {S : List Value} {m : jM} {x : Int32} (hd : decode M.2.1 pc = .ok (.ineg, 1)) (k : jE B M (pc + 1) L (.int (-x) :: S) m) : jE B M pc L (.int x :: S) m := by
  intro p l e G A s mth args below meth c C X H locs ls hl hP hS
  exact lv_ineg C.1 C.2.1 hd (k p l e G A s mth args below meth c C X H locs ls hl hP hS)
theorem e_idiv {B : jMode} {M : jMeth} {pc : Nat} {L : List (Option Value)} {S : List Value} {m : jM} {x y : Int32} (hd : decode M.2.1 pc = .ok (.idiv, 1)) (hne : ¬ y = 0) (k : jE B M (pc + 1) L (.int (x / y) :: S) m) : jE B M pc L (.int y :: .int x :: S) m := by
  intro p l e G A s mth args below meth c C X H locs ls hl hP hS
  exact lv_idiv C.1 C.2.1 hd hne (k p l e G A s mth args below meth c C X H locs ls hl hP hS)
theorem e_irem {B : jMode} {M : jMeth} {pc : Nat} {L : List (Option Value)} {S : List Value} {m : jM} {x y : Int32} (hd : decode M.2.1 pc = .ok (.irem, 1)) (hne : ¬ y = 0) (k : jE B M (pc + 1) L (.int (x - x / y * y) :: S) m) : jE B M pc L (.int y :: .int x :: S) m := by
  intro p l e G A s mth args below meth c C X H locs ls hl hP hS
  exact lv_irem C.1 C.2.1 hd hne (k p l e G A s mth args below meth c C X H locs ls hl hP hS)
theorem e_i2l {B : jMode} {M : jMeth} {pc : Nat} {L : List (Option Value)} {S : List Value} {m : jM} {x : Int32} (hd : decode M.2.1 pc = .ok (.i2l, 1)) (k : jE B M (pc + 1) L (.long x.toInt64 :: S) m) : jE B M pc L (.int x :: S) m := by
  intro p l e G A s mth args below meth c C X H locs ls hl hP hS
  exact lv_i2l C.1 C.2.1 hd rfl (k p l e G A s mth args below meth c C X H locs ls hl hP hS)
theorem e_i2b {B : jMode} {M : jMeth} {pc : Nat} {L : List (Option Value)} {S : List Value} {m : jM} {x : Int32} (hd : decode M.2.1 pc = .ok (.i2b, 1)) (k : jE B M (pc + 1) L (.int x.toInt8.toInt32 :: S) m) : jE B M pc L (.int x :: S) m := by
  intro p l e G A s mth args below meth c C X H locs ls hl hP hS
  exact lv_i2b C.1 C.2.1 hd rfl (k p l e G A s mth args below meth c C X H locs ls hl hP hS)
theorem e_i2s {B : jMode} {M : jMeth} {pc : Nat} {L : List (Option Value)} {S : List Value} {m : jM} {x : Int32} (hd : decode M.2.1 pc = .ok (.i2s, 1)) (k : jE B M (pc + 1) L (.int x.toInt16.toInt32 :: S) m) : jE B M pc L (.int x :: S) m := by
  intro p l e G A s mth args below meth c C X H locs ls hl hP hS
  exact lv_i2s C.1 C.2.1 hd rfl (k p l e G A s mth args below meth c C X H locs ls hl hP hS)
theorem e_lsub {B : jMode} {M : jMeth} {pc : Nat} {L : List (Option Value)} {S : List Value} {m : jM} {x y : Int64} (hd : decode M.2.1 pc = .ok (.lsub, 1)) (k : jE B M (pc + 1) L (.long (x - y) :: S) m) : jE B M pc L (.long y :: .long x :: S) m := by
  intro p l e G A s mth args below meth c C X H locs ls hl hP hS
  exact lv_lsub C.1 C.2.1 hd (k p l e G A s mth args below meth c C X H locs ls hl hP hS)
theorem e_lcmp {B : jMode} {M : jMeth} {pc : Nat} {L : List (Option Value)} {S : List Value} {m : jM} {x y : Int64} (hd : decode M.2.1 pc = .ok (.lcmp, 1)) (k : jE B M (pc + 1) L (.int (lg_cmp x y) :: S) m) : jE B M pc L (.long y :: .long x :: S) m := by
  intro p l e G A s mth args below meth c C X H locs ls hl hP hS
  exact W.lcmp C.1 C.2.1 hd (k p l e G A s mth args below meth c C X H locs ls hl hP hS)
theorem e_dup {B : jMode} {M : jMeth} {pc : Nat} {L : List (Option Value)} {S : List Value} {m : jM} {v : Value} (hd : decode M.2.1 pc = .ok (.dup, 1)) (hv : v.category = 1) (k : jE B M (pc + 1) L (v :: v :: S) m) : jE B M pc L (v :: S) m := by
  intro p l e G A s mth args below meth c C X H locs ls hl hP hS
  exact lv_dup C.1 C.2.1 hd (by rw [jtr_cat]; exact hv) (k p l e G A s mth args below meth c C X H locs ls hl hP hS)
theorem e_dup2 {B : jMode} {M : jMeth} {pc : Nat} {L : List (Option Value)} {S : List Value} {m : jM} {u v : Value} (hd : decode M.2.1 pc = .ok (.dup2, 1)) (hu : u.category = 1) (hv : v.category = 1) (k : jE B M (pc + 1) L (u :: v :: u :: v :: S) m) : jE B M pc L (u :: v :: S) m := by
  intro p l e G A s mth args below meth c C X H locs ls hl hP hS
  exact lv_dup2_11 C.1 C.2.1 hd (by rw [jtr_cat]; exact hu) (by rw [jtr_cat]; exact hv) (k p l e G A s mth args below meth c C X H locs ls hl hP hS)
theorem e_if_eq {B : jMode} {M : jMeth} {pc : Nat} {L : List (Option Value)} {S : List Value} {m : jM} {x : Int32} {off : Int} (tgt : Nat) (hd : decode M.2.1 pc = .ok (.ifCond .eq off, 3)) (ht : (pc : Int) + off = (tgt : Int)) (kt : x = 0 → jE B M tgt L S m) (kf : ¬ x = 0 → jE B M (pc + 3) L S m) : jE B M pc L (.int x :: S) m := by
  intro p l e G A s mth args below meth c C X H locs ls hl hP hS
  exact lv_if_eq C.1 C.2.1 hd ht (fun h => kt h p l e G A s mth args below meth c C X H locs ls hl hP hS) (fun h => kf h p l e G A s mth args below meth c C X H locs ls hl hP hS)
theorem e_icmp_eq {B : jMode} {M : jMeth} {pc : Nat} {L : List (Option Value)} {S : List Value} {m : jM} {x y : Int32} {off : Int} (tgt : Nat) (hd : decode M.2.1 pc = .ok (.if_icmp .eq off, 3)) (ht : (pc : Int) + off = (tgt : Int)) (kt : x = y → jE B M tgt L S m) (kf : ¬ x = y → jE B M (pc + 3) L S m) : jE B M pc L (.int y :: .int x :: S) m := by
  intro p l e G A s mth args below meth c C X H locs ls hl hP hS
  exact lv_icmp_eq C.1 C.2.1 hd ht (fun h => kt h p l e G A s mth args below meth c C X H locs ls hl hP hS) (fun h => kf h p l e G A s mth args below meth c C X H locs ls hl hP hS)
theorem e_if_ne {B : jMode} {M : jMeth} {pc : Nat} {L : List (Option Value)} {S : List Value} {m : jM} {x : Int32} {off : Int} (tgt : Nat) (hd : decode M.2.1 pc = .ok (.ifCond .ne off, 3)) (ht : (pc : Int) + off = (tgt : Int)) (kt : ¬ x = 0 → jE B M tgt L S m) (kf : x = 0 → jE B M (pc + 3) L S m) : jE B M pc L (.int x :: S) m := by
  intro p l e G A s mth args below meth c C X H locs ls hl hP hS
  exact lv_if_ne C.1 C.2.1 hd ht (fun h => kt h p l e G A s mth args below meth c C X H locs ls hl hP hS) (fun h => kf h p l e G A s mth args below meth c C X H locs ls hl hP hS)
theorem e_icmp_ne {B : jMode} {M : jMeth} {pc : Nat} {L : List (Option Value)} {S : List Value} {m : jM} {x y : Int32} {off : Int} (tgt : Nat) (hd : decode M.2.1 pc = .ok (.if_icmp .ne off, 3)) (ht : (pc : Int) + off = (tgt : Int)) (kt : ¬ x = y → jE B M tgt L S m) (kf : x = y → jE B M (pc + 3) L S m) : jE B M pc L (.int y :: .int x :: S) m := by
  intro p l e G A s mth args below meth c C X H locs ls hl hP hS
  exact lv_icmp_ne C.1 C.2.1 hd ht (fun h => kt h p l e G A s mth args below meth c C X H locs ls hl hP hS) (fun h => kf h p l e G A s mth args below meth c C X H locs ls hl hP hS)
theorem e_if_lt {B : jMode} {M : jMeth} {pc : Nat} {L : List (Option Value)} {S : List Value} {m : jM} {x : Int32} {off : Int} (tgt : Nat) (hd : decode M.2.1 pc = .ok (.ifCond .lt off, 3)) (ht : (pc : Int) + off = (tgt : Int)) (kt : x < 0 → jE B M tgt L S m) (kf : ¬ x < 0 → jE B M (pc + 3) L S m) : jE B M pc L (.int x :: S) m := by
  intro p l e G A s mth args below meth c C X H locs ls hl hP hS
  exact lv_if_lt C.1 C.2.1 hd ht (fun h => kt h p l e G A s mth args below meth c C X H locs ls hl hP hS) (fun h => kf h p l e G A s mth args below meth c C X H locs ls hl hP hS)
theorem e_icmp_lt {B : jMode} {M : jMeth} {pc : Nat} {L : List (Option Value)} {S : List Value} {m : jM} {x y : Int32} {off : Int} (tgt : Nat) (hd : decode M.2.1 pc = .ok (.if_icmp .lt off, 3)) (ht : (pc : Int) + off = (tgt : Int)) (kt : x < y → jE B M tgt L S m) (kf : ¬ x < y → jE B M (pc + 3) L S m) : jE B M pc L (.int y :: .int x :: S) m := by
  intro p l e G A s mth args below meth c C X H locs ls hl hP hS
  exact lv_icmp_lt C.1 C.2.1 hd ht (fun h => kt h p l e G A s mth args below meth c C X H locs ls hl hP hS) (fun h => kf h p l e G A s mth args below meth c C X H locs ls hl hP hS)
theorem e_if_ge {B : jMode} {M : jMeth} {pc : Nat} {L : List (Option Value)} {S : List Value} {m : jM} {x : Int32} {off : Int} (tgt : Nat) (hd : decode M.2.1 pc = .ok (.ifCond .ge off, 3)) (ht : (pc : Int) + off = (tgt : Int)) (kt : 0 ≤ x → jE B M tgt L S m) (kf : ¬ 0 ≤ x → jE B M (pc + 3) L S m) : jE B M pc L (.int x :: S) m := by
  intro p l e G A s mth args below meth c C X H locs ls hl hP hS
  exact lv_if_ge C.1 C.2.1 hd ht (fun h => kt h p l e G A s mth args below meth c C X H locs ls hl hP hS) (fun h => kf h p l e G A s mth args below meth c C X H locs ls hl hP hS)
theorem e_icmp_ge {B : jMode} {M : jMeth} {pc : Nat} {L : List (Option Value)} {S : List Value} {m : jM} {x y : Int32} {off : Int} (tgt : Nat) (hd : decode M.2.1 pc = .ok (.if_icmp .ge off, 3)) (ht : (pc : Int) + off = (tgt : Int)) (kt : y ≤ x → jE B M tgt L S m) (kf : ¬ y ≤ x → jE B M (pc + 3) L S m) : jE B M pc L (.int y :: .int x :: S) m := by
  intro p l e G A s mth args below meth c C X H locs ls hl hP hS
  exact lv_icmp_ge C.1 C.2.1 hd ht (fun h => kt h p l e G A s mth args below meth c C X H locs ls hl hP hS) (fun h => kf h p l e G A s mth args below meth c C X H locs ls hl hP hS)
theorem e_if_gt {B : jMode} {M : jMeth} {pc : Nat} {L : List (Option Value)} {S : List Value} {m : jM} {x : Int32} {off : Int} (tgt : Nat) (hd : decode M.2.1 pc = .ok (.ifCond .gt off, 3)) (ht : (pc : Int) + off = (tgt : Int)) (kt : 0 < x → jE B M tgt L S m) (kf : ¬ 0 < x → jE B M (pc + 3) L S m) : jE B M pc L (.int x :: S) m := by
  intro p l e G A s mth args below meth c C X H locs ls hl hP hS
  exact lv_if_gt C.1 C.2.1 hd ht (fun h => kt h p l e G A s mth args below meth c C X H locs ls hl hP hS) (fun h => kf h p l e G A s mth args below meth c C X H locs ls hl hP hS)
theorem e_icmp_gt {B : jMode} {M : jMeth} {pc : Nat} {L : List (Option Value)} {S : List Value} {m : jM} {x y : Int32} {off : Int} (tgt : Nat) (hd : decode M.2.1 pc = .ok (.if_icmp .gt off, 3)) (ht : (pc : Int) + off = (tgt : Int)) (kt : y < x → jE B M tgt L S m) (kf : ¬ y < x → jE B M (pc + 3) L S m) : jE B M pc L (.int y :: .int x :: S) m := by
  intro p l e G A s mth args below meth c C X H locs ls hl hP hS
  exact lv_icmp_gt C.1 C.2.1 hd ht (fun h => kt h p l e G A s mth args below meth c C X H locs ls hl hP hS) (fun h => kf h p l e G A s mth args below meth c C X H locs ls hl hP hS)
theorem e_if_le {B : jMode} {M : jMeth} {pc : Nat} {L : List (Option Value)} {S : List Value} {m : jM} {x : Int32} {off : Int} (tgt : Nat) (hd : decode M.2.1 pc = .ok (.ifCond .le off, 3)) (ht : (pc : Int) + off = (tgt : Int)) (kt : x ≤ 0 → jE B M tgt L S m) (kf : ¬ x ≤ 0 → jE B M (pc + 3) L S m) : jE B M pc L (.int x :: S) m := by
  intro p l e G A s mth args below meth c C X H locs ls hl hP hS
  exact lv_if_le C.1 C.2.1 hd ht (fun h => kt h p l e G A s mth args below meth c C X H locs ls hl hP hS) (fun h => kf h p l e G A s mth args below meth c C X H locs ls hl hP hS)
theorem e_icmp_le {B : jMode} {M : jMeth} {pc : Nat} {L : List (Option Value)} {S : List Value} {m : jM} {x y : Int32} {off : Int} (tgt : Nat) (hd : decode M.2.1 pc = .ok (.if_icmp .le off, 3)) (ht : (pc : Int) + off = (tgt : Int)) (kt : x ≤ y → jE B M tgt L S m) (kf : ¬ x ≤ y → jE B M (pc + 3) L S m) : jE B M pc L (.int y :: .int x :: S) m := by
  intro p l e G A s mth args below meth c C X H locs ls hl hP hS
  exact lv_icmp_le C.1 C.2.1 hd ht (fun h => kt h p l e G A s mth args below meth c C X H locs ls hl hP hS) (fun h => kf h p l e G A s mth args below meth c C X H locs ls hl hP hS)
theorem e_goto {B : jMode} {M : jMeth} {pc : Nat} {L : List (Option Value)} {S : List Value} {m : jM} {off : Int} (tgt : Nat) (hd : decode M.2.1 pc = .ok (.goto off, 3)) (ht : (pc : Int) + off = (tgt : Int)) (k : jE B M tgt L S m) : jE B M pc L S m := by
  intro p l e G A s mth args below meth c C X H locs ls hl hP hS
  exact lv_goto C.1 C.2.1 hd ht (k p l e G A s mth args below meth c C X H locs ls hl hP hS)
theorem e_tsOut {B : jMode} {M : jMeth} {pc : Nat} {L : List (Option Value)} {S : List Value} {m : jM} {dflt lo hi : Int} {offs : Array Int} {len : Nat} {x : Int32} (tgt : Nat) (hd : decode M.2.1 pc = .ok (.tableswitch dflt lo hi offs, len)) (h : x.toInt < lo ∨ hi < x.toInt) (ht : (pc : Int) + dflt = (tgt : Int)) (k : jE B M tgt L S m) : jE B M pc L (.int x :: S) m := by
  intro p l e G A s mth args below meth c C X H locs ls hl hP hS
  exact lv_tableOut C.1 C.2.1 hd h ht (k p l e G A s mth args below meth c C X H locs ls hl hP hS)
theorem e_tsIn {B : jMode} {M : jMeth} {pc : Nat} {L : List (Option Value)} {S : List Value} {m : jM} {dflt lo hi : Int} {offs : Array Int} {len : Nat} {x : Int32} {off : Int} (tgt : Nat) (hd : decode M.2.1 pc = .ok (.tableswitch dflt lo hi offs, len)) (h1 : ¬ x.toInt < lo) (h2 : ¬ hi < x.toInt) (ho : offs[(x.toInt - lo).toNat]? = some off) (ht : (pc : Int) + off = (tgt : Int)) (k : jE B M tgt L S m) : jE B M pc L (.int x :: S) m := by
  intro p l e G A s mth args below meth c C X H locs ls hl hP hS
  exact lv_tableIn C.1 C.2.1 hd h1 h2 ho ht (k p l e G A s mth args below meth c C X H locs ls hl hP hS)
theorem e_iret {M : jMeth} {pc : Nat} {L : List (Option Value)} {m m' : jM} {v : Int32} {r : Option Value} (hd : decode M.2.1 pc = .ok (.ireturn, 1)) (hr : M.2.2.2.1 = some .int) (hv : r = some (.int v)) (hm : m' = m) : jE (jmd M r m') M pc L [.int v] m := by
  intro p l e G A s mth args below meth c C X H locs ls hl hP hS
  subst hv hm
  have X : A = jA G := X
  subst X
  exact W.iret C.1 C.2.1 (C.2.2.2.1.trans hr) (fun t ht hW => ⟨⟨rfl, by rw [ht]; exact hP⟩, hS.F ht⟩) hS.2.2 hd C.2.2.2.2.1
theorem e_zret {M : jMeth} {pc : Nat} {L : List (Option Value)} {m m' : jM} {v : Int32} {r : Option Value} (hd : decode M.2.1 pc = .ok (.ireturn, 1)) (hr : M.2.2.2.1 = some .boolean) (h01 : v = 0 ∨ v = 1) (hv : r = some (.int v)) (hm : m' = m) : jE (jmd M r m') M pc L [.int v] m := by
  intro p l e G A s mth args below meth c C X H locs ls hl hP hS
  subst hv hm
  have X : A = jA G := X
  subst X
  exact W.zret C.1 C.2.1 (C.2.2.2.1.trans hr) (by rcases h01 with rfl | rfl <;> rfl) (fun t ht hW => ⟨⟨rfl, by rw [ht]; exact hP⟩, hS.F ht⟩) hS.2.2 hd C.2.2.2.2.1
theorem e_vret {M : jMeth} {pc : Nat} {L : List (Option Value)} {m m' : jM} {r : Option Value} (hd : decode M.2.1 pc = .ok (.return_, 1)) (hr : M.2.2.2.1 = none) (hv : r = none) (hm : m' = m) : jE (jmd M r m') M pc L [] m := by
  intro p l e G A s mth args below meth c C X H locs ls hl hP hS
  subst hv hm
  have X : A = jA G := X
  subst X
  exact W.vret C.1 C.2.1 (C.2.2.2.1.trans hr) (fun t ht hW => ⟨⟨rfl, by rw [ht]; exact hP⟩, hS.F ht⟩) hS.2.2 hd C.2.2.2.2.1
theorem jent_arr {G : jG} {m : jM} {c k n : Nat} (h : jlay c = (k, n)) (hk : k < 2) : jent G m c = .inl (G.2.1 k, n, .inl (m c)) := by
  unfold jent
  rw [h]
  rw [if_neg (by show ¬ k = 5; omega), if_pos (show k < 2 from hk)]
theorem jent_refs {G : jG} {m : jM} {c k n : Nat} (h : jlay c = (k, n)) (hk : 2 ≤ k) (hk2 : k < 5) : jent G m c = .inl (G.2.1 k, n, .inr (.inr (.inr (.inr (fun j => some (G.2.2 (jtg c j))))))) := by
  unfold jent
  rw [h]
  rw [if_neg (by show ¬ k = 5; omega), if_neg (show ¬ k < 2 by omega)]
theorem jent_obj {G : jG} {m : jM} {c ci : Nat} (h : jlay c = (5, ci)) : jent G m c = .inr (ci, (List.range (jN ci)).map (jfv G m c ci)) := by
  unfold jent
  rw [h]
  rw [if_pos (show (5 : Nat) = 5 from rfl)]
/-- a field link of the tables: in the class 'own', at the place idx of its pool, the field k of the class ci -/
def jFL (own : String) (idx ci k : Nat) : Prop := ∃ (C : String) (T : u_T) (N : Nat), jCl[ci]? = some (C, T, N) ∧ jN ci = N ∧ k < N ∧ (T k).1 = C ∧ Cond.fieldLink own idx C (T k).2.1 (T k).2.2.1 ∈ wsL_law
theorem jin {ci : Nat} {C : String} {T : u_T} {N : Nat} (h : jCl[ci]? = some (C, T, N)) : ∀ w ∈ u_ws C T N, w ∈ wsL_law := by
  match ci, h with
  | 0, h => cases h; exact inlX0
  | 1, h => cases h; exact inlX1
  | 2, h => cases h; exact inlX2
  | 3, h => cases h; exact inlX3
  | 4, h => cases h; exact inlX4
  | n + 5, h => simp [jCl] at h
theorem e_getI {B : jMode} {M : jMeth} {pc : Nat} {L : List (Option Value)} {S : List Value} {m : jM} {index a ci f : Nat} (hd : decode M.2.1 pc = .ok (.getfield index, 3)) (hf : jFL M.2.2.2.2.1 index ci f) (ha : jlay a = (5, ci)) (hi : jfo ci f = 0) (k : jE B M (pc + 3) L (.int (m a f) :: S) m) : jE B M pc L (.ref a :: S) m := by
  intro p l e G A s mth args below meth c C X H locs ls hl hP hS
  obtain ⟨Cn, T, N, h1, h1b, h2, h3, h4⟩ := hf
  refine va_get (own := M.2.2.2.2.1) (ref := Cn) (v := .int (m a f)) C.1 C.2.1 C.2.2.2.2.2.2.1 (jin h1) C.2.2.2.2.2.1 C.2.2.2.2.2.2.2.1 hP a ((jw_get G m (jlay_lt ha (by omega))).trans (by rw [jent_obj ha])) h1 f h2 (C.2.2.2.2.2.2.1 _ h4) (fun x h => by rw [h3] at h; exact h) ?_ hd (k p l e G A s mth args below meth c C X H locs ls hl hP hS)
  rw [List.getElem?_map, List.getElem?_range (by omega), Option.map_some]
  unfold jfv
  rw [if_pos hi]
theorem e_getR {B : jMode} {M : jMeth} {pc : Nat} {L : List (Option Value)} {S : List Value} {m : jM} {index a ci f o : Nat} (hd : decode M.2.1 pc = .ok (.getfield index, 3)) (hf : jFL M.2.2.2.2.1 index ci f) (ha : jlay a = (5, ci)) (hi : jfo ci f = o) (ho : o ≠ 0) {b : Nat} (hb : a + o = b) (k : jE B M (pc + 3) L (.ref b :: S) m) : jE B M pc L (.ref a :: S) m := by
  intro p l e G A s mth args below meth c C X H locs ls hl hP hS
  obtain ⟨Cn, T, N, h1, h1b, h2, h3, h4⟩ := hf
  subst hb
  refine va_get (own := M.2.2.2.2.1) (ref := Cn) (v := .ref (G.2.2 (a + o))) C.1 C.2.1 C.2.2.2.2.2.2.1 (jin h1) C.2.2.2.2.2.1 C.2.2.2.2.2.2.2.1 hP a ((jw_get G m (jlay_lt ha (by omega))).trans (by rw [jent_obj ha])) h1 f h2 (C.2.2.2.2.2.2.1 _ h4) (fun x h => by rw [h3] at h; exact h) ?_ hd (k p l e G A s mth args below meth c C X H locs ls hl hP hS)
  rw [List.getElem?_map, List.getElem?_range (by omega), Option.map_some]
  unfold jfv
  rw [hi, if_neg ho]
def jty (ci : Nat) : Nat → FieldType := match ci with
  | 0 => tyX0
  | 1 => tyX1
  | 2 => tyX2
  | 3 => tyX3
  | _ => tyX4
theorem jty_ok {ci : Nat} {C : String} {T : u_T} {N : Nat} (h : jCl[ci]? = some (C, T, N)) : (∀ k, k < N → parseFieldDescriptor (T k).2.2.1 = some (jty ci k)) ∧ ∀ a, a < N → ∀ b, b < N → a ≠ b → (T a).2.1 ≠ (T b).2.1 := by
  match ci, h with
  | 0, h => cases h; exact ⟨tyX0_ok, nmX0⟩
  | 1, h => cases h; exact ⟨tyX1_ok, nmX1⟩
  | 2, h => cases h; exact ⟨tyX2_ok, nmX2⟩
  | 3, h => cases h; exact ⟨tyX3_ok, nmX3⟩
  | 4, h => cases h; exact ⟨tyX4_ok, nmX4⟩
  | n + 5, h => simp [jCl] at h
/-- a number's field is written: not final, an int or a boolean -/
def jFW (ci k : Nat) : Prop := ∀ (C : String) (T : u_T) (N : Nat), jCl[ci]? = some (C, T, N) → (T k).2.2.2 = false
theorem jfv_set {G : jG} {m : jM} {a ci f : Nat} {x : Int32} (hi : jfo ci f = 0) (hf : f < jN ci) : ((List.range (jN ci)).map (jfv G m a ci)).set f (.int x) = (List.range (jN ci)).map (jfv G (jup m a (upd (m a) f x)) a ci) := by
  apply List.ext_getElem?
  intro i
  by_cases h : i < jN ci
  · rw [List.getElem?_map, List.getElem?_range h, Option.map_some]
    by_cases e : i = f
    · subst e
      rw [List.getElem?_set_self (by simpa using h)]
      unfold jfv
      rw [if_pos hi, jup_s]
      simp [upd]
    · rw [List.getElem?_set_ne (Ne.symm e), List.getElem?_map, List.getElem?_range h, Option.map_some]
      unfold jfv
      rw [jup_s]
      simp [upd, e]
  · rw [List.getElem?_eq_none (by simpa using h), List.getElem?_eq_none (by simpa using h)]
theorem e_putI {B : jMode} {M : jMeth} {pc : Nat} {L : List (Option Value)} {S : List Value} {m : jM} {index a ci f : Nat} {x : Int32} (hd : decode M.2.1 pc = .ok (.putfield index, 3)) (hf : jFL M.2.2.2.2.1 index ci f) (ha : jlay a = (5, ci)) (hi : jfo ci f = 0) (hw : jFW ci f) (ht : jty ci f = .int ∨ (jty ci f = .boolean ∧ (x = 0 ∨ x = 1))) (k : ∀ m1 : jM, m1 = jup m a (upd (m a) f x) → jE B M (pc + 3) L S m1) : jE B M pc L (.int x :: .ref a :: S) m := by
  intro p l e G A s mth args below meth c C X H locs ls hl hP hS
  obtain ⟨Cn, T, N, h1, h1b, h2, h3, h4⟩ := hf
  obtain ⟨g1, g2⟩ := jty_ok h1
  have hn : narrow (jty ci f) (.int x) = .int x ∧ fits (jty ci f) (.int x) = true := by
    rcases ht with h | ⟨h, h0⟩
    · rw [h]; exact ⟨rfl, rfl⟩
    · rw [h]
      rcases h0 with rfl | rfl <;> exact ⟨rfl, rfl⟩
  refine va_put (own := M.2.2.2.2.1) (ref := Cn) (v := .int x) (ty := jty ci f) C.1 C.2.1 C.2.2.2.2.2.2.1 (jin h1) (jty ci) g1 g2 C.2.2.2.2.2.1 C.2.2.2.2.2.2.2.1 hP (jw_D C.2.2.2.2.2.2.2.2.2.1 C.2.2.2.2.2.2.2.2.2.2) hS a ((jw_get G m (jlay_lt ha (by omega))).trans (by rw [jent_obj ha])) h1 f h2 (C.2.2.2.2.2.2.1 _ h4) (fun x h => by rw [h3] at h; exact h) (hw _ _ _ h1) (g1 f h2) hn.1 hn.2 (by simpa [h1b] using h2) hd (fun H1 locs1 hP1 hD1 hS1 => ?_)
  refine k _ rfl p l e G A s mth args below meth c C X H1 locs1 ls hl ?_ hS1
  have e2 : (jw G m).set a (G.2.2 a, .inr (ci, ((List.range (jN ci)).map (jfv G m a ci)).set f (.int x))) = jw G (jup m a (upd (m a) f x)) := jw_set (by rw [jent_obj ha, jfv_set hi (by omega)])
  rw [← e2]
  exact hP1
theorem e_iald {B : jMode} {M : jMeth} {pc : Nat} {L : List (Option Value)} {S : List Value} {m : jM} {a n : Nat} {i : Int32} (hd : decode M.2.1 pc = .ok (.iaload, 1)) (ha : jlay a = (0, n)) (j : Nat) (hi : i = nI j) (hj : j < n) (hn : n < 2 ^ 31) (k : jE B M (pc + 1) L (.int (m a j) :: S) m) : jE B M pc L (.int i :: .ref a :: S) m := by
  intro p l e G A s mth args below meth c C X H locs ls hl hP hS
  subst hi
  refine va_iald C.1 C.2.1 C.2.2.2.2.2.2.2.1 hP a 0 ((jw_get G m (jlay_lt ha (by omega))).trans (by rw [jent_arr ha (by omega)])) rfl (vp_in_nI hj hn) hd ?_
  rw [nI_clamp (by omega)]
  exact k p l e G A s mth args below meth c C X H locs ls hl hP hS
theorem e_zald {B : jMode} {M : jMeth} {pc : Nat} {L : List (Option Value)} {S : List Value} {m : jM} {a n : Nat} {i : Int32} (hd : decode M.2.1 pc = .ok (.baload, 1)) (ha : jlay a = (1, n)) (j : Nat) (hi : i = nI j) (hj : j < n) (hn : n < 2 ^ 31) (k : jE B M (pc + 1) L (.int (m a j) :: S) m) : jE B M pc L (.int i :: .ref a :: S) m := by
  intro p l e G A s mth args below meth c C X H locs ls hl hP hS
  subst hi
  refine va_zald C.1 C.2.1 C.2.2.2.2.2.2.2.1 hP a 1 ((jw_get G m (jlay_lt ha (by omega))).trans (by rw [jent_arr ha (by omega)])) rfl (vp_in_nI hj hn) hd ?_
  rw [nI_clamp (by omega)]
  exact k p l e G A s mth args below meth c C X H locs ls hl hP hS
theorem e_aald {B : jMode} {M : jMeth} {pc : Nat} {L : List (Option Value)} {S : List Value} {m : jM} {a kd n : Nat} {i : Int32} (hd : decode M.2.1 pc = .ok (.aaload, 1)) (ha : jlay a = (kd, n)) (hk : 2 ≤ kd ∧ kd < 5) (j : Nat) (hi : i = nI j) (hj : j < n) (hn : n < 2 ^ 31) {b : Nat} (hb : jtg a j = b) (k : jE B M (pc + 1) L (.ref b :: S) m) : jE B M pc L (.int i :: .ref a :: S) m := by
  intro p l e G A s mth args below meth c C X H locs ls hl hP hS
  subst hi
  subst hb
  have hin : vp_in (nI j) n := vp_in_nI hj hn
  have hcl : (nI j).toNatClampNeg = j := nI_clamp (by omega)
  have hc : H[G.2.2 a]? = some (vp_cell (G.2.1 kd) (n, .inr (.inr (.inr (.inr (fun j => some (G.2.2 (jtg a j)))))))) := by
    have := hP a _ ((jw_get G m (jlay_lt ha (by omega))).trans (by rw [jent_refs ha hk.1 hk.2]))
    exact this
  obtain ⟨ty, t0, ht, hr⟩ : ∃ (ty : FieldType) (t0 : Nat), (jtys G)[t0]? = some (G.2.1 kd, ty) ∧ ty.isReference = true := by
    have : kd = 2 ∨ kd = 3 ∨ kd = 4 := by omega
    rcases this with rfl | rfl | rfl
    · exact ⟨_, 2, rfl, rfl⟩
    · exact ⟨_, 3, rfl, rfl⟩
    · exact ⟨_, 4, rfl, rfl⟩
  refine W.aald (v := .ref (G.2.2 (jtg a j))) (ty := ty) C.1 C.2.1 hc ((C.2.2.2.2.2.2.2.1.2 t0 _ ht).1 n (fun j => va_rf (some (G.2.2 (jtg a j))))) hr (fun q => by cases q) (by show ¬ (nI j < 0 ∨ (arrV _ _ _).slots.size ≤ _); rw [arrV_size]; exact hin) (by show (arrV _ _ _).slots[_]? = _; rw [arrV_read _ _ (by rw [hcl]; exact hj), hcl]; rfl) rfl rfl hd (k p l e G A s mth args below meth c C X H locs ls hl hP hS)
theorem e_iast {B : jMode} {M : jMeth} {pc : Nat} {L : List (Option Value)} {S : List Value} {m : jM} {a n : Nat} {i x : Int32} (hd : decode M.2.1 pc = .ok (.iastore, 1)) (ha : jlay a = (0, n)) (j : Nat) (hi : i = nI j) (hj : j < n) (hn : n < 2 ^ 31) (k : ∀ m1 : jM, m1 = jup m a (upd (m a) j x) → jE B M (pc + 1) L S m1) : jE B M pc L (.int x :: .int i :: .ref a :: S) m := by
  intro p l e G A s mth args below meth c C X H locs ls hl hP hS
  subst hi
  refine va_iast C.1 C.2.1 C.2.2.2.2.2.2.2.1 hP (jw_D C.2.2.2.2.2.2.2.2.2.1 C.2.2.2.2.2.2.2.2.2.2) hS a 0 ((jw_get G m (jlay_lt ha (by omega))).trans (by rw [jent_arr ha (by omega)])) rfl (vp_in_nI hj hn) hd (fun H1 locs1 hP1 hD1 hS1 => ?_)
  rw [nI_clamp (by omega)] at hP1
  refine k _ rfl p l e G A s mth args below meth c C X H1 locs1 ls hl ?_ hS1
  have e2 : (jw G m).set a (G.2.2 a, .inl (G.2.1 0, n, .inl (upd (m a) j x))) = jw G (jup m a (upd (m a) j x)) := jw_set (by rw [jent_arr ha (by omega), jup_s])
  rw [← e2]
  exact hP1
theorem e_zast {B : jMode} {M : jMeth} {pc : Nat} {L : List (Option Value)} {S : List Value} {m : jM} {a n : Nat} {i x : Int32} (hd : decode M.2.1 pc = .ok (.bastore, 1)) (ha : jlay a = (1, n)) (j : Nat) (hi : i = nI j) (hj : j < n) (hn : n < 2 ^ 31) (hx : x = 0 ∨ x = 1) (k : ∀ m1 : jM, m1 = jup m a (upd (m a) j x) → jE B M (pc + 1) L S m1) : jE B M pc L (.int x :: .int i :: .ref a :: S) m := by
  intro p l e G A s mth args below meth c C X H locs ls hl hP hS
  subst hi
  refine va_zast C.1 C.2.1 C.2.2.2.2.2.2.2.1 hP (jw_D C.2.2.2.2.2.2.2.2.2.1 C.2.2.2.2.2.2.2.2.2.2) hS a 1 ((jw_get G m (jlay_lt ha (by omega))).trans (by rw [jent_arr ha (by omega)])) rfl (vp_in_nI hj hn) hd (fun H1 locs1 hP1 hD1 hS1 => ?_)
  rw [nI_clamp (by omega), show vp_nar .boolean x = x by rcases hx with rfl | rfl <;> rfl] at hP1
  refine k _ rfl p l e G A s mth args below meth c C X H1 locs1 ls hl ?_ hS1
  have e2 : (jw G m).set a (G.2.2 a, .inl (G.2.1 1, n, .inl (upd (m a) j x))) = jw G (jup m a (upd (m a) j x)) := jw_set (by rw [jent_arr ha (by omega), jup_s])
  rw [← e2]
  exact hP1
theorem e_alen {B : jMode} {M : jMeth} {pc : Nat} {L : List (Option Value)} {S : List Value} {m : jM} {a n : Nat} (hd : decode M.2.1 pc = .ok (.arraylength, 1)) (ha : jlay a = (0, n)) (k : jE B M (pc + 1) L (.int (nI n) :: S) m) : jE B M pc L (.ref a :: S) m := by
  intro p l e G A s mth args below meth c C X H locs ls hl hP hS
  exact va_alen (v := nI n) C.1 C.2.1 C.2.2.2.2.2.2.2.1 hP a 0 ((jw_get G m (jlay_lt ha (by omega))).trans (by rw [jent_arr ha (by omega)])) rfl rfl hd (k p l e G A s mth args below meth c C X H locs ls hl hP hS)
theorem e_copy {B : jMode} {M : jMeth} {pc : Nat} {L : List (Option Value)} {S : List Value} {m : jM} {index a b na nb : Nat} {i j n : Int32} (hd : decode M.2.1 pc = .ok (.invokestatic index, 3)) (hlk : Cond.methodLink M.2.2.2.2.1 index arraycopyName ∈ wsL_law) (ha : jlay a = (0, na)) (hb : jlay b = (0, nb)) (i' j' n' : Nat) (hi : i = nI i') (hj : j = nI j') (hn : n = nI n') (h1 : i' + n' ≤ na) (h2 : j' + n' ≤ nb) (ha2 : na < 2 ^ 31) (hb2 : nb < 2 ^ 31)
    (hfr : 1 ≤ B.1.frames) (hlo : (S.map fun v => v.category).sum + (nativeFrameWords "java/lang/System" "arraycopy" 5 + 11) ≤ B.1.locals) (k : ∀ m1 : jM, m1 = jup m b (va_cpy (m a) (m b) i' j' n') → jE B M (pc + 3) L S m1) : jE B M pc L (.int n :: .int j :: .ref b :: .int i :: .ref a :: S) m := by
  intro p l e G A s mth args below meth c C X H locs ls hl hP hS
  subst hi hj hn
  have ci : (nI i').toNatClampNeg = i' := nI_clamp (by omega)
  have cj : (nI j').toNatClampNeg = j' := nI_clamp (by omega)
  have cn : (nI n').toNatClampNeg = n' := nI_clamp (by omega)
  have hcat : ((S.map (jtr G)).map fun v => v.category).sum = (S.map fun v => v.category).sum := by
    rw [List.map_map]
    congr 1
    exact List.map_congr_left (fun v _ => jtr_cat G v)
  refine va_copyi C.1 C.2.1 (by rw [C.2.2.1, hl.1]) C.2.2.2.2.2.1 (C.2.2.2.2.2.2.1 _ hlk) (C.2.2.2.2.2.2.1 _ jw_native) (C.2.2.2.2.2.2.1 _ jw_static) (C.2.2.2.2.2.2.1 _ jw_system) C.2.2.2.2.2.2.2.1 hP (jw_D C.2.2.2.2.2.2.2.2.2.1 C.2.2.2.2.2.2.2.2.2.2) hS a b 0 0 ((jw_get G m (jlay_lt ha (by omega))).trans (by rw [jent_arr ha (by omega)])) ((jw_get G m (jlay_lt hb (by omega))).trans (by rw [jent_arr hb (by omega)])) rfl rfl rfl (nI_pos (by omega)) (nI_pos (by omega)) (nI_pos (by omega)) (by rw [ci, cn]; exact h1) (by rw [cj, cn]; exact h2) (fun _ _ => rfl) hfr (by rw [hcat]; exact hlo) hd (fun H1 locs1 hP1 hD1 hS1 => ?_)
  rw [ci, cj, cn] at hP1
  refine k _ rfl p l e G A s mth args below meth c C X H1 locs1 ls hl ?_ hS1
  have e2 : (jw G m).set b (G.2.2 b, .inl (G.2.1 0, nb, .inl (va_cpy (m a) (m b) i' j' n'))) = jw G (jup m b (va_cpy (m a) (m b) i' j' n')) := jw_set (by rw [jent_arr hb (by omega), jup_s])
  rw [← e2]
  exact hP1
/-- the table NEAREST: the cell 113, that nobody writes -/
theorem e_near {B : jMode} {M : jMeth} {pc : Nat} {L : List (Option Value)} {S : List Value} {m : jM} {index : Nat} (hd : decode M.2.1 pc = .ok (.getstatic index, 3)) (hlk : Cond.fieldLink M.2.2.2.2.1 index "JamSongs" "NEAREST" "[I" ∈ wsL_law) (k : jE B M (pc + 3) L (.ref 113 :: S) m) : jE B M pc L S m := by
  intro p l e G A s mth args below meth c C X H locs ls hl hP hS
  exact va_gets C.1 C.2.1 C.2.2.2.2.2.2.2.2.1.1 hS C.2.2.2.2.2.1 (C.2.2.2.2.2.2.1 _ hlk) (fun _ h => h) hd (k p l e G A s mth args below meth c C X H locs ls hl hP hS)
theorem e_nlen {B : jMode} {M : jMeth} {pc : Nat} {L : List (Option Value)} {S : List Value} {m : jM} (hd : decode M.2.1 pc = .ok (.arraylength, 1)) (k : jE B M (pc + 1) L (.int 6 :: S) m) : jE B M pc L (.ref 113 :: S) m := by
  intro p l e G A s mth args below meth c C X H locs ls hl hP hS
  obtain ⟨cell, h1, h2, h3, h4, h5, h6, h7⟩ := C.2.2.2.2.2.2.2.2.1.2
  exact W.alen (n := 6) C.1 C.2.1 ((hS.2.1 _ (Array.getElem?_eq_some_iff.mp h1).1 h7).trans h1) h2 h5 rfl rfl hd (k p l e G A s mth args below meth c C X H locs ls hl hP hS)
theorem e_nld {B : jMode} {M : jMeth} {pc : Nat} {L : List (Option Value)} {S : List Value} {m : jM} {i : Int32} (hd : decode M.2.1 pc = .ok (.iaload, 1)) (j : Nat) (hi : i = nI j) (hj : j < 6) (k : jE B M (pc + 1) L (.int (jnear j) :: S) m) : jE B M pc L (.int i :: .ref 113 :: S) m := by
  intro p l e G A s mth args below meth c C X H locs ls hl hP hS
  subst hi
  obtain ⟨cell, h1, h2, h3, h4, h5, h6, h7⟩ := C.2.2.2.2.2.2.2.2.1.2
  have hcl : (nI j).toNatClampNeg = j := nI_clamp (by omega)
  exact W.iald (v := .int (jnear j)) C.1 C.2.1 ((hS.2.1 _ (Array.getElem?_eq_some_iff.mp h1).1 h7).trans h1) h2 h3 (fun q => by rcases q with q | q; exact nI_pos (by omega) q; omega) (by rw [hcl]; exact h6 j hj) rfl rfl hd (k p l e G A s mth args below meth c C X H locs ls hl hP hS)
/-! calls -/
def jCS (own : String) (idx : Nat) (M' : jMeth) : Prop := Cond.methodLink own idx M'.1 ∈ wsL_law ∧ Cond.static M'.1 ∈ wsL_law ∧ Cond.initialized M'.1.cls ∈ wsL_law ∧ Cond.code M'.1 M'.2.1 M'.2.2.1 M'.2.2.2.1 ∈ wsL_law
def jCV (own : String) (idx : Nat) (M' : jMeth) : Prop := Cond.methodLink own idx M'.1 ∈ wsL_law ∧ Cond.instanceMethod M'.1 ∈ wsL_law ∧ Cond.selects M'.1.cls M'.1 M'.1 ∈ wsL_law ∧ Cond.initialized M'.1.cls ∈ wsL_law ∧ Cond.code M'.1 M'.2.1 M'.2.2.1 M'.2.2.2.1 ∈ wsL_law
def jar (M' : jMeth) (n : Nat) : Bool := decide (M'.1.cls ≠ "java/lang/invoke/MethodHandle") && decide (M'.1.cls ≠ "java/lang/invoke/VarHandle") && decide ((parseMethodDescriptor M'.1.desc).map (fun d => d.parameters.length) = some n)
theorem jar_ok {M' : jMeth} {n : Nat} (h : jar M' n = true) : M'.1.cls ≠ "java/lang/invoke/MethodHandle" ∧ M'.1.cls ≠ "java/lang/invoke/VarHandle" ∧ (parseMethodDescriptor M'.1.desc).map (fun d => d.parameters.length) = some n := by
  unfold jar at h
  rw [Bool.and_eq_true, Bool.and_eq_true] at h
  exact ⟨of_decide_eq_true h.1.1, of_decide_eq_true h.1.2, of_decide_eq_true h.2⟩
theorem jPc_blind (G : jG) (as : List Value) (m : jM) : FrameBlind (jPc G as m) := by
  intro a U g mk q
  obtain ⟨e, hP, hK, hN, hI⟩ := q
  exact ⟨e, hP, va_K.moved (u := U) (U := U.calling g mk a) (Vm.Alike.refl U.vm) hK, ⟨va_Z.moved (u := U) (U := U.calling g mk a) (Vm.Alike.refl U.vm) hN.1, va_T.moved (u := U) (U := U.calling g mk a) (Vm.Alike.refl U.vm) hN.2⟩, hI⟩
theorem jNear_at {G : jG} {A : Nat → Prop} {s U : State} {H : Heap} {locs : List Loc} (h : jNear G A s s.heap) (hS : va_S A s.heap H locs) (hA : ∀ q, jA G q → A q) (hU : U.heap = H) (hvm : s.vm.Alike U.vm) : jNear G (jA G) U U.heap := by
  subst hU
  exact ⟨((h.1.kept (fun a h1 h2 => hS.2.1 a h1 h2)).narrow hA).moved hvm, ((h.2.kept (fun a h1 h2 => hS.2.1 a h1 h2)).narrow hA).moved hvm⟩
theorem e_run {B : jMode} {M : jMeth} {pc : Nat} {L : List (Option Value)} {S st0 : List Value} {m1 : jM} {r : Option Value} {as : Array Value} {p : Program} {l : Launch} {e : Env} {G : jG} {A : Nat → Prop} {s : State} {mth : MethodId} {args : Array Value} {below : List Frame} {meth : Method} {c : Code} (C : jC G A M p s mth args meth c) (X : B.2.2.2.2 G s A) {H : Heap} {locs : List Loc} {ls : Array Slot} (hl : jlv G ls M.2.2.1 L) (hS : va_S A s.heap H locs)
    (hr : va_Run p l e B.1 s mth args below meth c H locs B.2.1 B.2.2.1 0 0 (F0 mth pc ls st0) (S.map (jtr G)) (jQc G r m1 as) (jA G)) (k : jE B M (pc + 3) L (r.toList ++ S) m1) : W p l e B.1 s mth args below meth c H locs B.2.1 B.2.2.1 (B.2.2.2.1 G s A args below) (F0 mth pc ls st0) := by
  have hA : ∀ q, jA G q → A q := fun q ⟨k, h1, h2⟩ => by rw [h2]; exact C.2.2.2.2.2.2.2.2.2.2 k h1
  intro T hT Xs
  obtain ⟨v, st₀, t, T', L', h0, X', hL, e1, e2, ⟨⟨hv, hp⟩, hz, hk⟩, st⟩ := hr T hT Xs
  have hv : v = r.map (jtr G) := Outcome.returned.inj hv
  subst hv
  rw [h0] at hz hk
  have hS1 : va_S A s.heap T'.heap (locs ++ L') := ⟨Nat.le_trans hS.1 (by rw [e1]; exact hz), fun q h1 h2 => by rw [e1, hk q (Nat.lt_of_lt_of_le h1 hS.1) (fun z => h2 (hA q z))]; exact hS.2.1 q h1 h2, fun q hq => by
      rcases List.mem_append.mp hq with h | h
      · exact hS.2.2 q h
      · exact hA _ (hL q h)⟩
  have e3 : (r.map (jtr G)).toList ++ S.map (jtr G) = (r.toList ++ S).map (jtr G) := by cases r <;> rfl
  have := k p l e G A s mth args below meth c C X T'.heap (locs ++ L') ls hl (by rw [e1]; exact hp) hS1 T' rfl X'
  rw [← e3] at this
  obtain ⟨t2, a1, b1⟩ := this
  exact ⟨t2, st t2 a1, b1⟩
theorem jsum {G : jG} {S : List Value} (h : (S.map fun v => v.category).sum ≤ 8) : ((S.map (jtr G)).map fun v => v.category).sum ≤ 8 := by
  rw [List.map_map]
  have : (S.map ((fun v : Value => v.category) ∘ jtr G)) = S.map fun v => v.category := List.map_congr_left (fun v _ => jtr_cat G v)
  rw [this]
  exact h
def jfit (R : Room) (M' : jMeth) : Bool := Nat.ble (M'.2.2.2.2.2.1 + 1) R.frames && Nat.ble (8 + (M'.2.2.1 + 11) + M'.2.2.2.2.2.2) R.locals
theorem jfit_ok {R : Room} {M' : jMeth} (h : jfit R M' = true) : (jrm M').frames + 1 ≤ R.frames ∧ 8 + (M'.2.2.1 + 11) + (jrm M').locals ≤ R.locals := by
  unfold jfit at h
  rw [Bool.and_eq_true] at h
  exact ⟨Nat.le_of_ble_eq_true h.1, Nat.le_of_ble_eq_true h.2⟩
theorem e_callS {B : jMode} {M : jMeth} (M' : jMeth) {pc : Nat} {L : List (Option Value)} {S st : List Value} {m m1 : jM} {r : Option Value} {index n : Nat} (as : List Value) (hd : decode M.2.1 pc = .ok (.invokestatic index, 3)) (hc : jCS M.2.2.2.2.1 index M') (hn : as.length = n) (har : jar M' n = true) (hfit : jfit B.1 M' = true) (hst : st = as.reverse ++ S) (hsum : (S.map fun v => v.category).sum ≤ 8) (hx : jX M' as m r m1) (k : jE B M (pc + 3) L (r.toList ++ S) m1) (hBc : B.2.1 ≤ B.1.cells ∧ B.2.2.1 ≤ B.1.slots) : jE B M pc L st m := by
  intro p l e G A s mth args below meth c C X H locs ls hl hP hS
  subst hst
  have hA : ∀ q, jA G q → A q := fun q ⟨k, h1, h2⟩ => by rw [h2]; exact C.2.2.2.2.2.2.2.2.2.2 k h1
  have est : (as.reverse ++ S).map (jtr G) = (as.map (jtr G)).reverse ++ S.map (jtr G) := by rw [List.map_append, List.map_reverse]
  rw [est]
  refine e_run C X hl hS (as := (as.map (jtr G)).toArray) ?_ k
  exact va_runS (Ts := wsL_law) (own := M.2.2.2.2.1) (y := M'.1) (bytes := M'.2.1) (maxL := M'.2.2.1) (ret := M'.2.2.2.1) (ws := jws M') (rm := jrm M') (n := n) ⟨C.1, C.2.1, C.2.2.1, C.2.2.2.2.2.1, C.2.2.2.2.2.2.1⟩ (hx l G)
    (va_cwS n C.2.2.2.2.2.2.1 (jgoodIn (fun w hw => by
      rcases List.mem_append.mp hw with h | h
      · simp only [List.mem_cons, List.not_mem_nil, or_false] at h
        rcases h with rfl | rfl | rfl
        · exact hc.1
        · exact hc.2.1
        · exact hc.2.2.1
      · rcases List.mem_cons.mp h with rfl | h
        · exact hc.2.2.2
        · exact h)) rfl rfl rfl (jar_ok har) (jfit_ok hfit))
    ⟨jPc_blind G as m, fun U hU hW => ⟨rfl, by rw [hU]; exact hP, va_K.moved hW.alike C.2.2.2.2.2.2.2.1, jNear_at C.2.2.2.2.2.2.2.2.1 hS hA hU hW.alike, C.2.2.2.2.2.2.2.2.2.1⟩⟩ rfl (by rw [List.length_map]; exact hn) hl.1 rfl (lv_room (jsum hsum)) hd hBc
theorem e_callV {B : jMode} {M : jMeth} (M' : jMeth) {pc : Nat} {L : List (Option Value)} {S st : List Value} {m m1 : jM} {r : Option Value} {index n a ci : Nat} (as : List Value) (hd : decode M.2.1 pc = .ok (.invokevirtual index, 3)) (hc : jCV M.2.2.2.2.1 index M') (hn : as.length = n) (har : jar M' n = true) (hfit : jfit B.1 M' = true) (ha : jlay a = (5, ci)) (hci : (jCl[ci]?).map (fun q => q.1) = some M'.1.cls) (hst : st = as.reverse ++ .ref a :: S) (hsum : (S.map fun v => v.category).sum ≤ 8) (hx : jX M' (.ref a :: as) m r m1) (k : jE B M (pc + 3) L (r.toList ++ S) m1) (hBc : B.2.1 ≤ B.1.cells ∧ B.2.2.1 ≤ B.1.slots) : jE B M pc L st m := by
  intro p l e G A s mth args below meth c C X H locs ls hl hP hS
  subst hst
  have hA : ∀ q, jA G q → A q := fun q ⟨k, h1, h2⟩ => by rw [h2]; exact C.2.2.2.2.2.2.2.2.2.2 k h1
  have est : (as.reverse ++ .ref a :: S).map (jtr G) = (as.map (jtr G)).reverse ++ .ref (G.2.2 a) :: S.map (jtr G) := by rw [List.map_append, List.map_reverse]; rfl
  rw [est]
  obtain ⟨cl, hcl⟩ : ∃ q, jCl[ci]? = some q := by
    cases h : jCl[ci]? with
    | none => rw [h] at hci; cases hci
    | some q => exact ⟨q, rfl⟩
  have hcls : cl.1 = M'.1.cls := by rw [hcl] at hci; exact Option.some.inj hci
  have hrecv := va_recv (cl := jCl) C.2.2.2.2.2.2.2.1 hP hcl (q0 := a) ((jw_get G m (jlay_lt ha (by omega))).trans (by rw [jent_obj ha]))
  rw [hcls] at hrecv
  refine e_run C X hl hS (as := (Value.ref (G.2.2 a) :: as.map (jtr G)).toArray) ?_ k
  exact va_runV (Ts := wsL_law) (own := M.2.2.2.2.1) (C := M'.1.cls) (y := M'.1) (bytes := M'.2.1) (maxL := M'.2.2.1) (ret := M'.2.2.2.1) (ws := jws M') (rm := jrm M') (n := n) ⟨C.1, C.2.1, C.2.2.1, C.2.2.2.2.2.1, C.2.2.2.2.2.2.1⟩ (hx l G)
    (cwV n C.2.2.2.2.2.2.1 (jgoodIn (fun w hw => by
      rcases List.mem_append.mp hw with h | h
      · simp only [List.mem_cons, List.not_mem_nil, or_false] at h
        rcases h with rfl | rfl | rfl | rfl
        · exact hc.1
        · exact hc.2.1
        · exact hc.2.2.1
        · exact hc.2.2.2.1
      · rcases List.mem_cons.mp h with rfl | h
        · exact hc.2.2.2.2
        · exact h)) rfl rfl rfl ⟨rfl, jar_ok har⟩ (jfit_ok hfit))
    ⟨jPc_blind G (.ref a :: as) m, hrecv, fun U hU hW => ⟨rfl, by rw [hU]; exact hP, va_K.moved hW.alike C.2.2.2.2.2.2.2.1, jNear_at C.2.2.2.2.2.2.2.2.1 hS hA hU hW.alike, C.2.2.2.2.2.2.2.2.2.1⟩⟩ rfl (by rw [List.length_map]; exact hn) hl.1 rfl (lv_room (jsum hsum)) hd hBc
end
