section
-- ===== PART A: goes FIRST, ahead of the names: the tables' words, and 'selects' of the private methods out of them =====
/-- a private method of a class that the tables say can be made, by its rows of tables_1 -/
def lw_okq (q : MethodName × Nat) : Prop := (q.1.cls ≠ "java/lang/invoke/MethodHandle" ∧ q.1.cls ≠ "java/lang/invoke/VarHandle") ∧ Cond.instantiable q.1.cls q.2 ∈ tables_1 ∧ Cond.privateMethod q.1 ∈ tables_1 ∧ Cond.instanceMethod q.1 ∈ tables_1
theorem lw_p0 : lw_okq (⟨"JamSongs", "found", "(I)I"⟩, 18) := ⟨⟨by decide +kernel, by decide +kernel⟩, List.mem_of_getElem? (i := 11) (by decide +kernel), List.mem_of_getElem? (i := 219) (by decide +kernel), List.mem_of_getElem? (i := 220) (by decide +kernel)⟩
theorem lw_p1 : lw_okq (⟨"JamSongs", "fine", "(I)I"⟩, 18) := ⟨⟨by decide +kernel, by decide +kernel⟩, List.mem_of_getElem? (i := 11) (by decide +kernel), List.mem_of_getElem? (i := 231) (by decide +kernel), List.mem_of_getElem? (i := 232) (by decide +kernel)⟩
theorem lw_p2 : lw_okq (⟨"JamSongs$Tape", "step", "()V"⟩, 7) := ⟨⟨by decide +kernel, by decide +kernel⟩, List.mem_of_getElem? (i := 21) (by decide +kernel), List.mem_of_getElem? (i := 277) (by decide +kernel), List.mem_of_getElem? (i := 278) (by decide +kernel)⟩
theorem lw_p3 : lw_okq (⟨"JamSongs$Tape", "stepNumber", "()V"⟩, 7) := ⟨⟨by decide +kernel, by decide +kernel⟩, List.mem_of_getElem? (i := 21) (by decide +kernel), List.mem_of_getElem? (i := 284) (by decide +kernel), List.mem_of_getElem? (i := 285) (by decide +kernel)⟩
theorem lw_p4 : lw_okq (⟨"JamSongs$Tape", "take", "(I)V"⟩, 7) := ⟨⟨by decide +kernel, by decide +kernel⟩, List.mem_of_getElem? (i := 21) (by decide +kernel), List.mem_of_getElem? (i := 291) (by decide +kernel), List.mem_of_getElem? (i := 292) (by decide +kernel)⟩
theorem lw_p5 : lw_okq (⟨"JamSongs$Tape", "takeNumber", "(II)I"⟩, 7) := ⟨⟨by decide +kernel, by decide +kernel⟩, List.mem_of_getElem? (i := 21) (by decide +kernel), List.mem_of_getElem? (i := 295) (by decide +kernel), List.mem_of_getElem? (i := 296) (by decide +kernel)⟩
theorem lw_p6 : lw_okq (⟨"JamSongs$Tape", "readSinger", "(LJamSongs$Kitchen;I)V"⟩, 7) := ⟨⟨by decide +kernel, by decide +kernel⟩, List.mem_of_getElem? (i := 21) (by decide +kernel), List.mem_of_getElem? (i := 299) (by decide +kernel), List.mem_of_getElem? (i := 300) (by decide +kernel)⟩
theorem lw_p7 : lw_okq (⟨"JamSongs$Tape", "readPan", "(LJamSongs$Kitchen;I)V"⟩, 7) := ⟨⟨by decide +kernel, by decide +kernel⟩, List.mem_of_getElem? (i := 21) (by decide +kernel), List.mem_of_getElem? (i := 306) (by decide +kernel), List.mem_of_getElem? (i := 307) (by decide +kernel)⟩
theorem lw_p8 : lw_okq (⟨"JamSongs", "keepAct", "()V"⟩, 18) := ⟨⟨by decide +kernel, by decide +kernel⟩, List.mem_of_getElem? (i := 11) (by decide +kernel), List.mem_of_getElem? (i := 329) (by decide +kernel), List.mem_of_getElem? (i := 330) (by decide +kernel)⟩
theorem lw_p9 : lw_okq (⟨"JamSongs$Kitchen", "hear", "(I[I)V"⟩, 15) := ⟨⟨by decide +kernel, by decide +kernel⟩, List.mem_of_getElem? (i := 54) (by decide +kernel), List.mem_of_getElem? (i := 346) (by decide +kernel), List.mem_of_getElem? (i := 347) (by decide +kernel)⟩
theorem lw_p10 : lw_okq (⟨"JamSongs$Kitchen", "judge", "(III)I"⟩, 15) := ⟨⟨by decide +kernel, by decide +kernel⟩, List.mem_of_getElem? (i := 54) (by decide +kernel), List.mem_of_getElem? (i := 354) (by decide +kernel), List.mem_of_getElem? (i := 355) (by decide +kernel)⟩
theorem lw_p11 : lw_okq (⟨"JamSongs$Kitchen", "thickBy", "(II)I"⟩, 15) := ⟨⟨by decide +kernel, by decide +kernel⟩, List.mem_of_getElem? (i := 54) (by decide +kernel), List.mem_of_getElem? (i := 361) (by decide +kernel), List.mem_of_getElem? (i := 362) (by decide +kernel)⟩
theorem lw_p12 : lw_okq (⟨"JamSongs", "takeTune", "(LJamSongs$Row;II)I"⟩, 18) := ⟨⟨by decide +kernel, by decide +kernel⟩, List.mem_of_getElem? (i := 11) (by decide +kernel), List.mem_of_getElem? (i := 397) (by decide +kernel), List.mem_of_getElem? (i := 398) (by decide +kernel)⟩
theorem lw_p13 : lw_okq (⟨"JamSongs", "trySolo", "(III)V"⟩, 18) := ⟨⟨by decide +kernel, by decide +kernel⟩, List.mem_of_getElem? (i := 11) (by decide +kernel), List.mem_of_getElem? (i := 401) (by decide +kernel), List.mem_of_getElem? (i := 402) (by decide +kernel)⟩
theorem lw_p14 : lw_okq (⟨"JamSongs", "tryRound", "(II)V"⟩, 18) := ⟨⟨by decide +kernel, by decide +kernel⟩, List.mem_of_getElem? (i := 11) (by decide +kernel), List.mem_of_getElem? (i := 416) (by decide +kernel), List.mem_of_getElem? (i := 417) (by decide +kernel)⟩
theorem lw_p15 : lw_okq (⟨"JamSongs", "seekSong", "(II)V"⟩, 18) := ⟨⟨by decide +kernel, by decide +kernel⟩, List.mem_of_getElem? (i := 11) (by decide +kernel), List.mem_of_getElem? (i := 434) (by decide +kernel), List.mem_of_getElem? (i := 435) (by decide +kernel)⟩
def lw_privs_1 : List (MethodName × Nat) := [(⟨"JamSongs", "found", "(I)I"⟩, 18), (⟨"JamSongs", "fine", "(I)I"⟩, 18), (⟨"JamSongs$Tape", "step", "()V"⟩, 7), (⟨"JamSongs$Tape", "stepNumber", "()V"⟩, 7), (⟨"JamSongs$Tape", "take", "(I)V"⟩, 7), (⟨"JamSongs$Tape", "takeNumber", "(II)I"⟩, 7), (⟨"JamSongs$Tape", "readSinger", "(LJamSongs$Kitchen;I)V"⟩, 7), (⟨"JamSongs$Tape", "readPan", "(LJamSongs$Kitchen;I)V"⟩, 7), (⟨"JamSongs", "keepAct", "()V"⟩, 18), (⟨"JamSongs$Kitchen", "hear", "(I[I)V"⟩, 15), (⟨"JamSongs$Kitchen", "judge", "(III)I"⟩, 15), (⟨"JamSongs$Kitchen", "thickBy", "(II)I"⟩, 15), (⟨"JamSongs", "takeTune", "(LJamSongs$Row;II)I"⟩, 18), (⟨"JamSongs", "trySolo", "(III)V"⟩, 18), (⟨"JamSongs", "tryRound", "(II)V"⟩, 18), (⟨"JamSongs", "seekSong", "(II)V"⟩, 18)]
theorem lw_r1 : ∀ q ∈ lw_privs_1, lw_okq q := List.forall_mem_cons.mpr ⟨lw_p0, List.forall_mem_cons.mpr ⟨lw_p1, List.forall_mem_cons.mpr ⟨lw_p2, List.forall_mem_cons.mpr ⟨lw_p3, List.forall_mem_cons.mpr ⟨lw_p4, List.forall_mem_cons.mpr ⟨lw_p5, List.forall_mem_cons.mpr ⟨lw_p6, List.forall_mem_cons.mpr ⟨lw_p7, List.forall_mem_cons.mpr ⟨lw_p8, List.forall_mem_cons.mpr ⟨lw_p9, List.forall_mem_cons.mpr ⟨lw_p10, List.forall_mem_cons.mpr ⟨lw_p11, List.forall_mem_cons.mpr ⟨lw_p12, List.forall_mem_cons.mpr ⟨lw_p13, List.forall_mem_cons.mpr ⟨lw_p14, List.forall_mem_cons.mpr ⟨lw_p15, fun _ h => absurd h List.not_mem_nil⟩⟩⟩⟩⟩⟩⟩⟩⟩⟩⟩⟩⟩⟩⟩⟩
theorem lw_p16 : lw_okq (⟨"JamSongs", "trySong", "(III)I"⟩, 18) := ⟨⟨by decide +kernel, by decide +kernel⟩, List.mem_of_getElem? (i := 11) (by decide +kernel), List.mem_of_getElem? (i := 438) (by decide +kernel), List.mem_of_getElem? (i := 439) (by decide +kernel)⟩
theorem lw_p17 : lw_okq (⟨"JamSongs", "weighSong", "(II)V"⟩, 18) := ⟨⟨by decide +kernel, by decide +kernel⟩, List.mem_of_getElem? (i := 11) (by decide +kernel), List.mem_of_getElem? (i := 446) (by decide +kernel), List.mem_of_getElem? (i := 447) (by decide +kernel)⟩
theorem lw_p18 : lw_okq (⟨"JamSongs", "setsWithout", "(IIII)Z"⟩, 18) := ⟨⟨by decide +kernel, by decide +kernel⟩, List.mem_of_getElem? (i := 11) (by decide +kernel), List.mem_of_getElem? (i := 455) (by decide +kernel), List.mem_of_getElem? (i := 456) (by decide +kernel)⟩
theorem lw_p19 : lw_okq (⟨"JamSongs", "sizeOfPlums", "(I)I"⟩, 18) := ⟨⟨by decide +kernel, by decide +kernel⟩, List.mem_of_getElem? (i := 11) (by decide +kernel), List.mem_of_getElem? (i := 502) (by decide +kernel), List.mem_of_getElem? (i := 503) (by decide +kernel)⟩
theorem lw_p20 : lw_okq (⟨"JamSongs", "leave", "(I)V"⟩, 18) := ⟨⟨by decide +kernel, by decide +kernel⟩, List.mem_of_getElem? (i := 11) (by decide +kernel), List.mem_of_getElem? (i := 506) (by decide +kernel), List.mem_of_getElem? (i := 507) (by decide +kernel)⟩
theorem lw_p21 : lw_okq (⟨"JamSongs", "plumSize", "(I)I"⟩, 18) := ⟨⟨by decide +kernel, by decide +kernel⟩, List.mem_of_getElem? (i := 11) (by decide +kernel), List.mem_of_getElem? (i := 510) (by decide +kernel), List.mem_of_getElem? (i := 511) (by decide +kernel)⟩
theorem lw_p22 : lw_okq (⟨"JamSongs", "lentSize", "(I)I"⟩, 18) := ⟨⟨by decide +kernel, by decide +kernel⟩, List.mem_of_getElem? (i := 11) (by decide +kernel), List.mem_of_getElem? (i := 514) (by decide +kernel), List.mem_of_getElem? (i := 515) (by decide +kernel)⟩
theorem lw_p23 : lw_okq (⟨"JamSongs", "markOfPlums", "(I)I"⟩, 18) := ⟨⟨by decide +kernel, by decide +kernel⟩, List.mem_of_getElem? (i := 11) (by decide +kernel), List.mem_of_getElem? (i := 518) (by decide +kernel), List.mem_of_getElem? (i := 519) (by decide +kernel)⟩
theorem lw_p24 : lw_okq (⟨"JamSongs", "plumMark", "(I)I"⟩, 18) := ⟨⟨by decide +kernel, by decide +kernel⟩, List.mem_of_getElem? (i := 11) (by decide +kernel), List.mem_of_getElem? (i := 522) (by decide +kernel), List.mem_of_getElem? (i := 523) (by decide +kernel)⟩
theorem lw_p25 : lw_okq (⟨"JamSongs", "lentMark", "(I)I"⟩, 18) := ⟨⟨by decide +kernel, by decide +kernel⟩, List.mem_of_getElem? (i := 11) (by decide +kernel), List.mem_of_getElem? (i := 526) (by decide +kernel), List.mem_of_getElem? (i := 527) (by decide +kernel)⟩
theorem lw_p26 : lw_okq (⟨"JamSongs", "sizeOfMarrows", "(I)I"⟩, 18) := ⟨⟨by decide +kernel, by decide +kernel⟩, List.mem_of_getElem? (i := 11) (by decide +kernel), List.mem_of_getElem? (i := 530) (by decide +kernel), List.mem_of_getElem? (i := 531) (by decide +kernel)⟩
theorem lw_p27 : lw_okq (⟨"JamSongs", "marrowSize", "(I)I"⟩, 18) := ⟨⟨by decide +kernel, by decide +kernel⟩, List.mem_of_getElem? (i := 11) (by decide +kernel), List.mem_of_getElem? (i := 534) (by decide +kernel), List.mem_of_getElem? (i := 535) (by decide +kernel)⟩
theorem lw_p28 : lw_okq (⟨"JamSongs", "markOfMarrows", "(I)I"⟩, 18) := ⟨⟨by decide +kernel, by decide +kernel⟩, List.mem_of_getElem? (i := 11) (by decide +kernel), List.mem_of_getElem? (i := 538) (by decide +kernel), List.mem_of_getElem? (i := 539) (by decide +kernel)⟩
theorem lw_p29 : lw_okq (⟨"JamSongs", "rowsThere", "()I"⟩, 18) := ⟨⟨by decide +kernel, by decide +kernel⟩, List.mem_of_getElem? (i := 11) (by decide +kernel), List.mem_of_getElem? (i := 550) (by decide +kernel), List.mem_of_getElem? (i := 551) (by decide +kernel)⟩
theorem lw_p30 : lw_okq (⟨"JamSongsModel", "find", "(I)I"⟩, 26) := ⟨⟨by decide +kernel, by decide +kernel⟩, List.mem_of_getElem? (i := 558) (by decide +kernel), List.mem_of_getElem? (i := 657) (by decide +kernel), List.mem_of_getElem? (i := 658) (by decide +kernel)⟩
theorem lw_p31 : lw_okq (⟨"JamSongsModel", "well", "(I)I"⟩, 26) := ⟨⟨by decide +kernel, by decide +kernel⟩, List.mem_of_getElem? (i := 558) (by decide +kernel), List.mem_of_getElem? (i := 662) (by decide +kernel), List.mem_of_getElem? (i := 663) (by decide +kernel)⟩
def lw_privs_2 : List (MethodName × Nat) := [(⟨"JamSongs", "trySong", "(III)I"⟩, 18), (⟨"JamSongs", "weighSong", "(II)V"⟩, 18), (⟨"JamSongs", "setsWithout", "(IIII)Z"⟩, 18), (⟨"JamSongs", "sizeOfPlums", "(I)I"⟩, 18), (⟨"JamSongs", "leave", "(I)V"⟩, 18), (⟨"JamSongs", "plumSize", "(I)I"⟩, 18), (⟨"JamSongs", "lentSize", "(I)I"⟩, 18), (⟨"JamSongs", "markOfPlums", "(I)I"⟩, 18), (⟨"JamSongs", "plumMark", "(I)I"⟩, 18), (⟨"JamSongs", "lentMark", "(I)I"⟩, 18), (⟨"JamSongs", "sizeOfMarrows", "(I)I"⟩, 18), (⟨"JamSongs", "marrowSize", "(I)I"⟩, 18), (⟨"JamSongs", "markOfMarrows", "(I)I"⟩, 18), (⟨"JamSongs", "rowsThere", "()I"⟩, 18), (⟨"JamSongsModel", "find", "(I)I"⟩, 26), (⟨"JamSongsModel", "well", "(I)I"⟩, 26)]
theorem lw_r2 : ∀ q ∈ lw_privs_2, lw_okq q := List.forall_mem_cons.mpr ⟨lw_p16, List.forall_mem_cons.mpr ⟨lw_p17, List.forall_mem_cons.mpr ⟨lw_p18, List.forall_mem_cons.mpr ⟨lw_p19, List.forall_mem_cons.mpr ⟨lw_p20, List.forall_mem_cons.mpr ⟨lw_p21, List.forall_mem_cons.mpr ⟨lw_p22, List.forall_mem_cons.mpr ⟨lw_p23, List.forall_mem_cons.mpr ⟨lw_p24, List.forall_mem_cons.mpr ⟨lw_p25, List.forall_mem_cons.mpr ⟨lw_p26, List.forall_mem_cons.mpr ⟨lw_p27, List.forall_mem_cons.mpr ⟨lw_p28, List.forall_mem_cons.mpr ⟨lw_p29, List.forall_mem_cons.mpr ⟨lw_p30, List.forall_mem_cons.mpr ⟨lw_p31, fun _ h => absurd h List.not_mem_nil⟩⟩⟩⟩⟩⟩⟩⟩⟩⟩⟩⟩⟩⟩⟩⟩
theorem lw_p32 : lw_okq (⟨"JamSongsModel", "readKitchen", "()Z"⟩, 26) := ⟨⟨by decide +kernel, by decide +kernel⟩, List.mem_of_getElem? (i := 558) (by decide +kernel), List.mem_of_getElem? (i := 691) (by decide +kernel), List.mem_of_getElem? (i := 692) (by decide +kernel)⟩
theorem lw_p33 : lw_okq (⟨"JamSongsModel", "nextToken", "()V"⟩, 26) := ⟨⟨by decide +kernel, by decide +kernel⟩, List.mem_of_getElem? (i := 558) (by decide +kernel), List.mem_of_getElem? (i := 695) (by decide +kernel), List.mem_of_getElem? (i := 696) (by decide +kernel)⟩
theorem lw_p34 : lw_okq (⟨"JamSongsModel", "takes", "(I)Z"⟩, 26) := ⟨⟨by decide +kernel, by decide +kernel⟩, List.mem_of_getElem? (i := 558) (by decide +kernel), List.mem_of_getElem? (i := 703) (by decide +kernel), List.mem_of_getElem? (i := 704) (by decide +kernel)⟩
theorem lw_p35 : lw_okq (⟨"JamSongsModel", "isLetter", "(I)Z"⟩, 26) := ⟨⟨by decide +kernel, by decide +kernel⟩, List.mem_of_getElem? (i := 558) (by decide +kernel), List.mem_of_getElem? (i := 707) (by decide +kernel), List.mem_of_getElem? (i := 708) (by decide +kernel)⟩
theorem lw_p36 : lw_okq (⟨"JamSongsModel", "faults", "(I)Z"⟩, 26) := ⟨⟨by decide +kernel, by decide +kernel⟩, List.mem_of_getElem? (i := 558) (by decide +kernel), List.mem_of_getElem? (i := 711) (by decide +kernel), List.mem_of_getElem? (i := 712) (by decide +kernel)⟩
theorem lw_p37 : lw_okq (⟨"JamSongsModel", "takesNumber", "(IIII)Z"⟩, 26) := ⟨⟨by decide +kernel, by decide +kernel⟩, List.mem_of_getElem? (i := 558) (by decide +kernel), List.mem_of_getElem? (i := 715) (by decide +kernel), List.mem_of_getElem? (i := 716) (by decide +kernel)⟩
theorem lw_p38 : lw_okq (⟨"JamSongsModel", "readPan", "(I)Z"⟩, 26) := ⟨⟨by decide +kernel, by decide +kernel⟩, List.mem_of_getElem? (i := 558) (by decide +kernel), List.mem_of_getElem? (i := 719) (by decide +kernel), List.mem_of_getElem? (i := 720) (by decide +kernel)⟩
theorem lw_p39 : lw_okq (⟨"JamSongsModel", "readSinger", "()Z"⟩, 26) := ⟨⟨by decide +kernel, by decide +kernel⟩, List.mem_of_getElem? (i := 558) (by decide +kernel), List.mem_of_getElem? (i := 724) (by decide +kernel), List.mem_of_getElem? (i := 725) (by decide +kernel)⟩
theorem lw_p40 : lw_okq (⟨"JamSongsModel", "canSing", "(II)Z"⟩, 26) := ⟨⟨by decide +kernel, by decide +kernel⟩, List.mem_of_getElem? (i := 558) (by decide +kernel), List.mem_of_getElem? (i := 738) (by decide +kernel), List.mem_of_getElem? (i := 739) (by decide +kernel)⟩
theorem lw_p41 : lw_okq (⟨"JamSongsModel", "note", "()V"⟩, 26) := ⟨⟨by decide +kernel, by decide +kernel⟩, List.mem_of_getElem? (i := 558) (by decide +kernel), List.mem_of_getElem? (i := 742) (by decide +kernel), List.mem_of_getElem? (i := 743) (by decide +kernel)⟩
theorem lw_p42 : lw_okq (⟨"JamSongsModel", "oneBar", "()V"⟩, 26) := ⟨⟨by decide +kernel, by decide +kernel⟩, List.mem_of_getElem? (i := 558) (by decide +kernel), List.mem_of_getElem? (i := 746) (by decide +kernel), List.mem_of_getElem? (i := 747) (by decide +kernel)⟩
theorem lw_p43 : lw_okq (⟨"JamSongsModel", "panHears", "(I)V"⟩, 26) := ⟨⟨by decide +kernel, by decide +kernel⟩, List.mem_of_getElem? (i := 558) (by decide +kernel), List.mem_of_getElem? (i := 750) (by decide +kernel), List.mem_of_getElem? (i := 751) (by decide +kernel)⟩
theorem lw_p44 : lw_okq (⟨"JamSongsModel", "setPans", "()I"⟩, 26) := ⟨⟨by decide +kernel, by decide +kernel⟩, List.mem_of_getElem? (i := 558) (by decide +kernel), List.mem_of_getElem? (i := 757) (by decide +kernel), List.mem_of_getElem? (i := 758) (by decide +kernel)⟩
theorem lw_p45 : lw_okq (⟨"JamSongsModel", "isPan", "(I)Z"⟩, 26) := ⟨⟨by decide +kernel, by decide +kernel⟩, List.mem_of_getElem? (i := 558) (by decide +kernel), List.mem_of_getElem? (i := 765) (by decide +kernel), List.mem_of_getElem? (i := 766) (by decide +kernel)⟩
theorem lw_p46 : lw_okq (⟨"JamSongsModel", "isSinger", "(I)Z"⟩, 26) := ⟨⟨by decide +kernel, by decide +kernel⟩, List.mem_of_getElem? (i := 558) (by decide +kernel), List.mem_of_getElem? (i := 769) (by decide +kernel), List.mem_of_getElem? (i := 770) (by decide +kernel)⟩
theorem lw_p47 : lw_okq (⟨"JamSongsModel", "lacks", "(III)I"⟩, 26) := ⟨⟨by decide +kernel, by decide +kernel⟩, List.mem_of_getElem? (i := 558) (by decide +kernel), List.mem_of_getElem? (i := 790) (by decide +kernel), List.mem_of_getElem? (i := 791) (by decide +kernel)⟩
def lw_privs_3 : List (MethodName × Nat) := [(⟨"JamSongsModel", "readKitchen", "()Z"⟩, 26), (⟨"JamSongsModel", "nextToken", "()V"⟩, 26), (⟨"JamSongsModel", "takes", "(I)Z"⟩, 26), (⟨"JamSongsModel", "isLetter", "(I)Z"⟩, 26), (⟨"JamSongsModel", "faults", "(I)Z"⟩, 26), (⟨"JamSongsModel", "takesNumber", "(IIII)Z"⟩, 26), (⟨"JamSongsModel", "readPan", "(I)Z"⟩, 26), (⟨"JamSongsModel", "readSinger", "()Z"⟩, 26), (⟨"JamSongsModel", "canSing", "(II)Z"⟩, 26), (⟨"JamSongsModel", "note", "()V"⟩, 26), (⟨"JamSongsModel", "oneBar", "()V"⟩, 26), (⟨"JamSongsModel", "panHears", "(I)V"⟩, 26), (⟨"JamSongsModel", "setPans", "()I"⟩, 26), (⟨"JamSongsModel", "isPan", "(I)Z"⟩, 26), (⟨"JamSongsModel", "isSinger", "(I)Z"⟩, 26), (⟨"JamSongsModel", "lacks", "(III)I"⟩, 26)]
theorem lw_r3 : ∀ q ∈ lw_privs_3, lw_okq q := List.forall_mem_cons.mpr ⟨lw_p32, List.forall_mem_cons.mpr ⟨lw_p33, List.forall_mem_cons.mpr ⟨lw_p34, List.forall_mem_cons.mpr ⟨lw_p35, List.forall_mem_cons.mpr ⟨lw_p36, List.forall_mem_cons.mpr ⟨lw_p37, List.forall_mem_cons.mpr ⟨lw_p38, List.forall_mem_cons.mpr ⟨lw_p39, List.forall_mem_cons.mpr ⟨lw_p40, List.forall_mem_cons.mpr ⟨lw_p41, List.forall_mem_cons.mpr ⟨lw_p42, List.forall_mem_cons.mpr ⟨lw_p43, List.forall_mem_cons.mpr ⟨lw_p44, List.forall_mem_cons.mpr ⟨lw_p45, List.forall_mem_cons.mpr ⟨lw_p46, List.forall_mem_cons.mpr ⟨lw_p47, fun _ h => absurd h List.not_mem_nil⟩⟩⟩⟩⟩⟩⟩⟩⟩⟩⟩⟩⟩⟩⟩⟩
theorem lw_p48 : lw_okq (⟨"JamSongsModel", "putAside", "()V"⟩, 26) := ⟨⟨by decide +kernel, by decide +kernel⟩, List.mem_of_getElem? (i := 558) (by decide +kernel), List.mem_of_getElem? (i := 794) (by decide +kernel), List.mem_of_getElem? (i := 795) (by decide +kernel)⟩
theorem lw_p49 : lw_okq (⟨"JamSongsModel", "singAlone", "(IIII)V"⟩, 26) := ⟨⟨by decide +kernel, by decide +kernel⟩, List.mem_of_getElem? (i := 558) (by decide +kernel), List.mem_of_getElem? (i := 798) (by decide +kernel), List.mem_of_getElem? (i := 799) (by decide +kernel)⟩
theorem lw_p50 : lw_okq (⟨"JamSongsModel", "allRest", "()V"⟩, 26) := ⟨⟨by decide +kernel, by decide +kernel⟩, List.mem_of_getElem? (i := 558) (by decide +kernel), List.mem_of_getElem? (i := 802) (by decide +kernel), List.mem_of_getElem? (i := 803) (by decide +kernel)⟩
theorem lw_p51 : lw_okq (⟨"JamSongsModel", "takeBack", "()V"⟩, 26) := ⟨⟨by decide +kernel, by decide +kernel⟩, List.mem_of_getElem? (i := 558) (by decide +kernel), List.mem_of_getElem? (i := 806) (by decide +kernel), List.mem_of_getElem? (i := 807) (by decide +kernel)⟩
theorem lw_p52 : lw_okq (⟨"JamSongsModel", "singRound", "(III)V"⟩, 26) := ⟨⟨by decide +kernel, by decide +kernel⟩, List.mem_of_getElem? (i := 558) (by decide +kernel), List.mem_of_getElem? (i := 815) (by decide +kernel), List.mem_of_getElem? (i := 816) (by decide +kernel)⟩
theorem lw_p53 : lw_okq (⟨"JamSongsModel", "singsRow", "(II)Z"⟩, 26) := ⟨⟨by decide +kernel, by decide +kernel⟩, List.mem_of_getElem? (i := 558) (by decide +kernel), List.mem_of_getElem? (i := 832) (by decide +kernel), List.mem_of_getElem? (i := 833) (by decide +kernel)⟩
theorem lw_p54 : lw_okq (⟨"JamSongsModel", "sizeOf", "(I)I"⟩, 26) := ⟨⟨by decide +kernel, by decide +kernel⟩, List.mem_of_getElem? (i := 558) (by decide +kernel), List.mem_of_getElem? (i := 874) (by decide +kernel), List.mem_of_getElem? (i := 875) (by decide +kernel)⟩
theorem lw_p55 : lw_okq (⟨"JamSongsModel", "begin", "(I)V"⟩, 26) := ⟨⟨by decide +kernel, by decide +kernel⟩, List.mem_of_getElem? (i := 558) (by decide +kernel), List.mem_of_getElem? (i := 878) (by decide +kernel), List.mem_of_getElem? (i := 879) (by decide +kernel)⟩
theorem lw_p56 : lw_okq (⟨"JamSongsModel", "plumSize", "(I)I"⟩, 26) := ⟨⟨by decide +kernel, by decide +kernel⟩, List.mem_of_getElem? (i := 558) (by decide +kernel), List.mem_of_getElem? (i := 882) (by decide +kernel), List.mem_of_getElem? (i := 883) (by decide +kernel)⟩
theorem lw_p57 : lw_okq (⟨"JamSongsModel", "lent", "(II)I"⟩, 26) := ⟨⟨by decide +kernel, by decide +kernel⟩, List.mem_of_getElem? (i := 558) (by decide +kernel), List.mem_of_getElem? (i := 886) (by decide +kernel), List.mem_of_getElem? (i := 887) (by decide +kernel)⟩
theorem lw_p58 : lw_okq (⟨"JamSongsModel", "markOf", "(I)I"⟩, 26) := ⟨⟨by decide +kernel, by decide +kernel⟩, List.mem_of_getElem? (i := 558) (by decide +kernel), List.mem_of_getElem? (i := 890) (by decide +kernel), List.mem_of_getElem? (i := 891) (by decide +kernel)⟩
theorem lw_p59 : lw_okq (⟨"JamSongsModel", "plumMark", "(I)I"⟩, 26) := ⟨⟨by decide +kernel, by decide +kernel⟩, List.mem_of_getElem? (i := 558) (by decide +kernel), List.mem_of_getElem? (i := 894) (by decide +kernel), List.mem_of_getElem? (i := 895) (by decide +kernel)⟩
theorem lw_p60 : lw_okq (⟨"JamSongsModel", "sizeOfMarrow", "(I)I"⟩, 26) := ⟨⟨by decide +kernel, by decide +kernel⟩, List.mem_of_getElem? (i := 558) (by decide +kernel), List.mem_of_getElem? (i := 898) (by decide +kernel), List.mem_of_getElem? (i := 899) (by decide +kernel)⟩
theorem lw_p61 : lw_okq (⟨"JamSongsModel", "marrowSize", "(I)I"⟩, 26) := ⟨⟨by decide +kernel, by decide +kernel⟩, List.mem_of_getElem? (i := 558) (by decide +kernel), List.mem_of_getElem? (i := 902) (by decide +kernel), List.mem_of_getElem? (i := 903) (by decide +kernel)⟩
def lw_privs_4 : List (MethodName × Nat) := [(⟨"JamSongsModel", "putAside", "()V"⟩, 26), (⟨"JamSongsModel", "singAlone", "(IIII)V"⟩, 26), (⟨"JamSongsModel", "allRest", "()V"⟩, 26), (⟨"JamSongsModel", "takeBack", "()V"⟩, 26), (⟨"JamSongsModel", "singRound", "(III)V"⟩, 26), (⟨"JamSongsModel", "singsRow", "(II)Z"⟩, 26), (⟨"JamSongsModel", "sizeOf", "(I)I"⟩, 26), (⟨"JamSongsModel", "begin", "(I)V"⟩, 26), (⟨"JamSongsModel", "plumSize", "(I)I"⟩, 26), (⟨"JamSongsModel", "lent", "(II)I"⟩, 26), (⟨"JamSongsModel", "markOf", "(I)I"⟩, 26), (⟨"JamSongsModel", "plumMark", "(I)I"⟩, 26), (⟨"JamSongsModel", "sizeOfMarrow", "(I)I"⟩, 26), (⟨"JamSongsModel", "marrowSize", "(I)I"⟩, 26)]
theorem lw_r4 : ∀ q ∈ lw_privs_4, lw_okq q := List.forall_mem_cons.mpr ⟨lw_p48, List.forall_mem_cons.mpr ⟨lw_p49, List.forall_mem_cons.mpr ⟨lw_p50, List.forall_mem_cons.mpr ⟨lw_p51, List.forall_mem_cons.mpr ⟨lw_p52, List.forall_mem_cons.mpr ⟨lw_p53, List.forall_mem_cons.mpr ⟨lw_p54, List.forall_mem_cons.mpr ⟨lw_p55, List.forall_mem_cons.mpr ⟨lw_p56, List.forall_mem_cons.mpr ⟨lw_p57, List.forall_mem_cons.mpr ⟨lw_p58, List.forall_mem_cons.mpr ⟨lw_p59, List.forall_mem_cons.mpr ⟨lw_p60, List.forall_mem_cons.mpr ⟨lw_p61, fun _ h => absurd h List.not_mem_nil⟩⟩⟩⟩⟩⟩⟩⟩⟩⟩⟩⟩⟩⟩
def lw_privs : List (MethodName × Nat) := lw_privs_1 ++ (lw_privs_2 ++ (lw_privs_3 ++ (lw_privs_4)))
def lw_tbl : List Cond := k2_sels lw_privs ++ tables_1
theorem lw_privs_ok : ∀ q ∈ lw_privs, lw_okq q := by
  show ∀ q ∈ lw_privs_1 ++ (lw_privs_2 ++ (lw_privs_3 ++ (lw_privs_4))), lw_okq q
  exact List.forall_mem_append.mpr ⟨lw_r1, List.forall_mem_append.mpr ⟨lw_r2, List.forall_mem_append.mpr ⟨lw_r3, lw_r4⟩⟩⟩
end
section
/-! ===== a row of rows, made at one stroke (multianewarray of ints, two counts): own rows over the machine, nothing of Shelf42 ===== -/
section RR
variable {p : Program} {l : Launch} {e : Env} {R : Room} {s : State} {m : MethodId} {args : Array Value} {below : List Frame} {meth : Method} {c : Code} {H : Heap} {locs : List Loc} {cells slots : Nat} {Q : State → Prop}
/-- the heap U when i of the N rows are made: H as it was, the outer row at H's end, behind it i rows of K noughts -/
def rr_H (H : Heap) (cA cB : ClassId) (N K i : Nat) (U : Heap) : Prop :=
  U.size = H.size + 1 + i ∧ (∀ q : Nat, q < H.size → U[q]? = H[q]?) ∧ U[H.size]? = some (arrV cA N (fun j => if j < i then .ref (H.size + 1 + j) else .null)) ∧
    ∀ j : Nat, j < i → U[H.size + 1 + j]? = some (arrV cB K (fun _ => .int 0))
theorem rr_first (cA cB : ClassId) (N K : Nat) : rr_H H cA cB N K 0 (H.push { cls := cA, slots := Array.replicate N .null }) := by
  refine ⟨by rw [Array.size_push], fun q hq => by rw [Array.getElem?_push, if_neg (Nat.ne_of_lt hq)], ?_, fun j hj => absurd hj (Nat.not_lt_zero j)⟩
  rw [Array.getElem?_push_size]
  have h := arrV_new cA N .null
  rw [show ({ cls := cA, slots := Array.replicate N .null } : Cell) = arrV cA N (fun _ => .null) from h]
  exact congrArg (fun f => some (arrV cA N f)) (funext fun j => (if_neg (Nat.not_lt_zero j)).symm)
theorem rr_next {cA cB : ClassId} {N K i : Nat} {U : Heap} (h : rr_H H cA cB N K i U) :
    rr_H H cA cB N K (i + 1) ((U.push { cls := cB, slots := Array.replicate K (.int 0) }).setIfInBounds H.size ((arrV cA N (fun j => if j < i then .ref (H.size + 1 + j) else .null)).setSlot i (.ref U.size))) := by
  obtain ⟨h1, h2, h3, h4⟩ := h
  have hne : ∀ q : Nat, q ≠ H.size → ((U.push { cls := cB, slots := Array.replicate K (.int 0) }).setIfInBounds H.size ((arrV cA N (fun j => if j < i then .ref (H.size + 1 + j) else .null)).setSlot i (.ref U.size)))[q]? = (U.push { cls := cB, slots := Array.replicate K (.int 0) })[q]? := fun q hq => Array.getElem?_setIfInBounds_ne (Ne.symm hq)
  refine ⟨by rw [Array.size_setIfInBounds, Array.size_push, h1]; omega, fun q hq => ?_, ?_, fun j hj => ?_⟩
  · rw [hne q (Nat.ne_of_lt hq), Array.getElem?_push, if_neg (by omega)]
    exact h2 q hq
  · rw [Array.getElem?_setIfInBounds_self_of_lt (by rw [Array.size_push]; omega), arrV_store, h1]
    refine congrArg (fun f => some (arrV cA N f)) (funext fun j => ?_)
    show (if j = i then Value.ref (H.size + 1 + i) else if j < i then Value.ref (H.size + 1 + j) else Value.null) = _
    rcases Nat.lt_trichotomy j i with q | q | q
    · rw [if_neg (Nat.ne_of_lt q), if_pos q, if_pos (Nat.lt_succ_of_lt q)]
    · rw [if_pos q, if_pos (by omega), q]
    · rw [if_neg (Nat.ne_of_gt q), if_neg (by omega), if_neg (by omega)]
  · rw [hne _ (by omega), Array.getElem?_push]
    by_cases q : j = i
    · rw [if_pos (by omega)]
      exact congrArg some (arrV_new cB K (.int 0))
    · rw [if_neg (by omega)]
      exact h4 j (by omega)
/-- the rows that are wanting, made one behind the other: there is a place F' where it ends, whatever is to hold there -/
theorem rr_loop {cA cB cI : ClassId} {kA kB : Class} {y : Int32} {N : Nat} (hkA : s.vm.classes[cA]? = some kA) (hA : kA.kind = .array cB (.array .int)) (hkB : s.vm.classes[cB]? = some kB) (hB : kB.kind = .array cI .int) (hy : ¬ y < 0) (hby : y.toNatClampNeg * 4 ≤ 536870912) (hs : s.heap.size ≤ H.size)
    {f : Nat → PUnit → Sem (ForInStep PUnit)} (hf : ∀ (i : Nat) (Q' : ForInStep PUnit → Pre) (E : CtlPost) (d : Bool) (acts : List Action) (S : State), wp (Op.multianewarray.make cB [y]) (fun v => wp (Jvm.writeLoc H.size i (.ref v)) (fun _ => Q' (.yield PUnit.unit)) E e) E e d acts S → wp (f i PUnit.unit) Q' E e d acts S) :
    ∀ (r i : Nat) (F : State) (n k : Nat), i + r = N → Stand p l e R s m args below meth c F locs n k → rr_H H cA cB N y.toNatClampNeg i F.heap → n + r ≤ R.cells → k + r * y.toNatClampNeg ≤ R.slots →
      ∃ F' : State, Stand p l e R s m args below meth c F' locs (n + r) (k + r * y.toNatClampNeg) ∧ rr_H H cA cB N y.toNatClampNeg N F'.heap ∧
        ∀ (g : JFrame) (E : CtlPost) (d : Bool) (acts : List Action) (P : PUnit → Pre), (∀ d' acts', P PUnit.unit d' acts' (F'.setTop g)) → wp (forIn (List.range' i r) PUnit.unit f) P E e d acts (F.setTop g)
  | 0, i, F, n, k, hi, X, hU, _, _ => by
    refine ⟨F, by rw [Nat.zero_mul]; exact X, by rw [show N = i by omega] at hU ⊢; exact hU, fun g E d acts P hP => ?_⟩
    rw [List.range'_zero, List.forIn_nil, wp_pure']
    exact hP _ _
  | r + 1, i, F, n, k, hi, X, hU, hn, hk => by
    have hal := X.warmed.alike
    obtain ⟨kA1, hkA1, eA⟩ := hal.2.2 _ _ hkA
    obtain ⟨kB1, hkB1, eB⟩ := hal.2.2 _ _ hkB
    have hA1 : kA1.kind = .array cB (.array .int) := by rw [eA]; exact hA
    have hB1 : kB1.kind = .array cI .int := by rw [eB]; exact hB
    have hk2 : k + y.toNatClampNeg + r * y.toNatClampNeg ≤ R.slots := by rw [Nat.succ_mul] at hk; omega
    obtain ⟨r1, r2⟩ := X.roomAbove (a := 1) (b := y.toNatClampNeg) (by omega) (by omega)
    have hiN : i < N := by omega
    have b1 : ¬ y.toNatClampNeg > e.platform.arrayLengthLimit := by rw [Launch.admits_arrayLengthLimit X.admits]; omega
    have b2 : ¬ y.toNatClampNeg * componentBytes .int > e.platform.maxHeapBytes := by rw [Launch.admits_maxHeapBytes X.admits]; show ¬ y.toNatClampNeg * 4 > 536870912; omega
    have X1 := X.pushed { cls := cB, slots := Array.replicate y.toNatClampNeg (.int 0) }
    rw [Array.size_replicate] at X1
    have hlt : H.size < F.heap.size := by rw [hU.1]; omega
    have hcell : (F.pushCell { cls := cB, slots := Array.replicate y.toNatClampNeg (.int 0) }).heap[H.size]? = some (arrV cA N (fun j => if j < i then .ref (H.size + 1 + j) else .null)) := by
      rw [State.heap_pushCell_of_lt (h := hlt)]
      exact hU.2.2.1
    have X2 := (X1.stored hcell i (.ref F.heap.size)).dropFresh (fun z hz => by rw [List.mem_singleton.mp hz]; exact hs)
    obtain ⟨F', X3, hU3, go⟩ := rr_loop hkA hA hkB hB hy hby hs hf r (i + 1) _ _ _ (by omega) X2 (rr_next hU) (by omega) hk2
    refine ⟨F', by rw [Nat.succ_mul, show n + (r + 1) = n + 1 + r by omega, show k + (r * y.toNatClampNeg + y.toNatClampNeg) = k + y.toNatClampNeg + r * y.toNatClampNeg by omega]; exact X3, hU3, fun g E d acts P hP => ?_⟩
    rw [List.range'_succ, List.forIn_cons, wp_bind']
    refine hf i _ E d acts _ ?_
    rw [Op.multianewarray.make]
    simp only [wp_bind', W.ite, hy, if_false, wp_pure', W.theClass]
    refine ⟨kB1, hkB1, ?_⟩
    rw [hB1]
    refine W.newArray_of (k := kB1) (comp := cI) (type := .int) hkB1 hB1 b1 b2 (by show F.heap.size < _; omega) (by show F.slotsUsed + _ ≤ _; exact r2) rfl (fun acts' => ?_)
    refine ⟨_, hcell, by show VmData.none ≠ _; simp, by rw [arrV_size]; exact hiN, ?_, ?_⟩
    · show State.fitsSlot _ cA .none i _ = true
      simp [State.fitsSlot, State.slotType?, hkA1, hA1, fits]
    · exact go g E _ _ P hP
theorem rr_multi {cc : ByteArray} (hexec : p.tables.exec = Jvm.exec) (hb : c.code = cc) {own : String} {index : Nat} {cA cB : ClassId} (hown : s.vm.findClass own = some m.cls) (hclink : (Cond.classLink own index ("[" ++ (FieldType.array .int).toString)).before args s = true) (hover : (Cond.arrayOver (.array .int)).before args s = true) (harr : (Cond.arrayClass .int).before args s = true)
    (hcA : s.vm.findClass ("[" ++ (FieldType.array .int).toString) = some cA) (hcB : s.vm.findClass (FieldType.array .int).toString = some cB) (hs : s.heap.size ≤ H.size) {pc : Nat} {ls : Array Slot} {rest : List Value} {x y : Int32} (hd : decode cc pc = .ok (.multianewarray index 2, 4)) (hx : ¬ x < 0) (hy : ¬ y < 0) (hbx : x.toNatClampNeg * 4 ≤ 536870912) (hby : y.toNatClampNeg * 4 ≤ 536870912)
    (hn : cells + (1 + x.toNatClampNeg) ≤ R.cells) (hk : slots + (x.toNatClampNeg + x.toNatClampNeg * y.toNatClampNeg) ≤ R.slots)
    (kk : ∀ U : Heap, rr_H H cA cB x.toNatClampNeg y.toNatClampNeg x.toNatClampNeg U → W p l e R s m args below meth c U locs (cells + (1 + x.toNatClampNeg)) (slots + (x.toNatClampNeg + x.toNatClampNeg * y.toNatClampNeg)) Q (F0 m (pc + 4) ls (.ref H.size :: rest))) :
    W p l e R s m args below meth c H locs cells slots Q (F0 m pc ls (.int y :: .int x :: rest)) := by
  intro T hT X
  subst hT
  subst hb
  obtain ⟨b1, a1, kA, f1, -, hkA, hA, f2⟩ := arrayOverA_spec hover
  obtain ⟨b2, kB, cI, f3, hkB, hB⟩ := Cond.arrayClass_spec harr
  cases Option.some.inj (f1.symm.trans hcB)
  cases Option.some.inj (f2.symm.trans hcA)
  cases Option.some.inj (f3.symm.trans hcB)
  obtain ⟨a2, f4, hcl⟩ := Cond.classLink_spec hown hclink e.platform (by rw [X.admits.platform])
  cases Option.some.inj (f4.symm.trans hcA)
  obtain ⟨g1, g2, -⟩ := State.classEntry (e := e) X.warmed hcl
  generalize T.vm.noted m.cls index (.cls cA) = vm1 at g1 g2
  have X1 := X.noted g2
  obtain ⟨kA1, hkA1, eA⟩ := g2.alike.2.2 _ _ hkA
  have hA1 : kA1.kind = .array cB (.array .int) := by rw [eA]; exact hA
  obtain ⟨r1, r2⟩ := X.roomAbove (a := 1) (b := x.toNatClampNeg) (by omega) (by omega)
  have l1 : ¬ x.toNatClampNeg > e.platform.arrayLengthLimit := by rw [Launch.admits_arrayLengthLimit X.admits]; omega
  have l2 : ¬ x.toNatClampNeg * componentBytes (.array .int) > e.platform.maxHeapBytes := by rw [Launch.admits_maxHeapBytes X.admits]; show ¬ x.toNatClampNeg * 4 > 536870912; omega
  have X2 := X1.pushed { cls := cA, slots := Array.replicate x.toNatClampNeg .null }
  rw [Array.size_replicate] at X2
  obtain ⟨F', X3, hU, go⟩ := rr_loop (H := T.heap) (y := y) (N := x.toNatClampNeg) (f := fun i _ => do
    let v ← Op.multianewarray.make cB [y]
    Jvm.writeLoc T.heap.size i (.ref v)
    Pure.pure (ForInStep.yield PUnit.unit)) hkA hA hkB hB hy hby hs (fun i Q' E d acts S h => by
      simp only [wp_bind', wp_pure']
      exact h) x.toNatClampNeg 0 _ _ _ (by omega) X2 (rr_first cA cB x.toNatClampNeg y.toNatClampNeg) (by omega) (by omega)
  obtain ⟨t, k1, k2⟩ := kk F'.heap hU F' rfl (by rw [← Nat.add_assoc, ← Nat.add_assoc]; exact X3)
  refine ⟨t, ?_, k2⟩
  jvm_step X.here [hexec, hd]
  simp only [Op.multianewarray.sem, wp_bind', W.resolveClassAt_links (State.method?_setTop (F0 m pc ls (.int y :: .int x :: rest)) X.here.top) g1]
  rw [W.popN, if_neg (by decide)]
  refine ⟨F0 m pc ls (.int y :: .int x :: rest), State.topJava?_setTop' (s := T.setVm vm1) _ X.here.top, [.int x, .int y], rest, rfl, rfl, ?_⟩
  simp only [List.mapM_cons, List.mapM_nil, wp_bind', wp_pure']
  rw [Op.multianewarray.make]
  simp only [wp_bind', W.ite, hx, if_false, wp_pure', W.theClass]
  refine ⟨kA1, hkA1, ?_⟩
  rw [hA1]
  have hno : List.find? (fun z : Int32 => decide (z < 0)) [y] = none := by simp [hy]
  simp only [wp_bind', hno, ite_self]
  have eS : ((T.setTop (F0 m pc ls (.int y :: .int x :: rest))).setVm vm1).setTop (F0 m pc ls rest) = (T.setVm vm1).setTop (F0 m pc ls rest) := by
    show ((T.setVm vm1).setTop _).setTop _ = _
    rw [State.setTop_setTop]
  rw [eS]
  refine W.newArray_of (k := kA1) (comp := cB) (type := .array .int) hkA1 hA1 l1 l2 (by show T.heap.size < _; omega) (by show T.slotsUsed + _ ≤ _; exact r2) rfl (fun acts' => ?_)
  rw [Std.Legacy.Range.forIn_eq_forIn_range', show ([:x.toNatClampNeg] : Std.Legacy.Range).size = x.toNatClampNeg by simp [Std.Legacy.Range.size]]
  rw [wp_bind']
  refine go (F0 m pc ls rest) _ _ _ _ (fun d' acts2 => ?_)
  simp only [wp_pure', wp_bind', W.mark, W.pushRef]
  refine ⟨_, State.topJava?_setTop' (s := F') _ X3.here.top, fun acts => ?_⟩
  rw [State.setTop_setTop]
  simp [jvm, X3.here.top]
  exact k1
end RR
end
