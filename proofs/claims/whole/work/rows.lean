section
-- ===== PART A: goes FIRST, ahead of the names: the tables' words, and 'selects' of the private methods out of them =====
/-- a private method of a class that the tables say can be made, by its rows of tables_1 -/
def lw_okq (q : MethodName × Nat) : Prop := (q.1.cls ≠ "java/lang/invoke/MethodHandle" ∧ q.1.cls ≠ "java/lang/invoke/VarHandle") ∧ Cond.instantiable q.1.cls q.2 ∈ tables_1 ∧ Cond.privateMethod q.1 ∈ tables_1 ∧ Cond.instanceMethod q.1 ∈ tables_1
theorem lw_p0 : lw_okq (⟨"JamSongs", "found", "(I)I"⟩, 18) := ⟨⟨by decide +kernel, by decide +kernel⟩, List.mem_of_getElem? (i := 11) (by decide +kernel), List.mem_of_getElem? (i := 219) (by decide +kernel), List.mem_of_getElem? (i := 220) (by decide +kernel)⟩
theorem lw_p1 : lw_okq (⟨"JamSongs", "fine", "(I)I"⟩, 18) := ⟨⟨by decide +kernel, by decide +kernel⟩, List.mem_of_getElem? (i := 11) (by decide +kernel), List.mem_of_getElem? (i := 231) (by decide +kernel), List.mem_of_getElem? (i := 232) (by decide +kernel)⟩
theorem lw_p2 : lw_okq (⟨"JamSongs$Tape", "step", "()V"⟩, 7) := ⟨⟨by decide +kernel, by decide +kernel⟩, List.mem_of_getElem? (i := 21) (by decide +kernel), List.mem_of_getElem? (i := 277) (by decide +kernel), List.mem_of_getElem? (i := 278) (by decide +kernel)⟩
theorem lw_p3 : lw_okq (⟨"JamSongs$Tape", "stepNumber", "()V"⟩, 7) := ⟨⟨by decide +kernel, by decide +kernel⟩, List.mem_of_getElem? (i := 21) (by decide +kernel), List.mem_of_getElem? (i := 284) (by decide +kernel), List.mem_of_getElem? (i := 285) (by decide +kernel)⟩
theorem lw_p4 : lw_okq (⟨"JamSongs$Tape", "take", "(I)V"⟩, 7) := ⟨⟨by decide +kernel, by decide +kernel⟩, List.mem_of_getElem? (i := 21) (by decide +kernel), List.mem_of_getElem? (i := 291) (by decide +kernel), List.mem_of_getElem? (i := 292) (by decide +kernel)⟩
theorem lw_p5 : lw_okq (⟨"JamSongs$Tape", "takeNumber", "(II)I"⟩, 7) := ⟨⟨by decide +kernel, by decide +kernel⟩, List.mem_of_getElem? (i := 21) (by decide +kernel), List.mem_of_getElem? (i := 295) (by decide +kernel), List.mem_of_getElem? (i := 296) (by decide +kernel)⟩
theorem lw_p6 : lw_okq (⟨"JamSongs$Tape", "readSinger", "(LJamSongs$Kitchen;I)V"⟩, 7) := ⟨⟨by decide +kernel, by decide +kernel⟩, List.mem_of_getElem? (i := 21) (by decide +kernel), List.mem_of_getElem? (i := 299) (by decide +kernel), List.mem_of_getElem? (i := 300) (by decide +kernel)⟩
theorem lw_p7 : lw_okq (⟨"JamSongs$Tape", "readPan", "(LJamSongs$Kitchen;I)V"⟩, 7) := ⟨⟨by decide +kernel, by decide +kernel⟩, List.mem_of_getElem? (i := 21) (by decide +kernel), List.mem_of_getElem? (i := 306) (by decide +kernel), List.mem_of_getElem? (i := 307) (by decide +kernel)⟩
theorem lw_p8 : lw_okq (⟨"JamSongs", "keepAct", "()V"⟩, 18) := ⟨⟨by decide +kernel, by decide +kernel⟩, List.mem_of_getElem? (i := 11) (by decide +kernel), List.mem_of_getElem? (i := 329) (by decide +kernel), List.mem_of_getElem? (i := 330) (by decide +kernel)⟩
theorem lw_p9 : lw_okq (⟨"JamSongs$Kitchen", "hear", "(I[I)V"⟩, 15) := ⟨⟨by decide +kernel, by decide +kernel⟩, List.mem_of_getElem? (i := 54) (by decide +kernel), List.mem_of_getElem? (i := 346) (by decide +kernel), List.mem_of_getElem? (i := 347) (by decide +kernel)⟩
theorem lw_p10 : lw_okq (⟨"JamSongs$Kitchen", "judge", "(III)I"⟩, 15) := ⟨⟨by decide +kernel, by decide +kernel⟩, List.mem_of_getElem? (i := 54) (by decide +kernel), List.mem_of_getElem? (i := 354) (by decide +kernel), List.mem_of_getElem? (i := 355) (by decide +kernel)⟩
theorem lw_p11 : lw_okq (⟨"JamSongs$Kitchen", "thickBy", "(II)I"⟩, 15) := ⟨⟨by decide +kernel, by decide +kernel⟩, List.mem_of_getElem? (i := 54) (by decide +kernel), List.mem_of_getElem? (i := 361) (by decide +kernel), List.mem_of_getElem? (i := 362) (by decide +kernel)⟩
theorem lw_p12 : lw_okq (⟨"JamSongs", "takeTune", "(LJamSongs$Row;II)I"⟩, 18) := ⟨⟨by decide +kernel, by decide +kernel⟩, List.mem_of_getElem? (i := 11) (by decide +kernel), List.mem_of_getElem? (i := 397) (by decide +kernel), List.mem_of_getElem? (i := 398) (by decide +kernel)⟩
theorem lw_p13 : lw_okq (⟨"JamSongs", "trySolo", "(III)V"⟩, 18) := ⟨⟨by decide +kernel, by decide +kernel⟩, List.mem_of_getElem? (i := 11) (by decide +kernel), List.mem_of_getElem? (i := 401) (by decide +kernel), List.mem_of_getElem? (i := 402) (by decide +kernel)⟩
theorem lw_p14 : lw_okq (⟨"JamSongs", "tryRound", "(II)V"⟩, 18) := ⟨⟨by decide +kernel, by decide +kernel⟩, List.mem_of_getElem? (i := 11) (by decide +kernel), List.mem_of_getElem? (i := 416) (by decide +kernel), List.mem_of_getElem? (i := 417) (by decide +kernel)⟩
theorem lw_p15 : lw_okq (⟨"JamSongs", "seekSong", "(II)V"⟩, 18) := ⟨⟨by decide +kernel, by decide +kernel⟩, List.mem_of_getElem? (i := 11) (by decide +kernel), List.mem_of_getElem? (i := 434) (by decide +kernel), List.mem_of_getElem? (i := 435) (by decide +kernel)⟩
def lw_privs_1 : List (MethodName × Nat) := [(⟨"JamSongs", "found", "(I)I"⟩, 18), (⟨"JamSongs", "fine", "(I)I"⟩, 18), (⟨"JamSongs$Tape", "step", "()V"⟩, 7), (⟨"JamSongs$Tape", "stepNumber", "()V"⟩, 7), (⟨"JamSongs$Tape", "take", "(I)V"⟩, 7), (⟨"JamSongs$Tape", "takeNumber", "(II)I"⟩, 7), (⟨"JamSongs$Tape", "readSinger", "(LJamSongs$Kitchen;I)V"⟩, 7), (⟨"JamSongs$Tape", "readPan", "(LJamSongs$Kitchen;I)V"⟩, 7), (⟨"JamSongs", "keepAct", "()V"⟩, 18), (⟨"JamSongs$Kitchen", "hear", "(I[I)V"⟩, 15), (⟨"JamSongs$Kitchen", "judge", "(III)I"⟩, 15), (⟨"JamSongs$Kitchen", "thickBy", "(II)I"⟩, 15), (⟨"JamSongs", "takeTune", "(LJamSongs$Row;II)I"⟩, 18), (⟨"JamSongs", "trySolo", "(III)V"⟩, 18), (⟨"JamSongs", "tryRound", "(II)V"⟩, 18), (⟨"JamSongs", "seekSong", "(II)V"⟩, 18)]
theorem lw_r1 : ∀ q ∈ lw_privs_1, lw_okq q := List.forall_mem_cons.mpr ⟨lw_p0, List.forall_mem_cons.mpr ⟨lw_p1, List.forall_mem_cons.mpr ⟨lw_p2, List.forall_mem_cons.mpr ⟨lw_p3, List.forall_mem_cons.mpr ⟨lw_p4, List.forall_mem_cons.mpr ⟨lw_p5, List.forall_mem_cons.mpr ⟨lw_p6, List.forall_mem_cons.mpr ⟨lw_p7, List.forall_mem_cons.mpr ⟨lw_p8, List.forall_mem_cons.mpr ⟨lw_p9, List.forall_mem_cons.mpr ⟨lw_p10, List.forall_mem_cons.mpr ⟨lw_p11, List.forall_mem_cons.mpr ⟨lw_p12, List.forall_mem_cons.mpr ⟨lw_p13, List.forall_mem_cons.mpr ⟨lw_p14, List.forall_mem_cons.mpr ⟨lw_p15, fun _ h => absurd h List.not_mem_nil⟩⟩⟩⟩⟩⟩⟩⟩⟩⟩⟩⟩⟩⟩⟩⟩
theorem lw_p16 : lw_okq (⟨"JamSongs", "trySong", "(III)I"⟩, 18) := ⟨⟨by decide +kernel, by decide +kernel⟩, List.mem_of_getElem? (i := 11) (by decide +kernel), List.mem_of_getElem? (i := 438) (by decide +kernel), List.mem_of_getElem? (i := 439) (by decide +kernel)⟩
theorem lw_p17 : lw_okq (⟨"JamSongs", "weighSong", "(II)V"⟩, 18) := ⟨⟨by decide +kernel, by decide +kernel⟩, List.mem_of_getElem? (i := 11) (by decide +kernel), List.mem_of_getElem? (i := 446) (by decide +kernel), List.mem_of_getElem? (i := 447) (by decide +kernel)⟩
theorem lw_p18 : lw_okq (⟨"JamSongs", "setsWithout", "(IIII)Z"⟩, 18) := ⟨⟨by decide +kernel, by decide +kernel⟩, List.mem_of_getElem? (i := 11) (by decide +kernel), List.mem_of_getElem? (i := 455) (by decide +kernel), List.mem_of_getElem? (i := 456) (by decide +kernel)⟩
theorem lw_p19 : lw_okq (⟨"JamSongs", "sizeOfPlums", "(I)I"⟩, 18) := ⟨⟨by decide +kernel, by decide +kernel⟩, List.mem_of_getElem? (i := 11) (by decide +kernel), List.mem_of_getElem? (i := 502) (by decide +kernel), List.mem_of_getElem? (i := 503) (by decide +kernel)⟩
theorem lw_p20 : lw_okq (⟨"JamSongs", "leave", "(I)V"⟩, 18) := ⟨⟨by decide +kernel, by decide +kernel⟩, List.mem_of_getElem? (i := 11) (by decide +kernel), List.mem_of_getElem? (i := 506) (by decide +kernel), List.mem_of_getElem? (i := 507) (by decide +kernel)⟩
theorem lw_p21 : lw_okq (⟨"JamSongs", "plumSize", "(I)I"⟩, 18) := ⟨⟨by decide +kernel, by decide +kernel⟩, List.mem_of_getElem? (i := 11) (by decide +kernel), List.mem_of_getElem? (i := 510) (by decide +kernel), List.mem_of_getElem? (i := 511) (by decide +kernel)⟩
theorem lw_p22 : lw_okq (⟨"JamSongs", "lentSize", "(I)I"⟩, 18) := ⟨⟨by decide +kernel, by decide +kernel⟩, List.mem_of_getElem? (i := 11) (by decide +kernel), List.mem_of_getElem? (i := 514) (by decide +kernel), List.mem_of_getElem? (i := 515) (by decide +kernel)⟩
theorem lw_p23 : lw_okq (⟨"JamSongs", "markOfPlums", "(I)I"⟩, 18) := ⟨⟨by decide +kernel, by decide +kernel⟩, List.mem_of_getElem? (i := 11) (by decide +kernel), List.mem_of_getElem? (i := 518) (by decide +kernel), List.mem_of_getElem? (i := 519) (by decide +kernel)⟩
theorem lw_p24 : lw_okq (⟨"JamSongs", "plumMark", "(I)I"⟩, 18) := ⟨⟨by decide +kernel, by decide +kernel⟩, List.mem_of_getElem? (i := 11) (by decide +kernel), List.mem_of_getElem? (i := 522) (by decide +kernel), List.mem_of_getElem? (i := 523) (by decide +kernel)⟩
theorem lw_p25 : lw_okq (⟨"JamSongs", "lentMark", "(I)I"⟩, 18) := ⟨⟨by decide +kernel, by decide +kernel⟩, List.mem_of_getElem? (i := 11) (by decide +kernel), List.mem_of_getElem? (i := 526) (by decide +kernel), List.mem_of_getElem? (i := 527) (by decide +kernel)⟩
theorem lw_p26 : lw_okq (⟨"JamSongs", "sizeOfMarrows", "(I)I"⟩, 18) := ⟨⟨by decide +kernel, by decide +kernel⟩, List.mem_of_getElem? (i := 11) (by decide +kernel), List.mem_of_getElem? (i := 530) (by decide +kernel), List.mem_of_getElem? (i := 531) (by decide +kernel)⟩
theorem lw_p27 : lw_okq (⟨"JamSongs", "marrowSize", "(I)I"⟩, 18) := ⟨⟨by decide +kernel, by decide +kernel⟩, List.mem_of_getElem? (i := 11) (by decide +kernel), List.mem_of_getElem? (i := 534) (by decide +kernel), List.mem_of_getElem? (i := 535) (by decide +kernel)⟩
theorem lw_p28 : lw_okq (⟨"JamSongs", "markOfMarrows", "(I)I"⟩, 18) := ⟨⟨by decide +kernel, by decide +kernel⟩, List.mem_of_getElem? (i := 11) (by decide +kernel), List.mem_of_getElem? (i := 538) (by decide +kernel), List.mem_of_getElem? (i := 539) (by decide +kernel)⟩
theorem lw_p29 : lw_okq (⟨"JamSongs", "rowsThere", "()I"⟩, 18) := ⟨⟨by decide +kernel, by decide +kernel⟩, List.mem_of_getElem? (i := 11) (by decide +kernel), List.mem_of_getElem? (i := 550) (by decide +kernel), List.mem_of_getElem? (i := 551) (by decide +kernel)⟩
theorem lw_p30 : lw_okq (⟨"JamSongsModel", "find", "(I)I"⟩, 26) := ⟨⟨by decide +kernel, by decide +kernel⟩, List.mem_of_getElem? (i := 558) (by decide +kernel), List.mem_of_getElem? (i := 657) (by decide +kernel), List.mem_of_getElem? (i := 658) (by decide +kernel)⟩
theorem lw_p31 : lw_okq (⟨"JamSongsModel", "well", "(I)I"⟩, 26) := ⟨⟨by decide +kernel, by decide +kernel⟩, List.mem_of_getElem? (i := 558) (by decide +kernel), List.mem_of_getElem? (i := 662) (by decide +kernel), List.mem_of_getElem? (i := 663) (by decide +kernel)⟩
def lw_privs_2 : List (MethodName × Nat) := [(⟨"JamSongs", "trySong", "(III)I"⟩, 18), (⟨"JamSongs", "weighSong", "(II)V"⟩, 18), (⟨"JamSongs", "setsWithout", "(IIII)Z"⟩, 18), (⟨"JamSongs", "sizeOfPlums", "(I)I"⟩, 18), (⟨"JamSongs", "leave", "(I)V"⟩, 18), (⟨"JamSongs", "plumSize", "(I)I"⟩, 18), (⟨"JamSongs", "lentSize", "(I)I"⟩, 18), (⟨"JamSongs", "markOfPlums", "(I)I"⟩, 18), (⟨"JamSongs", "plumMark", "(I)I"⟩, 18), (⟨"JamSongs", "lentMark", "(I)I"⟩, 18), (⟨"JamSongs", "sizeOfMarrows", "(I)I"⟩, 18), (⟨"JamSongs", "marrowSize", "(I)I"⟩, 18), (⟨"JamSongs", "markOfMarrows", "(I)I"⟩, 18), (⟨"JamSongs", "rowsThere", "()I"⟩, 18), (⟨"JamSongsModel", "find", "(I)I"⟩, 26), (⟨"JamSongsModel", "well", "(I)I"⟩, 26)]
theorem lw_r2 : ∀ q ∈ lw_privs_2, lw_okq q := List.forall_mem_cons.mpr ⟨lw_p16, List.forall_mem_cons.mpr ⟨lw_p17, List.forall_mem_cons.mpr ⟨lw_p18, List.forall_mem_cons.mpr ⟨lw_p19, List.forall_mem_cons.mpr ⟨lw_p20, List.forall_mem_cons.mpr ⟨lw_p21, List.forall_mem_cons.mpr ⟨lw_p22, List.forall_mem_cons.mpr ⟨lw_p23, List.forall_mem_cons.mpr ⟨lw_p24, List.forall_mem_cons.mpr ⟨lw_p25, List.forall_mem_cons.mpr ⟨lw_p26, List.forall_mem_cons.mpr ⟨lw_p27, List.forall_mem_cons.mpr ⟨lw_p28, List.forall_mem_cons.mpr ⟨lw_p29, List.forall_mem_cons.mpr ⟨lw_p30, List.forall_mem_cons.mpr ⟨lw_p31, fun _ h => absurd h List.not_mem_nil⟩⟩⟩⟩⟩⟩⟩⟩⟩⟩⟩⟩⟩⟩⟩⟩
theorem lw_p32 : lw_okq (⟨"JamSongsModel", "readKitchen", "()Z"⟩, 26) := ⟨⟨by decide +kernel, by decide +kernel⟩, List.mem_of_getElem? (i := 558) (by decide +kernel), List.mem_of_getElem? (i := 691) (by decide +kernel), List.mem_of_getElem? (i := 692) (by decide +kernel)⟩
theorem lw_p33 : lw_okq (⟨"JamSongsModel", "nextToken", "()V"⟩, 26) := ⟨⟨by decide +kernel, by decide +kernel⟩, List.mem_of_getElem? (i := 558) (by decide +kernel), List.mem_of_getElem? (i := 695) (by decide +kernel), List.mem_of_getElem? (i := 696) (by decide +kernel)⟩
theorem lw_p34 : lw_okq (⟨"JamSongsModel", "takes", "(I)Z"⟩, 26) := ⟨⟨by decide +kernel, by decide +kernel⟩, List.mem_of_getElem? (i := 558) (by decide +kernel), List.mem_of_getElem? (i := 703) (by decide +kernel), List.mem_of_getElem? (i := 704) (by decide +kernel)⟩
theorem lw_p35 : lw_okq (⟨"JamSongsModel", "isLetter", "(I)Z"⟩, 26) := ⟨⟨by decide +kernel, by decide +kernel⟩, List.mem_of_getElem? (i := 558) (by decide +kernel), List.mem_of_getElem? (i := 707) (by decide +kernel), List.mem_of_getElem? (i := 708) (by decide +kernel)⟩
theorem lw_p36 : lw_okq (⟨"JamSongsModel", "faults", "(I)Z"⟩, 26) := ⟨⟨by decide +kernel, by decide +kernel⟩, List.mem_of_getElem? (i := 558) (by decide +kernel), List.mem_of_getElem? (i := 711) (by decide +kernel), List.mem_of_getElem? (i := 712) (by decide +kernel)⟩
theorem lw_p37 : lw_okq (⟨"JamSongsModel", "takesNumber", "(IIII)Z"⟩, 26) := ⟨⟨by decide +kernel, by decide +kernel⟩, List.mem_of_getElem? (i := 558) (by decide +kernel), List.mem_of_getElem? (i := 715) (by decide +kernel), List.mem_of_getElem? (i := 716) (by decide +kernel)⟩
theorem lw_p38 : lw_okq (⟨"JamSongsModel", "readPan", "(I)Z"⟩, 26) := ⟨⟨by decide +kernel, by decide +kernel⟩, List.mem_of_getElem? (i := 558) (by decide +kernel), List.mem_of_getElem? (i := 719) (by decide +kernel), List.mem_of_getElem? (i := 720) (by decide +kernel)⟩
theorem lw_p39 : lw_okq (⟨"JamSongsModel", "readSinger", "()Z"⟩, 26) := ⟨⟨by decide +kernel, by decide +kernel⟩, List.mem_of_getElem? (i := 558) (by decide +kernel), List.mem_of_getElem? (i := 724) (by decide +kernel), List.mem_of_getElem? (i := 725) (by decide +kernel)⟩
theorem lw_p40 : lw_okq (⟨"JamSongsModel", "canSing", "(II)Z"⟩, 26) := ⟨⟨by decide +kernel, by decide +kernel⟩, List.mem_of_getElem? (i := 558) (by decide +kernel), List.mem_of_getElem? (i := 738) (by decide +kernel), List.mem_of_getElem? (i := 739) (by decide +kernel)⟩
theorem lw_p41 : lw_okq (⟨"JamSongsModel", "note", "()V"⟩, 26) := ⟨⟨by decide +kernel, by decide +kernel⟩, List.mem_of_getElem? (i := 558) (by decide +kernel), List.mem_of_getElem? (i := 742) (by decide +kernel), List.mem_of_getElem? (i := 743) (by decide +kernel)⟩
theorem lw_p42 : lw_okq (⟨"JamSongsModel", "oneBar", "()V"⟩, 26) := ⟨⟨by decide +kernel, by decide +kernel⟩, List.mem_of_getElem? (i := 558) (by decide +kernel), List.mem_of_getElem? (i := 746) (by decide +kernel), List.mem_of_getElem? (i := 747) (by decide +kernel)⟩
theorem lw_p43 : lw_okq (⟨"JamSongsModel", "panHears", "(I)V"⟩, 26) := ⟨⟨by decide +kernel, by decide +kernel⟩, List.mem_of_getElem? (i := 558) (by decide +kernel), List.mem_of_getElem? (i := 750) (by decide +kernel), List.mem_of_getElem? (i := 751) (by decide +kernel)⟩
theorem lw_p44 : lw_okq (⟨"JamSongsModel", "setPans", "()I"⟩, 26) := ⟨⟨by decide +kernel, by decide +kernel⟩, List.mem_of_getElem? (i := 558) (by decide +kernel), List.mem_of_getElem? (i := 757) (by decide +kernel), List.mem_of_getElem? (i := 758) (by decide +kernel)⟩
theorem lw_p45 : lw_okq (⟨"JamSongsModel", "isPan", "(I)Z"⟩, 26) := ⟨⟨by decide +kernel, by decide +kernel⟩, List.mem_of_getElem? (i := 558) (by decide +kernel), List.mem_of_getElem? (i := 765) (by decide +kernel), List.mem_of_getElem? (i := 766) (by decide +kernel)⟩
theorem lw_p46 : lw_okq (⟨"JamSongsModel", "isSinger", "(I)Z"⟩, 26) := ⟨⟨by decide +kernel, by decide +kernel⟩, List.mem_of_getElem? (i := 558) (by decide +kernel), List.mem_of_getElem? (i := 769) (by decide +kernel), List.mem_of_getElem? (i := 770) (by decide +kernel)⟩
theorem lw_p47 : lw_okq (⟨"JamSongsModel", "lacks", "(III)I"⟩, 26) := ⟨⟨by decide +kernel, by decide +kernel⟩, List.mem_of_getElem? (i := 558) (by decide +kernel), List.mem_of_getElem? (i := 790) (by decide +kernel), List.mem_of_getElem? (i := 791) (by decide +kernel)⟩
def lw_privs_3 : List (MethodName × Nat) := [(⟨"JamSongsModel", "readKitchen", "()Z"⟩, 26), (⟨"JamSongsModel", "nextToken", "()V"⟩, 26), (⟨"JamSongsModel", "takes", "(I)Z"⟩, 26), (⟨"JamSongsModel", "isLetter", "(I)Z"⟩, 26), (⟨"JamSongsModel", "faults", "(I)Z"⟩, 26), (⟨"JamSongsModel", "takesNumber", "(IIII)Z"⟩, 26), (⟨"JamSongsModel", "readPan", "(I)Z"⟩, 26), (⟨"JamSongsModel", "readSinger", "()Z"⟩, 26), (⟨"JamSongsModel", "canSing", "(II)Z"⟩, 26), (⟨"JamSongsModel", "note", "()V"⟩, 26), (⟨"JamSongsModel", "oneBar", "()V"⟩, 26), (⟨"JamSongsModel", "panHears", "(I)V"⟩, 26), (⟨"JamSongsModel", "setPans", "()I"⟩, 26), (⟨"JamSongsModel", "isPan", "(I)Z"⟩, 26), (⟨"JamSongsModel", "isSinger", "(I)Z"⟩, 26), (⟨"JamSongsModel", "lacks", "(III)I"⟩, 26)]
theorem lw_r3 : ∀ q ∈ lw_privs_3, lw_okq q := List.forall_mem_cons.mpr ⟨lw_p32, List.forall_mem_cons.mpr ⟨lw_p33, List.forall_mem_cons.mpr ⟨lw_p34, List.forall_mem_cons.mpr ⟨lw_p35, List.forall_mem_cons.mpr ⟨lw_p36, List.forall_mem_cons.mpr ⟨lw_p37, List.forall_mem_cons.mpr ⟨lw_p38, List.forall_mem_cons.mpr ⟨lw_p39, List.forall_mem_cons.mpr ⟨lw_p40, List.forall_mem_cons.mpr ⟨lw_p41, List.forall_mem_cons.mpr ⟨lw_p42, List.forall_mem_cons.mpr ⟨lw_p43, List.forall_mem_cons.mpr ⟨lw_p44, List.forall_mem_cons.mpr ⟨lw_p45, List.forall_mem_cons.mpr ⟨lw_p46, List.forall_mem_cons.mpr ⟨lw_p47, fun _ h => absurd h List.not_mem_nil⟩⟩⟩⟩⟩⟩⟩⟩⟩⟩⟩⟩⟩⟩⟩⟩
theorem lw_p48 : lw_okq (⟨"JamSongsModel", "putAside", "()V"⟩, 26) := ⟨⟨by decide +kernel, by decide +kernel⟩, List.mem_of_getElem? (i := 558) (by decide +kernel), List.mem_of_getElem? (i := 794) (by decide +kernel), List.mem_of_getElem? (i := 795) (by decide +kernel)⟩
theorem lw_p49 : lw_okq (⟨"JamSongsModel", "singAlone", "(IIII)V"⟩, 26) := ⟨⟨by decide +kernel, by decide +kernel⟩, List.mem_of_getElem? (i := 558) (by decide +kernel), List.mem_of_getElem? (i := 798) (by decide +kernel), List.mem_of_getElem? (i := 799) (by decide +kernel)⟩
theorem lw_p50 : lw_okq (⟨"JamSongsModel", "allRest", "()V"⟩, 26) := ⟨⟨by decide +kernel, by decide +kernel⟩, List.mem_of_getElem? (i := 558) (by decide +kernel), List.mem_of_getElem? (i := 802) (by decide +kernel), List.mem_of_getElem? (i := 803) (by decide +kernel)⟩
theorem lw_p51 : lw_okq (⟨"JamSongsModel", "takeBack", "()V"⟩, 26) := ⟨⟨by decide +kernel, by decide +kernel⟩, List.mem_of_getElem? (i := 558) (by decide +kernel), List.mem_of_getElem? (i := 806) (by decide +kernel), List.mem_of_getElem? (i := 807) (by decide +kernel)⟩
theorem lw_p52 : lw_okq (⟨"JamSongsModel", "singRound", "(III)V"⟩, 26) := ⟨⟨by decide +kernel, by decide +kernel⟩, List.mem_of_getElem? (i := 558) (by decide +kernel), List.mem_of_getElem? (i := 815) (by decide +kernel), List.mem_of_getElem? (i := 816) (by decide +kernel)⟩
theorem lw_p53 : lw_okq (⟨"JamSongsModel", "singsRow", "(II)Z"⟩, 26) := ⟨⟨by decide +kernel, by decide +kernel⟩, List.mem_of_getElem? (i := 558) (by decide +kernel), List.mem_of_getElem? (i := 832) (by decide +kernel), List.mem_of_getElem? (i := 833) (by decide +kernel)⟩
theorem lw_p54 : lw_okq (⟨"JamSongsModel", "sizeOf", "(I)I"⟩, 26) := ⟨⟨by decide +kernel, by decide +kernel⟩, List.mem_of_getElem? (i := 558) (by decide +kernel), List.mem_of_getElem? (i := 874) (by decide +kernel), List.mem_of_getElem? (i := 875) (by decide +kernel)⟩
theorem lw_p55 : lw_okq (⟨"JamSongsModel", "begin", "(I)V"⟩, 26) := ⟨⟨by decide +kernel, by decide +kernel⟩, List.mem_of_getElem? (i := 558) (by decide +kernel), List.mem_of_getElem? (i := 878) (by decide +kernel), List.mem_of_getElem? (i := 879) (by decide +kernel)⟩
theorem lw_p56 : lw_okq (⟨"JamSongsModel", "plumSize", "(I)I"⟩, 26) := ⟨⟨by decide +kernel, by decide +kernel⟩, List.mem_of_getElem? (i := 558) (by decide +kernel), List.mem_of_getElem? (i := 882) (by decide +kernel), List.mem_of_getElem? (i := 883) (by decide +kernel)⟩
theorem lw_p57 : lw_okq (⟨"JamSongsModel", "lent", "(II)I"⟩, 26) := ⟨⟨by decide +kernel, by decide +kernel⟩, List.mem_of_getElem? (i := 558) (by decide +kernel), List.mem_of_getElem? (i := 886) (by decide +kernel), List.mem_of_getElem? (i := 887) (by decide +kernel)⟩
theorem lw_p58 : lw_okq (⟨"JamSongsModel", "markOf", "(I)I"⟩, 26) := ⟨⟨by decide +kernel, by decide +kernel⟩, List.mem_of_getElem? (i := 558) (by decide +kernel), List.mem_of_getElem? (i := 890) (by decide +kernel), List.mem_of_getElem? (i := 891) (by decide +kernel)⟩
theorem lw_p59 : lw_okq (⟨"JamSongsModel", "plumMark", "(I)I"⟩, 26) := ⟨⟨by decide +kernel, by decide +kernel⟩, List.mem_of_getElem? (i := 558) (by decide +kernel), List.mem_of_getElem? (i := 894) (by decide +kernel), List.mem_of_getElem? (i := 895) (by decide +kernel)⟩
theorem lw_p60 : lw_okq (⟨"JamSongsModel", "sizeOfMarrow", "(I)I"⟩, 26) := ⟨⟨by decide +kernel, by decide +kernel⟩, List.mem_of_getElem? (i := 558) (by decide +kernel), List.mem_of_getElem? (i := 898) (by decide +kernel), List.mem_of_getElem? (i := 899) (by decide +kernel)⟩
theorem lw_p61 : lw_okq (⟨"JamSongsModel", "marrowSize", "(I)I"⟩, 26) := ⟨⟨by decide +kernel, by decide +kernel⟩, List.mem_of_getElem? (i := 558) (by decide +kernel), List.mem_of_getElem? (i := 902) (by decide +kernel), List.mem_of_getElem? (i := 903) (by decide +kernel)⟩
def lw_privs_4 : List (MethodName × Nat) := [(⟨"JamSongsModel", "putAside", "()V"⟩, 26), (⟨"JamSongsModel", "singAlone", "(IIII)V"⟩, 26), (⟨"JamSongsModel", "allRest", "()V"⟩, 26), (⟨"JamSongsModel", "takeBack", "()V"⟩, 26), (⟨"JamSongsModel", "singRound", "(III)V"⟩, 26), (⟨"JamSongsModel", "singsRow", "(II)Z"⟩, 26), (⟨"JamSongsModel", "sizeOf", "(I)I"⟩, 26), (⟨"JamSongsModel", "begin", "(I)V"⟩, 26), (⟨"JamSongsModel", "plumSize", "(I)I"⟩, 26), (⟨"JamSongsModel", "lent", "(II)I"⟩, 26), (⟨"JamSongsModel", "markOf", "(I)I"⟩, 26), (⟨"JamSongsModel", "plumMark", "(I)I"⟩, 26), (⟨"JamSongsModel", "sizeOfMarrow", "(I)I"⟩, 26), (⟨"JamSongsModel", "marrowSize", "(I)I"⟩, 26)]
theorem lw_r4 : ∀ q ∈ lw_privs_4, lw_okq q := List.forall_mem_cons.mpr ⟨lw_p48, List.forall_mem_cons.mpr ⟨lw_p49, List.forall_mem_cons.mpr ⟨lw_p50, List.forall_mem_cons.mpr ⟨lw_p51, List.forall_mem_cons.mpr ⟨lw_p52, List.forall_mem_cons.mpr ⟨lw_p53, List.forall_mem_cons.mpr ⟨lw_p54, List.forall_mem_cons.mpr ⟨lw_p55, List.forall_mem_cons.mpr ⟨lw_p56, List.forall_mem_cons.mpr ⟨lw_p57, List.forall_mem_cons.mpr ⟨lw_p58, List.forall_mem_cons.mpr ⟨lw_p59, List.forall_mem_cons.mpr ⟨lw_p60, List.forall_mem_cons.mpr ⟨lw_p61, fun _ h => absurd h List.not_mem_nil⟩⟩⟩⟩⟩⟩⟩⟩⟩⟩⟩⟩⟩⟩
def lw_privs : List (MethodName × Nat) := lw_privs_1 ++ (lw_privs_2 ++ (lw_privs_3 ++ (lw_privs_4)))
def lw_tbl : List Cond := k2_sels lw_privs ++ tables_1
theorem lw_privs_ok : ∀ q ∈ lw_privs, lw_okq q := by
  show ∀ q ∈ lw_privs_1 ++ (lw_privs_2 ++ (lw_privs_3 ++ (lw_privs_4))), lw_okq q
  exact List.forall_mem_append.mpr ⟨lw_r1, List.forall_mem_append.mpr ⟨lw_r2, List.forall_mem_append.mpr ⟨lw_r3, lw_r4⟩⟩⟩
end
section
/-! ===== BEGIN words of one list among another's, by their places ===== -/
theorem goodIn_r {big : List Cond} (ws : List Cond) (ps : List Nat) (hp : ws = ps.filterMap (fun i => big[i]?)) (h : ws.all goodWord = true) : GoodIn big ws := by
  intro w hw
  have h1 := List.all_eq_true.mp h w hw
  rw [hp] at hw
  obtain ⟨i, -, hi⟩ := List.mem_filterMap.mp hw
  have hm : w ∈ big := by first | exact List.mem_of_getElem? hi | exact List.getElem?_mem hi
  exact ⟨hm, good_of_word h1⟩
theorem goodIn_app {big a b : List Cond} (ha : GoodIn big a) (hb : GoodIn big b) : GoodIn big (a ++ b) := fun w h => (List.mem_append.mp h).elim (ha w) (hb w)
theorem goodIn_ca {big a b : List Cond} {c : Cond} (ha : GoodIn big (c :: a)) (hb : GoodIn big b) : GoodIn big (c :: (a ++ b)) := fun w h => (List.mem_cons.mp h).elim (fun e => ha w (List.mem_cons.mpr (Or.inl e))) (fun h => (List.mem_append.mp h).elim (fun h => ha w (List.mem_cons.mpr (Or.inr h))) (hb w))
theorem goodIn_sub {big ws : List Cond} (hm : ∀ w ∈ ws, w ∈ big) (h : ws.all goodWord = true) : GoodIn big ws := fun w hw => ⟨hm w hw, good_of_word (List.all_eq_true.mp h w hw)⟩
/-! ===== END ===== -/
/-! ===== BEGIN printed: names, fields, word lists, decode rows ===== -/
def RX0 : String := "JamSongs$Kitchen"
def TX0 : u_T := fun k => match k with
  | 0 => ("JamSongs$Kitchen", "told", "Z", false)
  | 1 => ("JamSongs$Kitchen", "back", "I", false)
  | 2 => ("JamSongs$Kitchen", "singers", "I", false)
  | 3 => ("JamSongs$Kitchen", "low", "[I", true)
  | 4 => ("JamSongs$Kitchen", "high", "[I", true)
  | 5 => ("JamSongs$Kitchen", "breath", "[I", true)
  | 6 => ("JamSongs$Kitchen", "pans", "I", false)
  | 7 => ("JamSongs$Kitchen", "kind", "[I", true)
  | 8 => ("JamSongs$Kitchen", "mode", "[I", true)
  | 9 => ("JamSongs$Kitchen", "needs", "[I", true)
  | 10 => ("JamSongs$Kitchen", "bar", "I", false)
  | 11 => ("JamSongs$Kitchen", "sung", "[I", true)
  | 12 => ("JamSongs$Kitchen", "hears", "[I", true)
  | 13 => ("JamSongs$Kitchen", "thick", "[I", true)
  | _ => ("JamSongs$Kitchen", "heard", "[I", true)
def tyX0 : Nat → FieldType := fun k => match k with
  | 0 => .boolean
  | 1 => .int
  | 2 => .int
  | 3 => .array .int
  | 4 => .array .int
  | 5 => .array .int
  | 6 => .int
  | 7 => .array .int
  | 8 => .array .int
  | 9 => .array .int
  | 10 => .int
  | 11 => .array .int
  | 12 => .array .int
  | 13 => .array .int
  | _ => .array .int
abbrev wsX00 : List Cond := u_ws RX0 TX0 15
theorem nmX0 : ∀ a, a < 15 → ∀ b, b < 15 → a ≠ b → (TX0 a).2.1 ≠ (TX0 b).2.1 := by decide +kernel
theorem tyX0_ok : ∀ k, k < 15 → parseFieldDescriptor (TX0 k).2.2.1 = some (tyX0 k) := by decide +kernel
abbrev cX0_init : ByteArray := prog_2_method_1_code
def yX0_init : MethodName := ⟨RX0, "<init>", "()V"⟩
abbrev cX0_begin : ByteArray := prog_2_method_2_code
def yX0_begin : MethodName := ⟨RX0, "begin", "()V"⟩
abbrev cX0_takeFrom : ByteArray := prog_2_method_3_code
def yX0_takeFrom : MethodName := ⟨RX0, "takeFrom", "(LJamSongs$Kitchen;)V"⟩
abbrev cX0_keep : ByteArray := prog_2_method_4_code
def yX0_keep : MethodName := ⟨RX0, "keep", "([I)V"⟩
abbrev cX0_bring : ByteArray := prog_2_method_5_code
def yX0_bring : MethodName := ⟨RX0, "bring", "([I)V"⟩
abbrev cX0_can : ByteArray := prog_2_method_6_code
def yX0_can : MethodName := ⟨RX0, "can", "(II)Z"⟩
abbrev cX0_isSet : ByteArray := prog_2_method_7_code
def yX0_isSet : MethodName := ⟨RX0, "isSet", "(I)Z"⟩
abbrev cX0_setPans : ByteArray := prog_2_method_8_code
def yX0_setPans : MethodName := ⟨RX0, "setPans", "()I"⟩
abbrev cX0_tryBar : ByteArray := prog_2_method_9_code
def yX0_tryBar : MethodName := ⟨RX0, "tryBar", "([I)V"⟩
abbrev cX0_singBar : ByteArray := prog_2_method_10_code
def yX0_singBar : MethodName := ⟨RX0, "singBar", "([I)V"⟩
abbrev cX0_hear : ByteArray := prog_2_method_11_code
def yX0_hear : MethodName := ⟨RX0, "hear", "(I[I)V"⟩
abbrev cX0_judge : ByteArray := prog_2_method_12_code
def yX0_judge : MethodName := ⟨RX0, "judge", "(III)I"⟩
abbrev cX0_thickBy : ByteArray := prog_2_method_13_code
def yX0_thickBy : MethodName := ⟨RX0, "thickBy", "(II)I"⟩
def RX1 : String := "JamSongs$Row"
def TX1 : u_T := fun k => match k with
  | 0 => ("JamSongs$Row", "there", "Z", false)
  | 1 => ("JamSongs$Row", "lane", "I", false)
  | 2 => ("JamSongs$Row", "size", "I", false)
  | _ => ("JamSongs$Row", "items", "[I", true)
def tyX1 : Nat → FieldType := fun k => match k with
  | 0 => .boolean
  | 1 => .int
  | 2 => .int
  | _ => .array .int
abbrev wsX10 : List Cond := u_ws RX1 TX1 4
theorem nmX1 : ∀ a, a < 4 → ∀ b, b < 4 → a ≠ b → (TX1 a).2.1 ≠ (TX1 b).2.1 := by decide +kernel
theorem tyX1_ok : ∀ k, k < 4 → parseFieldDescriptor (TX1 k).2.2.1 = some (tyX1 k) := by decide +kernel
abbrev cX1_init : ByteArray := prog_3_method_1_code
def yX1_init : MethodName := ⟨RX1, "<init>", "()V"⟩
abbrev cX1_begin : ByteArray := prog_3_method_2_code
def yX1_begin : MethodName := ⟨RX1, "begin", "(II)V"⟩
abbrev cX1_reaches : ByteArray := prog_3_method_3_code
def yX1_reaches : MethodName := ⟨RX1, "reaches", "(II)Z"⟩
abbrev cX1_cut : ByteArray := prog_3_method_4_code
def yX1_cut : MethodName := ⟨RX1, "cut", "(I)I"⟩
def RX2 : String := "JamSongs$Tape"
def TX2 : u_T := fun k => match k with
  | 0 => ("JamSongs$Tape", "bytes", "[I", true)
  | 1 => ("JamSongs$Tape", "size", "I", false)
  | 2 => ("JamSongs$Tape", "place", "I", false)
  | 3 => ("JamSongs$Tape", "next", "I", false)
  | 4 => ("JamSongs$Tape", "token", "I", false)
  | 5 => ("JamSongs$Tape", "value", "I", false)
  | _ => ("JamSongs$Tape", "fault", "I", false)
def tyX2 : Nat → FieldType := fun k => match k with
  | 0 => .array .int
  | 1 => .int
  | 2 => .int
  | 3 => .int
  | 4 => .int
  | 5 => .int
  | _ => .int
abbrev wsX20 : List Cond := u_ws RX2 TX2 7
theorem nmX2 : ∀ a, a < 7 → ∀ b, b < 7 → a ≠ b → (TX2 a).2.1 ≠ (TX2 b).2.1 := by decide +kernel
theorem tyX2_ok : ∀ k, k < 7 → parseFieldDescriptor (TX2 k).2.2.1 = some (tyX2 k) := by decide +kernel
abbrev cX2_init : ByteArray := prog_4_method_1_code
def yX2_init : MethodName := ⟨RX2, "<init>", "()V"⟩
abbrev cX2_readInto : ByteArray := prog_4_method_2_code
def yX2_readInto : MethodName := ⟨RX2, "readInto", "(LJamSongs$Kitchen;)V"⟩
abbrev cX2_readSinger : ByteArray := prog_4_method_3_code
def yX2_readSinger : MethodName := ⟨RX2, "readSinger", "(LJamSongs$Kitchen;I)V"⟩
abbrev cX2_readPan : ByteArray := prog_4_method_4_code
def yX2_readPan : MethodName := ⟨RX2, "readPan", "(LJamSongs$Kitchen;I)V"⟩
abbrev cX2_kindOf : ByteArray := prog_4_method_5_code
def yX2_kindOf : MethodName := ⟨RX2, "kindOf", "(I)I"⟩
abbrev cX2_take : ByteArray := prog_4_method_6_code
def yX2_take : MethodName := ⟨RX2, "take", "(I)V"⟩
abbrev cX2_takeNumber : ByteArray := prog_4_method_7_code
def yX2_takeNumber : MethodName := ⟨RX2, "takeNumber", "(II)I"⟩
abbrev cX2_step : ByteArray := prog_4_method_8_code
def yX2_step : MethodName := ⟨RX2, "step", "()V"⟩
abbrev cX2_stepNumber : ByteArray := prog_4_method_9_code
def yX2_stepNumber : MethodName := ⟨RX2, "stepNumber", "()V"⟩
abbrev cX2_isFigure : ByteArray := prog_4_method_10_code
def yX2_isFigure : MethodName := ⟨RX2, "isFigure", "(I)Z"⟩
def RX3 : String := "JamSongs"
def TX3 : u_T := fun k => match k with
  | 0 => ("JamSongs", "rows", "[LJamSongs$Row;", true)
  | 1 => ("JamSongs", "tape", "LJamSongs$Tape;", true)
  | 2 => ("JamSongs", "now", "LJamSongs$Kitchen;", true)
  | 3 => ("JamSongs", "trial", "LJamSongs$Kitchen;", true)
  | 4 => ("JamSongs", "images", "[LJamSongs$Kitchen;", true)
  | 5 => ("JamSongs", "acts", "[[I", true)
  | 6 => ("JamSongs", "kept", "I", false)
  | 7 => ("JamSongs", "nextAct", "I", false)
  | 8 => ("JamSongs", "voices", "[I", true)
  | 9 => ("JamSongs", "tune", "[I", true)
  | 10 => ("JamSongs", "songBars", "[[I", true)
  | 11 => ("JamSongs", "bestSong", "I", false)
  | 12 => ("JamSongs", "bestSet", "I", false)
  | 13 => ("JamSongs", "bestNotes", "I", false)
  | 14 => ("JamSongs", "traced", "[I", true)
  | 15 => ("JamSongs", "bodies", "I", false)
  | 16 => ("JamSongs", "latestFault", "I", false)
  | _ => ("JamSongs", "latestFinding", "I", false)
def tyX3 : Nat → FieldType := fun k => match k with
  | 0 => .array (.object "JamSongs$Row")
  | 1 => .object "JamSongs$Tape"
  | 2 => .object "JamSongs$Kitchen"
  | 3 => .object "JamSongs$Kitchen"
  | 4 => .array (.object "JamSongs$Kitchen")
  | 5 => .array (.array .int)
  | 6 => .int
  | 7 => .int
  | 8 => .array .int
  | 9 => .array .int
  | 10 => .array (.array .int)
  | 11 => .int
  | 12 => .int
  | 13 => .int
  | 14 => .array .int
  | 15 => .int
  | 16 => .int
  | _ => .int
abbrev wsX30 : List Cond := u_ws RX3 TX3 18
theorem nmX3 : ∀ a, a < 18 → ∀ b, b < 18 → a ≠ b → (TX3 a).2.1 ≠ (TX3 b).2.1 := by decide +kernel
theorem tyX3_ok : ∀ k, k < 18 → parseFieldDescriptor (TX3 k).2.2.1 = some (tyX3 k) := by decide +kernel
abbrev cX3_init : ByteArray := prog_1_method_1_code
def yX3_init : MethodName := ⟨RX3, "<init>", "()V"⟩
abbrev cX3_row : ByteArray := prog_1_method_2_code
def yX3_row : MethodName := ⟨RX3, "row", "(III)I"⟩
abbrev cX3_set : ByteArray := prog_1_method_3_code
def yX3_set : MethodName := ⟨RX3, "set", "(III)I"⟩
abbrev cX3_copy : ByteArray := prog_1_method_4_code
def yX3_copy : MethodName := ⟨RX3, "copy", "(IIIII)I"⟩
abbrev cX3_drop : ByteArray := prog_1_method_5_code
def yX3_drop : MethodName := ⟨RX3, "drop", "(I)I"⟩
abbrev cX3_feed : ByteArray := prog_1_method_6_code
def yX3_feed : MethodName := ⟨RX3, "feed", "(I)I"⟩
abbrev cX3_kitchen : ByteArray := prog_1_method_7_code
def yX3_kitchen : MethodName := ⟨RX3, "kitchen", "()I"⟩
abbrev cX3_fault : ByteArray := prog_1_method_8_code
def yX3_fault : MethodName := ⟨RX3, "fault", "()I"⟩
abbrev cX3_bar : ByteArray := prog_1_method_9_code
def yX3_bar : MethodName := ⟨RX3, "bar", "(III)I"⟩
abbrev cX3_window : ByteArray := prog_1_method_10_code
def yX3_window : MethodName := ⟨RX3, "window", "(III)I"⟩
abbrev cX3_undo : ByteArray := prog_1_method_11_code
def yX3_undo : MethodName := ⟨RX3, "undo", "()I"⟩
abbrev cX3_pan : ByteArray := prog_1_method_12_code
def yX3_pan : MethodName := ⟨RX3, "pan", "(II)I"⟩
abbrev cX3_singer : ByteArray := prog_1_method_13_code
def yX3_singer : MethodName := ⟨RX3, "singer", "(II)I"⟩
abbrev cX3_alone : ByteArray := prog_1_method_14_code
def yX3_alone : MethodName := ⟨RX3, "alone", "(IIII)I"⟩
abbrev cX3_round : ByteArray := prog_1_method_15_code
def yX3_round : MethodName := ⟨RX3, "round", "(IIII)I"⟩
abbrev cX3_bestRound : ByteArray := prog_1_method_16_code
def yX3_bestRound : MethodName := ⟨RX3, "bestRound", "(IIII)I"⟩
abbrev cX3_song : ByteArray := prog_1_method_17_code
def yX3_song : MethodName := ⟨RX3, "song", "(III)I"⟩
abbrev cX3_toShut : ByteArray := prog_1_method_18_code
def yX3_toShut : MethodName := ⟨RX3, "toShut", "(IIIIII)I"⟩
abbrev cX3_modes : ByteArray := prog_1_method_19_code
def yX3_modes : MethodName := ⟨RX3, "modes", "(IIIIIII)I"⟩
abbrev cX3_coughs : ByteArray := prog_1_method_20_code
def yX3_coughs : MethodName := ⟨RX3, "coughs", "(IIIIIII)I"⟩
abbrev cX3_image : ByteArray := prog_1_method_21_code
def yX3_image : MethodName := ⟨RX3, "image", "(I)I"⟩
abbrev cX3_restore : ByteArray := prog_1_method_22_code
def yX3_restore : MethodName := ⟨RX3, "restore", "(I)I"⟩
abbrev cX3_kind : ByteArray := prog_1_method_23_code
def yX3_kind : MethodName := ⟨RX3, "kind", "(I)I"⟩
abbrev cX3_as : ByteArray := prog_1_method_24_code
def yX3_as : MethodName := ⟨RX3, "as", "(II)I"⟩
abbrev cX3_ask : ByteArray := prog_1_method_25_code
def yX3_ask : MethodName := ⟨RX3, "ask", "(II)I"⟩
abbrev cX3_trace : ByteArray := prog_1_method_26_code
def yX3_trace : MethodName := ⟨RX3, "trace", "(I)I"⟩
abbrev cX3_count : ByteArray := prog_1_method_27_code
def yX3_count : MethodName := ⟨RX3, "count", "(I)I"⟩
abbrev cX3_status : ByteArray := prog_1_method_28_code
def yX3_status : MethodName := ⟨RX3, "status", "()I"⟩
abbrev cX3_isNot : ByteArray := prog_1_method_29_code
def yX3_isNot : MethodName := ⟨RX3, "isNot", "(II)Z"⟩
abbrev cX3_found : ByteArray := prog_1_method_30_code
def yX3_found : MethodName := ⟨RX3, "found", "(I)I"⟩
abbrev cX3_fine : ByteArray := prog_1_method_31_code
def yX3_fine : MethodName := ⟨RX3, "fine", "(I)I"⟩
abbrev cX3_rowsThere : ByteArray := prog_1_method_32_code
def yX3_rowsThere : MethodName := ⟨RX3, "rowsThere", "()I"⟩
abbrev cX3_keepAct : ByteArray := prog_1_method_33_code
def yX3_keepAct : MethodName := ⟨RX3, "keepAct", "()V"⟩
abbrev cX3_takeTune : ByteArray := prog_1_method_34_code
def yX3_takeTune : MethodName := ⟨RX3, "takeTune", "(LJamSongs$Row;II)I"⟩
abbrev cX3_trySolo : ByteArray := prog_1_method_35_code
def yX3_trySolo : MethodName := ⟨RX3, "trySolo", "(III)V"⟩
abbrev cX3_tryRound : ByteArray := prog_1_method_36_code
def yX3_tryRound : MethodName := ⟨RX3, "tryRound", "(II)V"⟩
abbrev cX3_setsWithout : ByteArray := prog_1_method_37_code
def yX3_setsWithout : MethodName := ⟨RX3, "setsWithout", "(IIII)Z"⟩
abbrev cX3_seekSong : ByteArray := prog_1_method_38_code
def yX3_seekSong : MethodName := ⟨RX3, "seekSong", "(II)V"⟩
abbrev cX3_trySong : ByteArray := prog_1_method_39_code
def yX3_trySong : MethodName := ⟨RX3, "trySong", "(III)I"⟩
abbrev cX3_weighSong : ByteArray := prog_1_method_40_code
def yX3_weighSong : MethodName := ⟨RX3, "weighSong", "(II)V"⟩
abbrev cX3_noteOf : ByteArray := prog_1_method_41_code
def yX3_noteOf : MethodName := ⟨RX3, "noteOf", "(III)I"⟩
abbrev cX3_weightOf : ByteArray := prog_1_method_42_code
def yX3_weightOf : MethodName := ⟨RX3, "weightOf", "(III)I"⟩
abbrev cX3_power : ByteArray := prog_1_method_43_code
def yX3_power : MethodName := ⟨RX3, "power", "(II)I"⟩
abbrev cX3_commonDivisor : ByteArray := prog_1_method_44_code
def yX3_commonDivisor : MethodName := ⟨RX3, "commonDivisor", "(II)I"⟩
abbrev cX3_isOf : ByteArray := prog_1_method_45_code
def yX3_isOf : MethodName := ⟨RX3, "isOf", "(II)Z"⟩
abbrev cX3_leave : ByteArray := prog_1_method_46_code
def yX3_leave : MethodName := ⟨RX3, "leave", "(I)V"⟩
abbrev cX3_lentSize : ByteArray := prog_1_method_47_code
def yX3_lentSize : MethodName := ⟨RX3, "lentSize", "(I)I"⟩
abbrev cX3_sizeOfPlums : ByteArray := prog_1_method_48_code
def yX3_sizeOfPlums : MethodName := ⟨RX3, "sizeOfPlums", "(I)I"⟩
abbrev cX3_plumSize : ByteArray := prog_1_method_49_code
def yX3_plumSize : MethodName := ⟨RX3, "plumSize", "(I)I"⟩
abbrev cX3_sizeOfMarrows : ByteArray := prog_1_method_50_code
def yX3_sizeOfMarrows : MethodName := ⟨RX3, "sizeOfMarrows", "(I)I"⟩
abbrev cX3_marrowSize : ByteArray := prog_1_method_51_code
def yX3_marrowSize : MethodName := ⟨RX3, "marrowSize", "(I)I"⟩
abbrev cX3_lentMark : ByteArray := prog_1_method_52_code
def yX3_lentMark : MethodName := ⟨RX3, "lentMark", "(I)I"⟩
abbrev cX3_markOfPlums : ByteArray := prog_1_method_53_code
def yX3_markOfPlums : MethodName := ⟨RX3, "markOfPlums", "(I)I"⟩
abbrev cX3_plumMark : ByteArray := prog_1_method_54_code
def yX3_plumMark : MethodName := ⟨RX3, "plumMark", "(I)I"⟩
abbrev cX3_markOfMarrows : ByteArray := prog_1_method_55_code
def yX3_markOfMarrows : MethodName := ⟨RX3, "markOfMarrows", "(I)I"⟩
def RX4 : String := "JamSongsModel"
def TX4 : u_T := fun k => match k with
  | 0 => ("JamSongsModel", "lanes", "[I", true)
  | 1 => ("JamSongsModel", "sizes", "[I", true)
  | 2 => ("JamSongsModel", "items", "[I", true)
  | 3 => ("JamSongsModel", "status", "I", false)
  | 4 => ("JamSongsModel", "isThere", "Z", false)
  | 5 => ("JamSongsModel", "st", "[I", true)
  | 6 => ("JamSongsModel", "moved", "[I", true)
  | 7 => ("JamSongsModel", "tape", "[I", true)
  | 8 => ("JamSongsModel", "bytes", "I", false)
  | 9 => ("JamSongsModel", "latest", "I", false)
  | 10 => ("JamSongsModel", "place", "I", false)
  | 11 => ("JamSongsModel", "token", "I", false)
  | 12 => ("JamSongsModel", "value", "I", false)
  | 13 => ("JamSongsModel", "begins", "I", false)
  | 14 => ("JamSongsModel", "wrong", "I", false)
  | 15 => ("JamSongsModel", "read", "[I", true)
  | 16 => ("JamSongsModel", "notes", "[I", true)
  | 17 => ("JamSongsModel", "acts", "[I", true)
  | 18 => ("JamSongsModel", "actMany", "I", false)
  | 19 => ("JamSongsModel", "aside", "[I", true)
  | 20 => ("JamSongsModel", "row", "[I", true)
  | 21 => ("JamSongsModel", "noteMany", "I", false)
  | 22 => ("JamSongsModel", "isKept", "[Z", true)
  | 23 => ("JamSongsModel", "kept", "[I", true)
  | 24 => ("JamSongsModel", "trace", "[I", true)
  | _ => ("JamSongsModel", "traced", "I", false)
def tyX4 : Nat → FieldType := fun k => match k with
  | 0 => .array .int
  | 1 => .array .int
  | 2 => .array .int
  | 3 => .int
  | 4 => .boolean
  | 5 => .array .int
  | 6 => .array .int
  | 7 => .array .int
  | 8 => .int
  | 9 => .int
  | 10 => .int
  | 11 => .int
  | 12 => .int
  | 13 => .int
  | 14 => .int
  | 15 => .array .int
  | 16 => .array .int
  | 17 => .array .int
  | 18 => .int
  | 19 => .array .int
  | 20 => .array .int
  | 21 => .int
  | 22 => .array .boolean
  | 23 => .array .int
  | 24 => .array .int
  | _ => .int
abbrev wsX40 : List Cond := u_ws RX4 TX4 26
theorem nmX4 : ∀ a, a < 26 → ∀ b, b < 26 → a ≠ b → (TX4 a).2.1 ≠ (TX4 b).2.1 := by decide +kernel
theorem tyX4_ok : ∀ k, k < 26 → parseFieldDescriptor (TX4 k).2.2.1 = some (tyX4 k) := by decide +kernel
abbrev cX4_init : ByteArray := prog_6_method_1_code
def yX4_init : MethodName := ⟨RX4, "<init>", "()V"⟩
abbrev cX4_in : ByteArray := prog_6_method_2_code
def yX4_in : MethodName := ⟨RX4, "in", "(JJJ)Z"⟩
abbrev cX4_has : ByteArray := prog_6_method_3_code
def yX4_has : MethodName := ⟨RX4, "has", "(II)Z"⟩
abbrev cX4_ones : ByteArray := prog_6_method_4_code
def yX4_ones : MethodName := ⟨RX4, "ones", "(I)I"⟩
abbrev cX4_find : ByteArray := prog_6_method_5_code
def yX4_find : MethodName := ⟨RX4, "find", "(I)I"⟩
abbrev cX4_well : ByteArray := prog_6_method_6_code
def yX4_well : MethodName := ⟨RX4, "well", "(I)I"⟩
abbrev cX4_isRow : ByteArray := prog_6_method_7_code
def yX4_isRow : MethodName := ⟨RX4, "isRow", "(I)Z"⟩
abbrev cX4_row : ByteArray := prog_6_method_8_code
def yX4_row : MethodName := ⟨RX4, "row", "(III)I"⟩
abbrev cX4_asLane : ByteArray := prog_6_method_9_code
def yX4_asLane : MethodName := ⟨RX4, "asLane", "(II)I"⟩
abbrev cX4_set : ByteArray := prog_6_method_10_code
def yX4_set : MethodName := ⟨RX4, "set", "(III)I"⟩
abbrev cX4_copy : ByteArray := prog_6_method_11_code
def yX4_copy : MethodName := ⟨RX4, "copy", "(IIIII)I"⟩
abbrev cX4_drop : ByteArray := prog_6_method_12_code
def yX4_drop : MethodName := ⟨RX4, "drop", "(I)I"⟩
abbrev cX4_feed : ByteArray := prog_6_method_13_code
def yX4_feed : MethodName := ⟨RX4, "feed", "(I)I"⟩
abbrev cX4_nextToken : ByteArray := prog_6_method_14_code
def yX4_nextToken : MethodName := ⟨RX4, "nextToken", "()V"⟩
abbrev cX4_faults : ByteArray := prog_6_method_15_code
def yX4_faults : MethodName := ⟨RX4, "faults", "(I)Z"⟩
abbrev cX4_isLetter : ByteArray := prog_6_method_16_code
def yX4_isLetter : MethodName := ⟨RX4, "isLetter", "(I)Z"⟩
abbrev cX4_takes : ByteArray := prog_6_method_17_code
def yX4_takes : MethodName := ⟨RX4, "takes", "(I)Z"⟩
abbrev cX4_takesNumber : ByteArray := prog_6_method_18_code
def yX4_takesNumber : MethodName := ⟨RX4, "takesNumber", "(IIII)Z"⟩
abbrev cX4_readSinger : ByteArray := prog_6_method_19_code
def yX4_readSinger : MethodName := ⟨RX4, "readSinger", "()Z"⟩
abbrev cX4_readPan : ByteArray := prog_6_method_20_code
def yX4_readPan : MethodName := ⟨RX4, "readPan", "(I)Z"⟩
abbrev cX4_readKitchen : ByteArray := prog_6_method_21_code
def yX4_readKitchen : MethodName := ⟨RX4, "readKitchen", "()Z"⟩
abbrev cX4_kitchen : ByteArray := prog_6_method_22_code
def yX4_kitchen : MethodName := ⟨RX4, "kitchen", "()I"⟩
abbrev cX4_fault : ByteArray := prog_6_method_23_code
def yX4_fault : MethodName := ⟨RX4, "fault", "()I"⟩
abbrev cX4_isPan : ByteArray := prog_6_method_24_code
def yX4_isPan : MethodName := ⟨RX4, "isPan", "(I)Z"⟩
abbrev cX4_isSinger : ByteArray := prog_6_method_25_code
def yX4_isSinger : MethodName := ⟨RX4, "isSinger", "(I)Z"⟩
abbrev cX4_canSing : ByteArray := prog_6_method_26_code
def yX4_canSing : MethodName := ⟨RX4, "canSing", "(II)Z"⟩
abbrev cX4_panHears : ByteArray := prog_6_method_27_code
def yX4_panHears : MethodName := ⟨RX4, "panHears", "(I)V"⟩
abbrev cX4_oneBar : ByteArray := prog_6_method_28_code
def yX4_oneBar : MethodName := ⟨RX4, "oneBar", "()V"⟩
abbrev cX4_setPans : ByteArray := prog_6_method_29_code
def yX4_setPans : MethodName := ⟨RX4, "setPans", "()I"⟩
abbrev cX4_note : ByteArray := prog_6_method_30_code
def yX4_note : MethodName := ⟨RX4, "note", "()V"⟩
abbrev cX4_bar : ByteArray := prog_6_method_31_code
def yX4_bar : MethodName := ⟨RX4, "bar", "(III)I"⟩
abbrev cX4_window : ByteArray := prog_6_method_32_code
def yX4_window : MethodName := ⟨RX4, "window", "(III)I"⟩
abbrev cX4_undo : ByteArray := prog_6_method_33_code
def yX4_undo : MethodName := ⟨RX4, "undo", "()I"⟩
abbrev cX4_pan : ByteArray := prog_6_method_34_code
def yX4_pan : MethodName := ⟨RX4, "pan", "(II)I"⟩
abbrev cX4_singer : ByteArray := prog_6_method_35_code
def yX4_singer : MethodName := ⟨RX4, "singer", "(II)I"⟩
abbrev cX4_putAside : ByteArray := prog_6_method_36_code
def yX4_putAside : MethodName := ⟨RX4, "putAside", "()V"⟩
abbrev cX4_takeBack : ByteArray := prog_6_method_37_code
def yX4_takeBack : MethodName := ⟨RX4, "takeBack", "()V"⟩
abbrev cX4_allRest : ByteArray := prog_6_method_38_code
def yX4_allRest : MethodName := ⟨RX4, "allRest", "()V"⟩
abbrev cX4_lacks : ByteArray := prog_6_method_39_code
def yX4_lacks : MethodName := ⟨RX4, "lacks", "(III)I"⟩
abbrev cX4_singAlone : ByteArray := prog_6_method_40_code
def yX4_singAlone : MethodName := ⟨RX4, "singAlone", "(IIII)V"⟩
abbrev cX4_singRound : ByteArray := prog_6_method_41_code
def yX4_singRound : MethodName := ⟨RX4, "singRound", "(III)V"⟩
abbrev cX4_alone : ByteArray := prog_6_method_42_code
def yX4_alone : MethodName := ⟨RX4, "alone", "(IIII)I"⟩
abbrev cX4_round : ByteArray := prog_6_method_43_code
def yX4_round : MethodName := ⟨RX4, "round", "(IIII)I"⟩
abbrev cX4_bestRound : ByteArray := prog_6_method_44_code
def yX4_bestRound : MethodName := ⟨RX4, "bestRound", "(IIII)I"⟩
abbrev cX4_singsRow : ByteArray := prog_6_method_45_code
def yX4_singsRow : MethodName := ⟨RX4, "singsRow", "(II)Z"⟩
abbrev cX4_song : ByteArray := prog_6_method_46_code
def yX4_song : MethodName := ⟨RX4, "song", "(III)I"⟩
abbrev cX4_toShut : ByteArray := prog_6_method_47_code
def yX4_toShut : MethodName := ⟨RX4, "toShut", "(IIIIII)I"⟩
abbrev cX4_modes : ByteArray := prog_6_method_48_code
def yX4_modes : MethodName := ⟨RX4, "modes", "(IIIIIII)I"⟩
abbrev cX4_coughs : ByteArray := prog_6_method_49_code
def yX4_coughs : MethodName := ⟨RX4, "coughs", "(IIIIIII)I"⟩
abbrev cX4_image : ByteArray := prog_6_method_50_code
def yX4_image : MethodName := ⟨RX4, "image", "(I)I"⟩
abbrev cX4_restore : ByteArray := prog_6_method_51_code
def yX4_restore : MethodName := ⟨RX4, "restore", "(I)I"⟩
abbrev cX4_kind : ByteArray := prog_6_method_52_code
def yX4_kind : MethodName := ⟨RX4, "kind", "(I)I"⟩
abbrev cX4_isKind : ByteArray := prog_6_method_53_code
def yX4_isKind : MethodName := ⟨RX4, "isKind", "(II)Z"⟩
abbrev cX4_as : ByteArray := prog_6_method_54_code
def yX4_as : MethodName := ⟨RX4, "as", "(II)I"⟩
abbrev cX4_begin : ByteArray := prog_6_method_55_code
def yX4_begin : MethodName := ⟨RX4, "begin", "(I)V"⟩
abbrev cX4_lent : ByteArray := prog_6_method_56_code
def yX4_lent : MethodName := ⟨RX4, "lent", "(II)I"⟩
abbrev cX4_plumMark : ByteArray := prog_6_method_57_code
def yX4_plumMark : MethodName := ⟨RX4, "plumMark", "(I)I"⟩
abbrev cX4_marrowSize : ByteArray := prog_6_method_58_code
def yX4_marrowSize : MethodName := ⟨RX4, "marrowSize", "(I)I"⟩
abbrev cX4_sizeOfMarrow : ByteArray := prog_6_method_59_code
def yX4_sizeOfMarrow : MethodName := ⟨RX4, "sizeOfMarrow", "(I)I"⟩
abbrev cX4_markOf : ByteArray := prog_6_method_60_code
def yX4_markOf : MethodName := ⟨RX4, "markOf", "(I)I"⟩
abbrev cX4_plumSize : ByteArray := prog_6_method_61_code
def yX4_plumSize : MethodName := ⟨RX4, "plumSize", "(I)I"⟩
abbrev cX4_sizeOf : ByteArray := prog_6_method_62_code
def yX4_sizeOf : MethodName := ⟨RX4, "sizeOf", "(I)I"⟩
abbrev cX4_ask : ByteArray := prog_6_method_63_code
def yX4_ask : MethodName := ⟨RX4, "ask", "(II)I"⟩
abbrev cX4_trace : ByteArray := prog_6_method_64_code
def yX4_trace : MethodName := ⟨RX4, "trace", "(I)I"⟩
abbrev cX4_count : ByteArray := prog_6_method_65_code
def yX4_count : MethodName := ⟨RX4, "count", "(I)I"⟩
abbrev cX4_status : ByteArray := prog_6_method_66_code
def yX4_status : MethodName := ⟨RX4, "status", "()I"⟩
def RJ6 : String := "java/lang/Integer"
def TJ6 : u_T := fun k => match k with
  | _ => ("", "", "", false)
def tyJ6 : Nat → FieldType := fun k => match k with
  | _ => .int
abbrev wsJ60 : List Cond := u_ws RJ6 TJ6 0
theorem nmJ6 : ∀ a, a < 0 → ∀ b, b < 0 → a ≠ b → (TJ6 a).2.1 ≠ (TJ6 b).2.1 := by decide +kernel
theorem tyJ6_ok : ∀ k, k < 0 → parseFieldDescriptor (TJ6 k).2.2.1 = some (tyJ6 k) := by decide +kernel
abbrev cJ6_numberOfTrailingZeros_0f7a4 : ByteArray := prog_7_method_48_code
def yJ6_numberOfTrailingZeros_0f7a4 : MethodName := ⟨RJ6, "numberOfTrailingZeros", "(I)I"⟩
abbrev cJ6_bitCount_0f7a4 : ByteArray := prog_7_method_49_code
def yJ6_bitCount_0f7a4 : MethodName := ⟨RJ6, "bitCount", "(I)I"⟩
def RJ9 : String := "java/lang/Math"
def TJ9 : u_T := fun k => match k with
  | _ => ("", "", "", false)
def tyJ9 : Nat → FieldType := fun k => match k with
  | _ => .int
abbrev wsJ90 : List Cond := u_ws RJ9 TJ9 0
theorem nmJ9 : ∀ a, a < 0 → ∀ b, b < 0 → a ≠ b → (TJ9 a).2.1 ≠ (TJ9 b).2.1 := by decide +kernel
theorem tyJ9_ok : ∀ k, k < 0 → parseFieldDescriptor (TJ9 k).2.2.1 = some (tyJ9 k) := by decide +kernel
abbrev cJ9_abs_0f7a4 : ByteArray := prog_8_method_59_code
def yJ9_abs_0f7a4 : MethodName := ⟨RJ9, "abs", "(I)I"⟩
abbrev cJ9_max_7cf53 : ByteArray := prog_8_method_65_code
def yJ9_max_7cf53 : MethodName := ⟨RJ9, "max", "(II)I"⟩
abbrev cJ9_min_7cf53 : ByteArray := prog_8_method_69_code
def yJ9_min_7cf53 : MethodName := ⟨RJ9, "min", "(II)I"⟩
def RJ10 : String := "java/lang/System"
def TJ10 : u_T := fun k => match k with
  | _ => ("", "", "", false)
def tyJ10 : Nat → FieldType := fun k => match k with
  | _ => .int
abbrev wsJ100 : List Cond := u_ws RJ10 TJ10 0
theorem nmJ10 : ∀ a, a < 0 → ∀ b, b < 0 → a ≠ b → (TJ10 a).2.1 ≠ (TJ10 b).2.1 := by decide +kernel
theorem tyJ10_ok : ∀ k, k < 0 → parseFieldDescriptor (TJ10 k).2.2.1 = some (tyJ10 k) := by decide +kernel
def RJ7 : String := "java/util/Arrays"
def TJ7 : u_T := fun k => match k with
  | _ => ("", "", "", false)
def tyJ7 : Nat → FieldType := fun k => match k with
  | _ => .int
abbrev wsJ70 : List Cond := u_ws RJ7 TJ7 0
theorem nmJ7 : ∀ a, a < 0 → ∀ b, b < 0 → a ≠ b → (TJ7 a).2.1 ≠ (TJ7 b).2.1 := by decide +kernel
theorem tyJ7_ok : ∀ k, k < 0 → parseFieldDescriptor (TJ7 k).2.2.1 = some (tyJ7 k) := by decide +kernel
abbrev cJ7_fill_53178 : ByteArray := prog_10_method_103_code
def yJ7_fill_53178 : MethodName := ⟨RJ7, "fill", "([II)V"⟩
def RL : String := "JamSongsLaw"
abbrev cL_law : ByteArray := code
def yL_law : MethodName := ⟨RL, "law", "([I)Z"⟩
def wsL_law_r1 : List Cond := [Cond.classLink RL 7 RX3, Cond.instantiable RX3 18, Cond.initialized RX3, Cond.classLink RL 10 RX4, Cond.instantiable RX4 26, Cond.initialized RX4, Cond.methodLink RL 9 yX3_init, Cond.instanceMethod yX3_init, Cond.code yX3_init cX3_init 2 none, Cond.methodLink RX3 1 objectInit, Cond.instanceMethod objectInit, Cond.code objectInit ⟨#[0xb1]⟩ 1 none, Cond.classLink RX3 9 RX1, Cond.fieldLink RX3 11 "JamSongs" "rows" "[LJamSongs$Row;", Cond.classLink RX3 15 RX2, Cond.instantiable RX2 7, Cond.initialized RX2, Cond.fieldLink RX3 18 "JamSongs" "tape" "LJamSongs$Tape;", Cond.classLink RX3 22 RX0, Cond.instantiable RX0 15, Cond.initialized RX0, Cond.fieldLink RX3 25 "JamSongs" "now" "LJamSongs$Kitchen;", Cond.fieldLink RX3 29 "JamSongs" "trial" "LJamSongs$Kitchen;", Cond.fieldLink RX3 32 "JamSongs" "images" "[LJamSongs$Kitchen;"]
def wsL_law_r2 : List Cond := [Cond.classLink RX3 36 "[[I", Cond.arrayClass .int, Cond.fieldLink RX3 38 "JamSongs" "acts" "[[I", Cond.fieldLink RX3 41 "JamSongs" "kept" "I", Cond.fieldLink RX3 45 "JamSongs" "nextAct" "I", Cond.fieldLink RX3 48 "JamSongs" "voices" "[I", Cond.fieldLink RX3 52 "JamSongs" "tune" "[I", Cond.fieldLink RX3 55 "JamSongs" "songBars" "[[I", Cond.fieldLink RX3 58 "JamSongs" "bestSong" "I", Cond.fieldLink RX3 61 "JamSongs" "bestSet" "I", Cond.fieldLink RX3 64 "JamSongs" "bestNotes" "I", Cond.fieldLink RX3 67 "JamSongs" "traced" "[I", Cond.fieldLink RX3 70 "JamSongs" "bodies" "I", Cond.fieldLink RX3 73 "JamSongs" "latestFault" "I", Cond.fieldLink RX3 76 "JamSongs" "latestFinding" "I", Cond.instantiable RX1 4, Cond.initialized RX1, Cond.instanceMethod yX2_init, Cond.code yX2_init cX2_init 1 none, Cond.methodLink RX2 3 objectInit, Cond.fieldLink RX2 9 "JamSongs$Tape" "bytes" "[I", Cond.fieldLink RX2 15 "JamSongs$Tape" "size" "I", Cond.fieldLink RX2 19 "JamSongs$Tape" "place" "I", Cond.fieldLink RX2 22 "JamSongs$Tape" "next" "I"]
def wsL_law_r3 : List Cond := [Cond.fieldLink RX2 25 "JamSongs$Tape" "token" "I", Cond.fieldLink RX2 28 "JamSongs$Tape" "value" "I", Cond.fieldLink RX2 31 "JamSongs$Tape" "fault" "I", Cond.instanceMethod yX0_init, Cond.code yX0_init cX0_init 1 none, Cond.methodLink RX0 3 objectInit, Cond.fieldLink RX0 9 "JamSongs$Kitchen" "told" "Z", Cond.fieldLink RX0 15 "JamSongs$Kitchen" "back" "I", Cond.fieldLink RX0 19 "JamSongs$Kitchen" "singers" "I", Cond.fieldLink RX0 22 "JamSongs$Kitchen" "low" "[I", Cond.fieldLink RX0 26 "JamSongs$Kitchen" "high" "[I", Cond.fieldLink RX0 29 "JamSongs$Kitchen" "breath" "[I", Cond.fieldLink RX0 32 "JamSongs$Kitchen" "pans" "I", Cond.fieldLink RX0 35 "JamSongs$Kitchen" "kind" "[I", Cond.fieldLink RX0 38 "JamSongs$Kitchen" "mode" "[I", Cond.fieldLink RX0 41 "JamSongs$Kitchen" "needs" "[I", Cond.fieldLink RX0 44 "JamSongs$Kitchen" "bar" "I", Cond.fieldLink RX0 47 "JamSongs$Kitchen" "sung" "[I", Cond.fieldLink RX0 50 "JamSongs$Kitchen" "hears" "[I", Cond.fieldLink RX0 53 "JamSongs$Kitchen" "thick" "[I", Cond.fieldLink RX0 56 "JamSongs$Kitchen" "heard" "[I", Cond.instanceMethod yX1_init, Cond.code yX1_init cX1_init 1 none, Cond.methodLink RX1 3 objectInit]
def wsL_law_r4 : List Cond := [Cond.fieldLink RX1 9 "JamSongs$Row" "there" "Z", Cond.fieldLink RX1 15 "JamSongs$Row" "lane" "I", Cond.fieldLink RX1 19 "JamSongs$Row" "size" "I", Cond.fieldLink RX1 22 "JamSongs$Row" "items" "[I", Cond.methodLink RL 12 yX4_init, Cond.instanceMethod yX4_init, Cond.code yX4_init cX4_init 2 none, Cond.methodLink RX4 1 objectInit, Cond.fieldLink RX4 7 "JamSongsModel" "lanes" "[I", Cond.fieldLink RX4 13 "JamSongsModel" "sizes" "[I", Cond.fieldLink RX4 16 "JamSongsModel" "items" "[I", Cond.fieldLink RX4 19 "JamSongsModel" "st" "[I", Cond.fieldLink RX4 22 "JamSongsModel" "moved" "[I", Cond.fieldLink RX4 25 "JamSongsModel" "tape" "[I", Cond.fieldLink RX4 28 "JamSongsModel" "read" "[I", Cond.fieldLink RX4 31 "JamSongsModel" "notes" "[I", Cond.fieldLink RX4 34 "JamSongsModel" "acts" "[I", Cond.fieldLink RX4 37 "JamSongsModel" "aside" "[I", Cond.fieldLink RX4 40 "JamSongsModel" "row" "[I", Cond.arrayClass .boolean, Cond.fieldLink RX4 43 "JamSongsModel" "isKept" "[Z", Cond.fieldLink RX4 47 "JamSongsModel" "kept" "[I", Cond.fieldLink RX4 50 "JamSongsModel" "trace" "[I", Cond.methodLink RL 13 yX3_row]
def wsL_law_r5 : List Cond := [Cond.instanceMethod yX3_row, Cond.selects RX3 yX3_row yX3_row, Cond.code yX3_row cX3_row 4 (some .int), Cond.constant RX3 84 (-1000001), Cond.methodLink RX3 80 yX3_isNot, Cond.static yX3_isNot, Cond.code yX3_isNot cX3_isNot 2 (some .boolean), Cond.methodLink RX3 85 yX3_found, Cond.instanceMethod yX3_found, Cond.selects RX3 yX3_found yX3_found, Cond.code yX3_found cX3_found 2 (some .int), Cond.constant RX3 263 (-1000010), Cond.methodLink RX3 89 yX1_begin, Cond.instanceMethod yX1_begin, Cond.selects RX1 yX1_begin yX1_begin, Cond.code yX1_begin cX1_begin 3 none, Cond.methodLink RX1 26 yJ7_fill_53178, Cond.static yJ7_fill_53178, Cond.initialized RJ7, Cond.code yJ7_fill_53178 cJ7_fill_53178 4 none, Cond.methodLink RX3 93 yX3_fine, Cond.instanceMethod yX3_fine, Cond.selects RX3 yX3_fine yX3_fine, Cond.code yX3_fine cX3_fine 2 (some .int)]
def wsL_law_r6 : List Cond := [Cond.methodLink RL 17 yX4_row, Cond.instanceMethod yX4_row, Cond.selects RX4 yX4_row yX4_row, Cond.code yX4_row cX4_row 5 (some .int), Cond.constantLong RX4 68 (2), Cond.constant RX4 70 (-1000001), Cond.methodLink RX4 64 yX4_isRow, Cond.static yX4_isRow, Cond.code yX4_isRow cX4_isRow 1 (some .boolean), Cond.constantLong RX4 58 (7), Cond.methodLink RX4 60 yX4_in, Cond.static yX4_in, Cond.code yX4_in cX4_in 6 (some .boolean), Cond.methodLink RX4 71 yX4_find, Cond.instanceMethod yX4_find, Cond.selects RX4 yX4_find yX4_find, Cond.code yX4_find cX4_find 2 (some .int), Cond.fieldLink RX4 53 "JamSongsModel" "status" "I", Cond.constant RX4 57 (-1000010), Cond.methodLink RX4 75 yX4_well, Cond.instanceMethod yX4_well, Cond.selects RX4 yX4_well yX4_well, Cond.code yX4_well cX4_well 2 (some .int), Cond.methodLink RL 18 yX3_set]
def wsL_law_r7 : List Cond := [Cond.instanceMethod yX3_set, Cond.selects RX3 yX3_set yX3_set, Cond.code yX3_set cX3_set 5 (some .int), Cond.fieldLink RX3 96 "JamSongs$Row" "there" "Z", Cond.fieldLink RX3 103 "JamSongs$Row" "items" "[I", Cond.methodLink RX3 100 yX1_reaches, Cond.instanceMethod yX1_reaches, Cond.selects RX1 yX1_reaches yX1_reaches, Cond.code yX1_reaches cX1_reaches 3 (some .boolean), Cond.methodLink RX3 106 yX1_cut, Cond.instanceMethod yX1_cut, Cond.selects RX1 yX1_cut yX1_cut, Cond.code yX1_cut cX1_cut 2 (some .int), Cond.methodLink RL 21 yX4_set, Cond.instanceMethod yX4_set, Cond.selects RX4 yX4_set yX4_set, Cond.code yX4_set cX4_set 4 (some .int), Cond.methodLink RX4 78 yX4_asLane, Cond.static yX4_asLane, Cond.code yX4_asLane cX4_asLane 2 (some .int), Cond.methodLink RL 22 yX3_copy, Cond.instanceMethod yX3_copy, Cond.selects RX3 yX3_copy yX3_copy, Cond.code yX3_copy cX3_copy 8 (some .int)]
def wsL_law_r8 : List Cond := [Cond.fieldLink RX3 109 "JamSongs$Row" "lane" "I", Cond.methodLink RX3 112 arraycopyName, Cond.native arraycopyName, Cond.static arraycopyName, Cond.initialized "java/lang/System", Cond.methodLink RL 26 yX4_copy, Cond.instanceMethod yX4_copy, Cond.selects RX4 yX4_copy yX4_copy, Cond.code yX4_copy cX4_copy 7 (some .int), Cond.methodLink RL 27 yX3_drop, Cond.instanceMethod yX3_drop, Cond.selects RX3 yX3_drop yX3_drop, Cond.code yX3_drop cX3_drop 3 (some .int), Cond.fieldLink RX3 118 "JamSongs$Row" "size" "I", Cond.methodLink RL 31 yX4_drop, Cond.instanceMethod yX4_drop, Cond.selects RX4 yX4_drop yX4_drop, Cond.code yX4_drop cX4_drop 3 (some .int), Cond.methodLink RL 32 yX3_feed, Cond.instanceMethod yX3_feed, Cond.selects RX3 yX3_feed yX3_feed, Cond.code yX3_feed cX3_feed 2 (some .int), Cond.fieldLink RX3 121 "JamSongs$Tape" "size" "I", Cond.constant RX3 122 (-1000003)]
def wsL_law_r9 : List Cond := [Cond.fieldLink RX3 123 "JamSongs$Tape" "bytes" "[I", Cond.methodLink RL 35 yX4_feed, Cond.instanceMethod yX4_feed, Cond.selects RX4 yX4_feed yX4_feed, Cond.code yX4_feed cX4_feed 2 (some .int), Cond.constantLong RX4 82 (255), Cond.fieldLink RX4 84 "JamSongsModel" "bytes" "I", Cond.constant RX4 87 (-1000003), Cond.methodLink RL 36 yX3_kitchen, Cond.instanceMethod yX3_kitchen, Cond.selects RX3 yX3_kitchen yX3_kitchen, Cond.code yX3_kitchen cX3_kitchen 1 (some .int), Cond.fieldLink RX3 130 "JamSongs$Tape" "fault" "I", Cond.constant RX3 133 (-1000100), Cond.fieldLink RX3 134 "JamSongs$Tape" "place" "I", Cond.fieldLink RX3 140 "JamSongs$Kitchen" "pans" "I", Cond.methodLink RX3 126 yX2_readInto, Cond.instanceMethod yX2_readInto, Cond.selects RX2 yX2_readInto yX2_readInto, Cond.code yX2_readInto cX2_readInto 3 none, Cond.fieldLink RX2 50 "JamSongs$Kitchen" "back" "I", Cond.methodLink RX2 34 yX0_begin, Cond.instanceMethod yX0_begin, Cond.selects RX0 yX0_begin yX0_begin]
def wsL_law_r10 : List Cond := [Cond.code yX0_begin cX0_begin 1 none, Cond.constant RX0 65 (-1000000), Cond.methodLink RX0 59 yJ7_fill_53178, Cond.methodLink RX2 39 yX2_step, Cond.instanceMethod yX2_step, Cond.selects RX2 yX2_step yX2_step, Cond.code yX2_step cX2_step 3 none, Cond.methodLink RX2 91 yX2_isFigure, Cond.static yX2_isFigure, Cond.code yX2_isFigure cX2_isFigure 1 (some .boolean), Cond.methodLink RX2 95 yX2_stepNumber, Cond.instanceMethod yX2_stepNumber, Cond.selects RX2 yX2_stepNumber yX2_stepNumber, Cond.code yX2_stepNumber cX2_stepNumber 1 none, Cond.methodLink RX2 98 Lib.Math.min.name, Cond.static Lib.Math.min.name, Cond.initialized "java/lang/Math", Cond.code Lib.Math.min.name Lib.Math.min.code 2 (some .int), Cond.methodLink RX2 42 yX2_take, Cond.instanceMethod yX2_take, Cond.selects RX2 yX2_take yX2_take, Cond.code yX2_take cX2_take 2 none, Cond.methodLink RX2 46 yX2_takeNumber, Cond.instanceMethod yX2_takeNumber]
def wsL_law_r11 : List Cond := [Cond.selects RX2 yX2_takeNumber yX2_takeNumber, Cond.code yX2_takeNumber cX2_takeNumber 4 (some .int), Cond.methodLink RX2 53 yX2_readSinger, Cond.instanceMethod yX2_readSinger, Cond.selects RX2 yX2_readSinger yX2_readSinger, Cond.code yX2_readSinger cX2_readSinger 3 none, Cond.fieldLink RX2 64 "JamSongs$Kitchen" "low" "[I", Cond.fieldLink RX2 67 "JamSongs$Kitchen" "high" "[I", Cond.fieldLink RX2 70 "JamSongs$Kitchen" "breath" "[I", Cond.fieldLink RX2 73 "JamSongs$Kitchen" "singers" "I", Cond.methodLink RX2 57 yX2_kindOf, Cond.static yX2_kindOf, Cond.code yX2_kindOf cX2_kindOf 1 (some .int), Cond.methodLink RX2 61 yX2_readPan, Cond.instanceMethod yX2_readPan, Cond.selects RX2 yX2_readPan yX2_readPan, Cond.code yX2_readPan cX2_readPan 3 none, Cond.fieldLink RX2 76 "JamSongs$Kitchen" "kind" "[I", Cond.fieldLink RX2 79 "JamSongs$Kitchen" "mode" "[I", Cond.fieldLink RX2 82 "JamSongs$Kitchen" "needs" "[I", Cond.fieldLink RX2 85 "JamSongs$Kitchen" "hears" "[I", Cond.fieldLink RX2 88 "JamSongs$Kitchen" "pans" "I", Cond.methodLink RX3 137 yX0_takeFrom, Cond.instanceMethod yX0_takeFrom]
def wsL_law_r12 : List Cond := [Cond.selects RX0 yX0_takeFrom yX0_takeFrom, Cond.code yX0_takeFrom cX0_takeFrom 2 none, Cond.methodLink RX0 66 arraycopyName, Cond.methodLink RL 40 yX4_kitchen, Cond.instanceMethod yX4_kitchen, Cond.selects RX4 yX4_kitchen yX4_kitchen, Cond.code yX4_kitchen cX4_kitchen 3 (some .int), Cond.fieldLink RX4 108 "JamSongsModel" "wrong" "I", Cond.fieldLink RX4 138 "JamSongsModel" "latest" "I", Cond.constant RX4 141 (-1000100), Cond.fieldLink RX4 91 "JamSongsModel" "begins" "I", Cond.fieldLink RX4 142 "JamSongsModel" "isThere" "Z", Cond.fieldLink RX4 146 "JamSongsModel" "actMany" "I", Cond.methodLink RX4 135 yX4_readKitchen, Cond.instanceMethod yX4_readKitchen, Cond.selects RX4 yX4_readKitchen yX4_readKitchen, Cond.code yX4_readKitchen cX4_readKitchen 3 (some .boolean), Cond.fieldLink RX4 88 "JamSongsModel" "place" "I", Cond.fieldLink RX4 94 "JamSongsModel" "token" "I", Cond.methodLink RX4 117 yX4_nextToken, Cond.instanceMethod yX4_nextToken, Cond.selects RX4 yX4_nextToken yX4_nextToken, Cond.code yX4_nextToken cX4_nextToken 1 none, Cond.fieldLink RX4 97 "JamSongsModel" "value" "I"]
def wsL_law_r13 : List Cond := [Cond.constantLong RX4 100 (48), Cond.constantLong RX4 102 (57), Cond.constantLong RX4 104 (97), Cond.constantLong RX4 106 (122), Cond.methodLink RX4 120 yX4_takes, Cond.instanceMethod yX4_takes, Cond.selects RX4 yX4_takes yX4_takes, Cond.code yX4_takes cX4_takes 2 (some .boolean), Cond.methodLink RX4 111 yX4_isLetter, Cond.instanceMethod yX4_isLetter, Cond.selects RX4 yX4_isLetter yX4_isLetter, Cond.code yX4_isLetter cX4_isLetter 2 (some .boolean), Cond.methodLink RX4 114 yX4_faults, Cond.instanceMethod yX4_faults, Cond.selects RX4 yX4_faults yX4_faults, Cond.code yX4_faults cX4_faults 2 (some .boolean), Cond.methodLink RX4 123 yX4_takesNumber, Cond.instanceMethod yX4_takesNumber, Cond.selects RX4 yX4_takesNumber yX4_takesNumber, Cond.code yX4_takesNumber cX4_takesNumber 5 (some .boolean), Cond.methodLink RX4 128 yX4_readPan, Cond.instanceMethod yX4_readPan, Cond.selects RX4 yX4_readPan yX4_readPan, Cond.code yX4_readPan cX4_readPan 3 (some .boolean)]
def wsL_law_r14 : List Cond := [Cond.constant RX4 127 (-1000000), Cond.methodLink RX4 131 yX4_readSinger, Cond.instanceMethod yX4_readSinger, Cond.selects RX4 yX4_readSinger yX4_readSinger, Cond.code yX4_readSinger cX4_readSinger 2 (some .boolean), Cond.methodLink RL 41 yX3_fault, Cond.instanceMethod yX3_fault, Cond.selects RX3 yX3_fault yX3_fault, Cond.code yX3_fault cX3_fault 1 (some .int), Cond.methodLink RL 44 yX4_fault, Cond.instanceMethod yX4_fault, Cond.selects RX4 yX4_fault yX4_fault, Cond.code yX4_fault cX4_fault 1 (some .int), Cond.methodLink RL 45 yX3_bar, Cond.instanceMethod yX3_bar, Cond.selects RX3 yX3_bar yX3_bar, Cond.code yX3_bar cX3_bar 5 (some .int), Cond.fieldLink RX3 143 "JamSongs$Kitchen" "told" "Z", Cond.constant RX3 146 (-1000002), Cond.fieldLink RX3 147 "JamSongs$Kitchen" "singers" "I", Cond.methodLink RX3 150 yX0_can, Cond.instanceMethod yX0_can, Cond.selects RX0 yX0_can yX0_can, Cond.code yX0_can cX0_can 3 (some .boolean)]
def wsL_law_r15 : List Cond := [Cond.methodLink RX3 153 yX3_keepAct, Cond.instanceMethod yX3_keepAct, Cond.selects RX3 yX3_keepAct yX3_keepAct, Cond.code yX3_keepAct cX3_keepAct 1 none, Cond.methodLink RX3 267 Lib.Math.min.name, Cond.methodLink RX3 264 yX0_keep, Cond.instanceMethod yX0_keep, Cond.selects RX0 yX0_keep yX0_keep, Cond.code yX0_keep cX0_keep 2 none, Cond.methodLink RX3 156 yX0_singBar, Cond.instanceMethod yX0_singBar, Cond.selects RX0 yX0_singBar yX0_singBar, Cond.code yX0_singBar cX0_singBar 3 none, Cond.methodLink RX0 72 yX0_isSet, Cond.instanceMethod yX0_isSet, Cond.selects RX0 yX0_isSet yX0_isSet, Cond.code yX0_isSet cX0_isSet 2 (some .boolean), Cond.methodLink RX0 84 yX0_hear, Cond.instanceMethod yX0_hear, Cond.selects RX0 yX0_hear yX0_hear, Cond.code yX0_hear cX0_hear 5 none, Cond.methodLink RX0 88 yJ6_numberOfTrailingZeros_0f7a4, Cond.static yJ6_numberOfTrailingZeros_0f7a4, Cond.initialized RJ6]
def wsL_law_r16 : List Cond := [Cond.code yJ6_numberOfTrailingZeros_0f7a4 cJ6_numberOfTrailingZeros_0f7a4 2 (some .int), Cond.constant RJ6 264 (65536), Cond.methodLink RX0 94 yX0_judge, Cond.instanceMethod yX0_judge, Cond.selects RX0 yX0_judge yX0_judge, Cond.code yX0_judge cX0_judge 5 (some .int), Cond.methodLink RX0 102 Lib.Math.abs.name, Cond.static Lib.Math.abs.name, Cond.code Lib.Math.abs.name Lib.Math.abs.code 1 (some .int), Cond.methodLink RX0 98 yX0_thickBy, Cond.instanceMethod yX0_thickBy, Cond.selects RX0 yX0_thickBy yX0_thickBy, Cond.code yX0_thickBy cX0_thickBy 3 (some .int), Cond.methodLink RX0 107 Lib.Math.max.name, Cond.static Lib.Math.max.name, Cond.code Lib.Math.max.name Lib.Math.max.code 2 (some .int), Cond.methodLink RX3 160 yX0_setPans, Cond.instanceMethod yX0_setPans, Cond.selects RX0 yX0_setPans yX0_setPans, Cond.code yX0_setPans cX0_setPans 3 (some .int), Cond.methodLink RL 48 yX4_bar, Cond.instanceMethod yX4_bar, Cond.selects RX4 yX4_bar yX4_bar, Cond.code yX4_bar cX4_bar 6 (some .int)]
def wsL_law_r17 : List Cond := [Cond.constant RX4 157 (-1000002), Cond.methodLink RX4 158 yX4_canSing, Cond.instanceMethod yX4_canSing, Cond.selects RX4 yX4_canSing yX4_canSing, Cond.code yX4_canSing cX4_canSing 3 (some .boolean), Cond.methodLink RX4 161 yX4_note, Cond.instanceMethod yX4_note, Cond.selects RX4 yX4_note yX4_note, Cond.code yX4_note cX4_note 2 none, Cond.methodLink RX4 164 yX4_oneBar, Cond.instanceMethod yX4_oneBar, Cond.selects RX4 yX4_oneBar yX4_oneBar, Cond.code yX4_oneBar cX4_oneBar 2 none, Cond.methodLink RX4 153 yX4_panHears, Cond.instanceMethod yX4_panHears, Cond.selects RX4 yX4_panHears yX4_panHears, Cond.code yX4_panHears cX4_panHears 7 none, Cond.methodLink RX4 149 yX4_has, Cond.static yX4_has, Cond.code yX4_has cX4_has 2 (some .boolean), Cond.methodLink RX4 167 yX4_setPans, Cond.instanceMethod yX4_setPans, Cond.selects RX4 yX4_setPans yX4_setPans, Cond.code yX4_setPans cX4_setPans 3 (some .int)]
def wsL_law_r18 : List Cond := [Cond.methodLink RL 49 yX3_window, Cond.instanceMethod yX3_window, Cond.selects RX3 yX3_window yX3_window, Cond.code yX3_window cX3_window 4 (some .int), Cond.fieldLink RX3 164 "JamSongs$Kitchen" "hears" "[I", Cond.methodLink RL 52 yX4_window, Cond.instanceMethod yX4_window, Cond.selects RX4 yX4_window yX4_window, Cond.code yX4_window cX4_window 4 (some .int), Cond.methodLink RX4 171 yX4_isPan, Cond.instanceMethod yX4_isPan, Cond.selects RX4 yX4_isPan yX4_isPan, Cond.code yX4_isPan cX4_isPan 2 (some .boolean), Cond.methodLink RX4 174 yX4_isSinger, Cond.instanceMethod yX4_isSinger, Cond.selects RX4 yX4_isSinger yX4_isSinger, Cond.code yX4_isSinger cX4_isSinger 2 (some .boolean), Cond.methodLink RL 53 yX3_undo, Cond.instanceMethod yX3_undo, Cond.selects RX3 yX3_undo yX3_undo, Cond.code yX3_undo cX3_undo 1 (some .int), Cond.methodLink RX3 167 yX0_bring, Cond.instanceMethod yX0_bring, Cond.selects RX0 yX0_bring yX0_bring]
def wsL_law_r19 : List Cond := [Cond.code yX0_bring cX0_bring 2 none, Cond.methodLink RL 56 yX4_undo, Cond.instanceMethod yX4_undo, Cond.selects RX4 yX4_undo yX4_undo, Cond.code yX4_undo cX4_undo 2 (some .int), Cond.methodLink RL 57 yX3_pan, Cond.instanceMethod yX3_pan, Cond.selects RX3 yX3_pan yX3_pan, Cond.code yX3_pan cX3_pan 3 (some .int), Cond.fieldLink RX3 170 "JamSongs$Kitchen" "mode" "[I", Cond.fieldLink RX3 173 "JamSongs$Kitchen" "needs" "[I", Cond.fieldLink RX3 176 "JamSongs$Kitchen" "thick" "[I", Cond.fieldLink RX3 183 "JamSongs$Kitchen" "heard" "[I", Cond.methodLink RX3 179 yX0_isSet, Cond.methodLink RL 61 yX4_pan, Cond.instanceMethod yX4_pan, Cond.selects RX4 yX4_pan yX4_pan, Cond.code yX4_pan cX4_pan 3 (some .int), Cond.methodLink RL 62 yX3_singer, Cond.instanceMethod yX3_singer, Cond.selects RX3 yX3_singer yX3_singer, Cond.code yX3_singer cX3_singer 3 (some .int), Cond.fieldLink RX3 186 "JamSongs$Kitchen" "low" "[I", Cond.fieldLink RX3 189 "JamSongs$Kitchen" "high" "[I"]
def wsL_law_r20 : List Cond := [Cond.fieldLink RX3 192 "JamSongs$Kitchen" "breath" "[I", Cond.fieldLink RX3 195 "JamSongs$Kitchen" "sung" "[I", Cond.methodLink RL 65 yX4_singer, Cond.instanceMethod yX4_singer, Cond.selects RX4 yX4_singer yX4_singer, Cond.code yX4_singer cX4_singer 3 (some .int), Cond.methodLink RL 66 yX3_alone, Cond.instanceMethod yX3_alone, Cond.selects RX3 yX3_alone yX3_alone, Cond.code yX3_alone cX3_alone 6 (some .int), Cond.methodLink RX3 198 yX3_takeTune, Cond.instanceMethod yX3_takeTune, Cond.selects RX3 yX3_takeTune yX3_takeTune, Cond.code yX3_takeTune cX3_takeTune 5 (some .int), Cond.methodLink RX3 202 yX3_trySolo, Cond.instanceMethod yX3_trySolo, Cond.selects RX3 yX3_trySolo yX3_trySolo, Cond.code yX3_trySolo cX3_trySolo 5 none, Cond.methodLink RX3 272 yJ7_fill_53178, Cond.methodLink RX3 278 yX0_tryBar, Cond.instanceMethod yX0_tryBar, Cond.selects RX0 yX0_tryBar yX0_tryBar, Cond.code yX0_tryBar cX0_tryBar 3 none, Cond.methodLink RX0 76 yX0_can]
def wsL_law_r21 : List Cond := [Cond.methodLink RX0 80 yX0_singBar, Cond.methodLink RL 70 yX4_alone, Cond.instanceMethod yX4_alone, Cond.selects RX4 yX4_alone yX4_alone, Cond.code yX4_alone cX4_alone 7 (some .int), Cond.constantLong RX4 180 (16), Cond.methodLink RX4 182 yX4_lacks, Cond.instanceMethod yX4_lacks, Cond.selects RX4 yX4_lacks yX4_lacks, Cond.code yX4_lacks cX4_lacks 6 (some .int), Cond.methodLink RX4 186 yX4_putAside, Cond.instanceMethod yX4_putAside, Cond.selects RX4 yX4_putAside yX4_putAside, Cond.code yX4_putAside cX4_putAside 2 none, Cond.methodLink RX4 189 yX4_singAlone, Cond.instanceMethod yX4_singAlone, Cond.selects RX4 yX4_singAlone yX4_singAlone, Cond.code yX4_singAlone cX4_singAlone 7 none, Cond.methodLink RX4 177 yX4_allRest, Cond.instanceMethod yX4_allRest, Cond.selects RX4 yX4_allRest yX4_allRest, Cond.code yX4_allRest cX4_allRest 2 none, Cond.methodLink RX4 193 yX4_takeBack, Cond.instanceMethod yX4_takeBack]
def wsL_law_r22 : List Cond := [Cond.selects RX4 yX4_takeBack yX4_takeBack, Cond.code yX4_takeBack cX4_takeBack 2 none, Cond.methodLink RL 71 yX3_round, Cond.instanceMethod yX3_round, Cond.selects RX3 yX3_round yX3_round, Cond.code yX3_round cX3_round 6 (some .int), Cond.methodLink RX3 206 yX3_tryRound, Cond.instanceMethod yX3_tryRound, Cond.selects RX3 yX3_tryRound yX3_tryRound, Cond.code yX3_tryRound cX3_tryRound 7 none, Cond.methodLink RL 74 yX4_round, Cond.instanceMethod yX4_round, Cond.selects RX4 yX4_round yX4_round, Cond.code yX4_round cX4_round 7 (some .int), Cond.constantLong RX4 196 (8), Cond.methodLink RX4 198 yX4_singRound, Cond.instanceMethod yX4_singRound, Cond.selects RX4 yX4_singRound yX4_singRound, Cond.code yX4_singRound cX4_singRound 9 none, Cond.methodLink RL 75 yX3_bestRound, Cond.instanceMethod yX3_bestRound, Cond.selects RX3 yX3_bestRound yX3_bestRound, Cond.code yX3_bestRound cX3_bestRound 10 (some .int), Cond.methodLink RX3 209 yJ6_bitCount_0f7a4]
def wsL_law_r23 : List Cond := [Cond.static yJ6_bitCount_0f7a4, Cond.code yJ6_bitCount_0f7a4 cJ6_bitCount_0f7a4 1 (some .int), Cond.constant RJ6 265 (1431655765), Cond.constant RJ6 266 (858993459), Cond.constant RJ6 267 (252645135), Cond.methodLink RL 78 yX4_bestRound, Cond.instanceMethod yX4_bestRound, Cond.selects RX4 yX4_bestRound yX4_bestRound, Cond.code yX4_bestRound cX4_bestRound 10 (some .int), Cond.methodLink RX4 202 yX4_ones, Cond.static yX4_ones, Cond.code yX4_ones cX4_ones 3 (some .int), Cond.methodLink RL 79 yX3_song, Cond.instanceMethod yX3_song, Cond.selects RX3 yX3_song yX3_song, Cond.code yX3_song cX3_song 4 (some .int), Cond.methodLink RX3 214 yX3_seekSong, Cond.instanceMethod yX3_seekSong, Cond.selects RX3 yX3_seekSong yX3_seekSong, Cond.code yX3_seekSong cX3_seekSong 6 none, Cond.methodLink RX3 281 yX3_trySong, Cond.instanceMethod yX3_trySong, Cond.selects RX3 yX3_trySong yX3_trySong, Cond.code yX3_trySong cX3_trySong 7 (some .int)]
def wsL_law_r24 : List Cond := [Cond.methodLink RX3 287 yJ6_numberOfTrailingZeros_0f7a4, Cond.methodLink RX3 217 yX3_noteOf, Cond.static yX3_noteOf, Cond.code yX3_noteOf cX3_noteOf 3 (some .int), Cond.methodLink RX3 284 yX3_weighSong, Cond.instanceMethod yX3_weighSong, Cond.selects RX3 yX3_weighSong yX3_weighSong, Cond.code yX3_weighSong cX3_weighSong 6 none, Cond.methodLink RL 82 yX4_song, Cond.instanceMethod yX4_song, Cond.selects RX4 yX4_song yX4_song, Cond.code yX4_song cX4_song 10 (some .int), Cond.constantLong RX4 208 (4), Cond.constantLong RX4 210 (-1), Cond.fieldLink RX4 205 "JamSongsModel" "noteMany" "I", Cond.methodLink RX4 212 yX4_singsRow, Cond.instanceMethod yX4_singsRow, Cond.selects RX4 yX4_singsRow yX4_singsRow, Cond.code yX4_singsRow cX4_singsRow 5 (some .boolean), Cond.methodLink RL 83 yX3_toShut, Cond.instanceMethod yX3_toShut, Cond.selects RX3 yX3_toShut yX3_toShut, Cond.code yX3_toShut cX3_toShut 12 (some .int), Cond.constant RX3 221 (-1000000)]
def wsL_law_r25 : List Cond := [Cond.methodLink RX3 222 yX3_setsWithout, Cond.instanceMethod yX3_setsWithout, Cond.selects RX3 yX3_setsWithout yX3_setsWithout, Cond.code yX3_setsWithout cX3_setsWithout 5 (some .boolean), Cond.methodLink RL 87 yX4_toShut, Cond.instanceMethod yX4_toShut, Cond.selects RX4 yX4_toShut yX4_toShut, Cond.code yX4_toShut cX4_toShut 11 (some .int), Cond.methodLink RL 88 yX3_modes, Cond.instanceMethod yX3_modes, Cond.selects RX3 yX3_modes yX3_modes, Cond.code yX3_modes cX3_modes 12 (some .int), Cond.methodLink RL 92 yX4_modes, Cond.instanceMethod yX4_modes, Cond.selects RX4 yX4_modes yX4_modes, Cond.code yX4_modes cX4_modes 13 (some .int), Cond.constantLong RX4 215 (20), Cond.methodLink RL 93 yX3_coughs, Cond.instanceMethod yX3_coughs, Cond.selects RX3 yX3_coughs yX3_coughs, Cond.code yX3_coughs cX3_coughs 12 (some .int), Cond.methodLink RX3 226 yX3_weightOf, Cond.static yX3_weightOf, Cond.code yX3_weightOf cX3_weightOf 4 (some .int)]
def wsL_law_r26 : List Cond := [Cond.methodLink RX3 229 yX3_power, Cond.static yX3_power, Cond.code yX3_power cX3_power 4 (some .int), Cond.methodLink RX3 233 yX3_commonDivisor, Cond.static yX3_commonDivisor, Cond.code yX3_commonDivisor cX3_commonDivisor 6 (some .int), Cond.methodLink RX3 290 Lib.Math.max.name, Cond.methodLink RL 96 yX4_coughs, Cond.instanceMethod yX4_coughs, Cond.selects RX4 yX4_coughs yX4_coughs, Cond.code yX4_coughs cX4_coughs 14 (some .int), Cond.constantLong RX4 217 (10), Cond.methodLink RL 97 yX3_image, Cond.instanceMethod yX3_image, Cond.selects RX3 yX3_image yX3_image, Cond.code yX3_image cX3_image 2 (some .int), Cond.methodLink RL 100 yX4_image, Cond.instanceMethod yX4_image, Cond.selects RX4 yX4_image yX4_image, Cond.code yX4_image cX4_image 3 (some .int), Cond.methodLink RL 101 yX3_restore, Cond.instanceMethod yX3_restore, Cond.selects RX3 yX3_restore yX3_restore, Cond.code yX3_restore cX3_restore 2 (some .int)]
def wsL_law_r27 : List Cond := [Cond.methodLink RL 104 yX4_restore, Cond.instanceMethod yX4_restore, Cond.selects RX4 yX4_restore yX4_restore, Cond.code yX4_restore cX4_restore 3 (some .int), Cond.methodLink RL 105 yX3_kind, Cond.instanceMethod yX3_kind, Cond.selects RX3 yX3_kind yX3_kind, Cond.code yX3_kind cX3_kind 2 (some .int), Cond.fieldLink RX3 236 "JamSongs$Kitchen" "kind" "[I", Cond.methodLink RL 108 yX4_kind, Cond.instanceMethod yX4_kind, Cond.selects RX4 yX4_kind yX4_kind, Cond.code yX4_kind cX4_kind 2 (some .int), Cond.methodLink RL 109 yX3_as, Cond.instanceMethod yX3_as, Cond.selects RX3 yX3_as yX3_as, Cond.code yX3_as cX3_as 3 (some .int), Cond.methodLink RX3 239 yX3_isOf, Cond.static yX3_isOf, Cond.code yX3_isOf cX3_isOf 4 (some .boolean), Cond.fieldLink RX3 293 "JamSongs" "NEAREST" "[I", Cond.methodLink RL 112 yX4_as, Cond.instanceMethod yX4_as, Cond.selects RX4 yX4_as yX4_as]
def wsL_law_r28 : List Cond := [Cond.code yX4_as cX4_as 3 (some .int), Cond.constantLong RX4 219 (5), Cond.methodLink RX4 221 yX4_isKind, Cond.static yX4_isKind, Cond.code yX4_isKind cX4_isKind 2 (some .boolean), Cond.methodLink RL 113 yX3_ask, Cond.instanceMethod yX3_ask, Cond.selects RX3 yX3_ask yX3_ask, Cond.code yX3_ask cX3_ask 4 (some .int), Cond.methodLink RX3 242 yX3_sizeOfPlums, Cond.instanceMethod yX3_sizeOfPlums, Cond.selects RX3 yX3_sizeOfPlums yX3_sizeOfPlums, Cond.code yX3_sizeOfPlums cX3_sizeOfPlums 2 (some .int), Cond.methodLink RX3 296 yX3_leave, Cond.instanceMethod yX3_leave, Cond.selects RX3 yX3_leave yX3_leave, Cond.code yX3_leave cX3_leave 2 none, Cond.methodLink RX3 300 yX3_plumSize, Cond.instanceMethod yX3_plumSize, Cond.selects RX3 yX3_plumSize yX3_plumSize, Cond.code yX3_plumSize cX3_plumSize 3 (some .int), Cond.methodLink RX3 303 yX3_lentSize, Cond.instanceMethod yX3_lentSize, Cond.selects RX3 yX3_lentSize yX3_lentSize]
def wsL_law_r29 : List Cond := [Cond.code yX3_lentSize cX3_lentSize 2 (some .int), Cond.methodLink RX3 248 yX3_markOfPlums, Cond.instanceMethod yX3_markOfPlums, Cond.selects RX3 yX3_markOfPlums yX3_markOfPlums, Cond.code yX3_markOfPlums cX3_markOfPlums 2 (some .int), Cond.methodLink RX3 309 yX3_plumMark, Cond.instanceMethod yX3_plumMark, Cond.selects RX3 yX3_plumMark yX3_plumMark, Cond.code yX3_plumMark cX3_plumMark 2 (some .int), Cond.methodLink RX3 312 yX3_lentMark, Cond.instanceMethod yX3_lentMark, Cond.selects RX3 yX3_lentMark yX3_lentMark, Cond.code yX3_lentMark cX3_lentMark 2 (some .int), Cond.methodLink RX3 245 yX3_sizeOfMarrows, Cond.instanceMethod yX3_sizeOfMarrows, Cond.selects RX3 yX3_sizeOfMarrows yX3_sizeOfMarrows, Cond.code yX3_sizeOfMarrows cX3_sizeOfMarrows 2 (some .int), Cond.methodLink RX3 306 yX3_marrowSize, Cond.instanceMethod yX3_marrowSize, Cond.selects RX3 yX3_marrowSize yX3_marrowSize, Cond.code yX3_marrowSize cX3_marrowSize 2 (some .int), Cond.methodLink RX3 251 yX3_markOfMarrows, Cond.instanceMethod yX3_markOfMarrows, Cond.selects RX3 yX3_markOfMarrows yX3_markOfMarrows]
def wsL_law_r30 : List Cond := [Cond.code yX3_markOfMarrows cX3_markOfMarrows 3 (some .int), Cond.methodLink RL 116 yX4_ask, Cond.instanceMethod yX4_ask, Cond.selects RX4 yX4_ask yX4_ask, Cond.code yX4_ask cX4_ask 3 (some .int), Cond.fieldLink RX4 224 "JamSongsModel" "traced" "I", Cond.methodLink RX4 248 yX4_sizeOf, Cond.instanceMethod yX4_sizeOf, Cond.selects RX4 yX4_sizeOf yX4_sizeOf, Cond.code yX4_sizeOf cX4_sizeOf 3 (some .int), Cond.methodLink RX4 227 yX4_begin, Cond.instanceMethod yX4_begin, Cond.selects RX4 yX4_begin yX4_begin, Cond.code yX4_begin cX4_begin 2 none, Cond.methodLink RX4 245 yX4_plumSize, Cond.instanceMethod yX4_plumSize, Cond.selects RX4 yX4_plumSize yX4_plumSize, Cond.code yX4_plumSize cX4_plumSize 3 (some .int), Cond.methodLink RX4 230 yX4_lent, Cond.instanceMethod yX4_lent, Cond.selects RX4 yX4_lent yX4_lent, Cond.code yX4_lent cX4_lent 3 (some .int), Cond.methodLink RX4 242 yX4_markOf, Cond.instanceMethod yX4_markOf]
def wsL_law_r31 : List Cond := [Cond.selects RX4 yX4_markOf yX4_markOf, Cond.code yX4_markOf cX4_markOf 4 (some .int), Cond.methodLink RX4 236 yX4_plumMark, Cond.instanceMethod yX4_plumMark, Cond.selects RX4 yX4_plumMark yX4_plumMark, Cond.code yX4_plumMark cX4_plumMark 2 (some .int), Cond.methodLink RX4 239 yX4_sizeOfMarrow, Cond.instanceMethod yX4_sizeOfMarrow, Cond.selects RX4 yX4_sizeOfMarrow yX4_sizeOfMarrow, Cond.code yX4_sizeOfMarrow cX4_sizeOfMarrow 2 (some .int), Cond.methodLink RX4 233 yX4_marrowSize, Cond.instanceMethod yX4_marrowSize, Cond.selects RX4 yX4_marrowSize yX4_marrowSize, Cond.code yX4_marrowSize cX4_marrowSize 2 (some .int), Cond.methodLink RL 117 yX3_trace, Cond.instanceMethod yX3_trace, Cond.selects RX3 yX3_trace yX3_trace, Cond.code yX3_trace cX3_trace 2 (some .int), Cond.methodLink RL 120 yX4_trace, Cond.instanceMethod yX4_trace, Cond.selects RX4 yX4_trace yX4_trace, Cond.code yX4_trace cX4_trace 2 (some .int), Cond.methodLink RL 121 yX3_count, Cond.instanceMethod yX3_count]
def wsL_law_r32 : List Cond := [Cond.selects RX3 yX3_count yX3_count, Cond.code yX3_count cX3_count 2 (some .int), Cond.fieldLink RX3 257 "JamSongs$Kitchen" "bar" "I", Cond.fieldLink RX3 260 "JamSongs$Kitchen" "back" "I", Cond.methodLink RX3 254 yX3_rowsThere, Cond.instanceMethod yX3_rowsThere, Cond.selects RX3 yX3_rowsThere yX3_rowsThere, Cond.code yX3_rowsThere cX3_rowsThere 3 (some .int), Cond.methodLink RL 124 yX4_count, Cond.instanceMethod yX4_count, Cond.selects RX4 yX4_count yX4_count, Cond.code yX4_count cX4_count 4 (some .int), Cond.methodLink RL 125 yX3_status, Cond.instanceMethod yX3_status, Cond.selects RX3 yX3_status yX3_status, Cond.code yX3_status cX3_status 1 (some .int), Cond.methodLink RL 128 yX4_status, Cond.instanceMethod yX4_status, Cond.selects RX4 yX4_status yX4_status, Cond.code yX4_status cX4_status 1 (some .int)]
def wsL_law : List Cond := (wsL_law_r1 ++ (wsL_law_r2 ++ (wsL_law_r3 ++ (wsL_law_r4 ++ (wsL_law_r5 ++ (wsL_law_r6 ++ (wsL_law_r7 ++ (wsL_law_r8 ++ (wsL_law_r9 ++ (wsL_law_r10 ++ (wsL_law_r11 ++ (wsL_law_r12 ++ (wsL_law_r13 ++ (wsL_law_r14 ++ (wsL_law_r15 ++ (wsL_law_r16 ++ (wsL_law_r17 ++ (wsL_law_r18 ++ (wsL_law_r19 ++ (wsL_law_r20 ++ (wsL_law_r21 ++ (wsL_law_r22 ++ (wsL_law_r23 ++ (wsL_law_r24 ++ (wsL_law_r25 ++ (wsL_law_r26 ++ (wsL_law_r27 ++ (wsL_law_r28 ++ (wsL_law_r29 ++ (wsL_law_r30 ++ (wsL_law_r31 ++ wsL_law_r32))))))))))))))))))))))))))))))) ++ wsX30 ++ wsX40 ++ wsX20 ++ wsX00 ++ wsX10 ++ ([] : List Cond)
theorem jz_in {big : List Cond} : ∀ (ws : List Cond) (ps : List Nat), ws.length = ps.length → (ws.zip ps).all (fun q => decide (big[q.2]? = some q.1)) = true → ∀ w ∈ ws, w ∈ big
  | [], _, _, _, w, hw => by cases hw
  | _ :: _, [], hl, _, _, _ => by cases hl
  | u :: us, p :: ps, hl, h, w, hw => by
    rw [List.zip_cons_cons, List.all_cons, Bool.and_eq_true] at h
    rcases List.mem_cons.mp hw with rfl | hw
    · exact List.mem_of_getElem? (of_decide_eq_true h.1)
    · exact jz_in us ps (Nat.succ.inj hl) h.2 w hw
theorem jz_two {big : List Cond} (ws : List Cond) (pc ps : List Nat) (hp : ws.filter k2_isCode = pc.filterMap (fun i => big[i]?)) (hl : (ws.filter (fun w => !k2_isCode w)).length = ps.length) (h : ((ws.filter (fun w => !k2_isCode w)).zip ps).all (fun q => decide (big[q.2]? = some q.1)) = true) : ∀ w ∈ ws, w ∈ big := by
  intro w hw
  by_cases hc : k2_isCode w = true
  · have h1 : w ∈ ws.filter k2_isCode := List.mem_filter.mpr ⟨hw, hc⟩
    rw [hp] at h1
    obtain ⟨i, -, hi⟩ := List.mem_filterMap.mp h1
    exact List.mem_of_getElem? hi
  · exact jz_in _ ps hl h w (List.mem_filter.mpr ⟨hw, by simp [hc]⟩)
set_option maxRecDepth 100000 in
theorem wsL_law_in : ∀ w ∈ wsL_law, w ∈ lw_tbl := jz_two wsL_law [76, 79, 86, 119, 198, 623, 275, 278, 283, 288, 291, 295, 708, 711, 715, 721, 726, 299, 303, 307, 730, 733, 311, 737, 318, 741, 322, 745, 327, 331, 335, 341, 344, 348, 351, 355, 359, 363, 366, 370, 375, 751, 755, 759, 767, 771, 775, 779, 783, 788, 380, 793, 384, 389, 393, 397, 402, 406, 410, 413, 418, 421, 425, 428, 432, 797, 802, 806, 810, 814, 817, 821, 436, 825, 829, 833, 440, 444, 837, 448, 841, 453, 845, 457, 461, 465, 470, 849, 854, 858, 862, 866, 870, 476, 480, 874, 879, 484, 487, 883, 886, 494, 498, 502, 506, 510, 890, 896, 514, 519, 900, 523, 904, 527, 530, 533, 536, 909, 541, 914, 545, 918, 549, 922, 553, 556, 926, 930, 562, 566, 570, 574, 578, 582, 586, 590, 594, 598, 602, 934, 938, 942, 946, 950, 954, 958, 962, 966, 606, 970, 610, 614, 974, 618, 978] [72, 73, 63, 619, 620, 67, 74, 75, 77, 78, 80, 217, 82, 83, 64, 218, 115, 116, 65, 219, 220, 221, 193, 114, 222, 223, 224, 225, 226, 227, 228, 229, 230, 231, 232, 233, 234, 195, 66, 85, 87, 88, 90, 92, 94, 95, 96, 97, 118, 120, 121, 123, 126, 129, 132, 135, 138, 141, 144, 147, 150, 152, 154, 157, 159, 197, 199, 200, 202, 204, 206, 621, 622, 624, 625, 626, 627, 630, 631, 632, 640, 641, 642, 644, 645, 704, 647, 648, 649, 272, 273, 274, 279, 276, 277, 280, 282, 0, 284, 285, 286, 287, 289, 290, 68, 292, 294, 1, 705, 706, 707, 716, 717, 709, 710, 712, 713, 714, 718, 720, 30, 628, 722, 723, 725, 31, 296, 297, 298, 201, 207, 300, 301, 302, 304, 305, 306, 727, 728, 729, 731, 732, 308, 309, 310, 203, 312, 314, 313, 69, 734, 735, 736, 315, 316, 317, 205, 738, 739, 740, 319, 320, 321, 91, 323, 89, 742, 743, 744, 746, 633, 747, 324, 325, 326, 98, 371, 93, 140, 328, 329, 330, 124, 332, 333, 334, 337, 336, 338, 340, 2, 342, 343, 345, 347, 3, 349, 350, 70, 352, 354, 4, 356, 358, 5, 360, 362, 6, 130, 133, 136, 127, 364, 365, 367, 369, 7, 142, 145, 148, 155, 139, 372, 373, 374, 376, 748, 749, 750, 639, 634, 789, 638, 629, 643, 752, 754, 32, 635, 636, 756, 758, 33, 637, 760, 761, 762, 763, 764, 766, 34, 768, 770, 35, 772, 774, 36, 776, 778, 37, 780, 782, 38, 784, 785, 787, 39, 377, 378, 379, 790, 791, 792, 381, 382, 383, 122, 385, 128, 386, 387, 388, 390, 392, 8, 398, 394, 395, 396, 399, 400, 401, 403, 404, 405, 407, 409, 9, 411, 412, 71, 414, 415, 417, 10, 419, 420, 422, 424, 11, 426, 427, 429, 430, 431, 794, 795, 796, 798, 799, 801, 40, 803, 805, 41, 807, 809, 42, 811, 813, 43, 815, 816, 818, 820, 44, 433, 434, 435, 156, 822, 823, 824, 826, 828, 45, 830, 832, 46, 437, 438, 439, 441, 442, 443, 834, 835, 836, 445, 446, 447, 146, 149, 158, 160, 449, 838, 839, 840, 450, 451, 452, 131, 134, 137, 153, 842, 843, 844, 454, 455, 456, 458, 460, 12, 462, 464, 13, 466, 467, 468, 469, 471, 472, 846, 847, 848, 850, 851, 853, 47, 855, 857, 48, 859, 861, 49, 863, 865, 50, 867, 869, 51, 473, 474, 475, 477, 479, 14, 871, 872, 873, 875, 876, 878, 52, 481, 482, 483, 485, 486, 488, 489, 490, 880, 881, 882, 884, 885, 491, 492, 493, 495, 497, 15, 499, 501, 16, 503, 504, 505, 507, 509, 17, 887, 888, 889, 891, 892, 646, 893, 895, 53, 511, 512, 513, 515, 516, 518, 18, 897, 898, 899, 520, 521, 522, 901, 902, 903, 905, 524, 525, 526, 528, 529, 531, 532, 534, 535, 537, 906, 907, 908, 910, 538, 539, 540, 911, 912, 913, 542, 543, 544, 915, 916, 917, 546, 547, 548, 143, 919, 920, 921, 550, 551, 552, 554, 555, 557, 923, 924, 925, 927, 928, 929, 559, 560, 561, 563, 565, 19, 567, 569, 20, 571, 573, 21, 575, 577, 22, 579, 581, 23, 583, 585, 24, 587, 589, 25, 591, 593, 26, 595, 597, 27, 599, 601, 28, 931, 932, 933, 650, 935, 937, 54, 939, 941, 55, 943, 945, 56, 947, 949, 57, 951, 953, 58, 955, 957, 59, 959, 961, 60, 963, 965, 61, 603, 604, 605, 967, 968, 969, 607, 608, 609, 151, 125, 611, 613, 29, 971, 972, 973, 615, 616, 617, 975, 976, 977, 235, 237, 239, 241, 243, 245, 247, 249, 251, 253, 255, 257, 259, 261, 263, 265, 267, 269, 651, 653, 655, 657, 659, 661, 663, 665, 667, 669, 671, 673, 675, 677, 679, 681, 683, 685, 687, 689, 691, 693, 695, 697, 699, 701, 99, 101, 103, 105, 107, 109, 111, 161, 163, 165, 167, 169, 171, 173, 175, 177, 179, 181, 183, 185, 187, 189, 208, 210, 212, 214] rfl (by decide +kernel) (by decide +kernel)
theorem inlX0 : ∀ w ∈ wsX00, w ∈ wsL_law := fun _ h => List.mem_append_left _ (List.mem_append_left _ (List.mem_append_right _ h))
theorem inX0 : ∀ w ∈ wsX00, w ∈ lw_tbl := fun w h => wsL_law_in w (inlX0 w h)
theorem inlX1 : ∀ w ∈ wsX10, w ∈ wsL_law := fun _ h => List.mem_append_left _ (List.mem_append_right _ h)
theorem inX1 : ∀ w ∈ wsX10, w ∈ lw_tbl := fun w h => wsL_law_in w (inlX1 w h)
theorem inlX2 : ∀ w ∈ wsX20, w ∈ wsL_law := fun _ h => List.mem_append_left _ (List.mem_append_left _ (List.mem_append_left _ (List.mem_append_right _ h)))
theorem inX2 : ∀ w ∈ wsX20, w ∈ lw_tbl := fun w h => wsL_law_in w (inlX2 w h)
theorem inlX3 : ∀ w ∈ wsX30, w ∈ wsL_law := fun _ h => List.mem_append_left _ (List.mem_append_left _ (List.mem_append_left _ (List.mem_append_left _ (List.mem_append_left _ (List.mem_append_right _ h)))))
theorem inX3 : ∀ w ∈ wsX30, w ∈ lw_tbl := fun w h => wsL_law_in w (inlX3 w h)
theorem inlX4 : ∀ w ∈ wsX40, w ∈ wsL_law := fun _ h => List.mem_append_left _ (List.mem_append_left _ (List.mem_append_left _ (List.mem_append_left _ (List.mem_append_right _ h))))
theorem inX4 : ∀ w ∈ wsX40, w ∈ lw_tbl := fun w h => wsL_law_in w (inlX4 w h)
end
section
theorem dX0_init_0 : decode cX0_init 0 = .ok (.aload_n 0, 1) := by decide +kernel
theorem dX0_init_1 : decode cX0_init 1 = .ok (.invokespecial 3, 3) := by decide +kernel
theorem dX0_init_4 : decode cX0_init 4 = .ok (.aload_n 0, 1) := by decide +kernel
theorem dX0_init_5 : decode cX0_init 5 = .ok (.iconst 0, 1) := by decide +kernel
theorem dX0_init_6 : decode cX0_init 6 = .ok (.putfield 9, 3) := by decide +kernel
theorem dX0_init_9 : decode cX0_init 9 = .ok (.aload_n 0, 1) := by decide +kernel
theorem dX0_init_10 : decode cX0_init 10 = .ok (.iconst 0, 1) := by decide +kernel
theorem dX0_init_11 : decode cX0_init 11 = .ok (.putfield 15, 3) := by decide +kernel
theorem dX0_init_14 : decode cX0_init 14 = .ok (.aload_n 0, 1) := by decide +kernel
theorem dX0_init_15 : decode cX0_init 15 = .ok (.iconst 0, 1) := by decide +kernel
theorem dX0_init_16 : decode cX0_init 16 = .ok (.putfield 19, 3) := by decide +kernel
theorem dX0_init_19 : decode cX0_init 19 = .ok (.aload_n 0, 1) := by decide +kernel
theorem dX0_init_20 : decode cX0_init 20 = .ok (.iconst 3, 1) := by decide +kernel
theorem dX0_init_21 : decode cX0_init 21 = .ok (.newarray .int, 2) := by decide +kernel
theorem dX0_init_23 : decode cX0_init 23 = .ok (.putfield 22, 3) := by decide +kernel
theorem dX0_init_26 : decode cX0_init 26 = .ok (.aload_n 0, 1) := by decide +kernel
theorem dX0_init_27 : decode cX0_init 27 = .ok (.iconst 3, 1) := by decide +kernel
theorem dX0_init_28 : decode cX0_init 28 = .ok (.newarray .int, 2) := by decide +kernel
theorem dX0_init_30 : decode cX0_init 30 = .ok (.putfield 26, 3) := by decide +kernel
theorem dX0_init_33 : decode cX0_init 33 = .ok (.aload_n 0, 1) := by decide +kernel
theorem dX0_init_34 : decode cX0_init 34 = .ok (.iconst 3, 1) := by decide +kernel
theorem dX0_init_35 : decode cX0_init 35 = .ok (.newarray .int, 2) := by decide +kernel
theorem dX0_init_37 : decode cX0_init 37 = .ok (.putfield 29, 3) := by decide +kernel
theorem dX0_init_40 : decode cX0_init 40 = .ok (.aload_n 0, 1) := by decide +kernel
theorem dX0_init_41 : decode cX0_init 41 = .ok (.iconst 0, 1) := by decide +kernel
theorem dX0_init_42 : decode cX0_init 42 = .ok (.putfield 32, 3) := by decide +kernel
theorem dX0_init_45 : decode cX0_init 45 = .ok (.aload_n 0, 1) := by decide +kernel
theorem dX0_init_46 : decode cX0_init 46 = .ok (.iconst 5, 1) := by decide +kernel
theorem dX0_init_47 : decode cX0_init 47 = .ok (.newarray .int, 2) := by decide +kernel
theorem dX0_init_49 : decode cX0_init 49 = .ok (.putfield 35, 3) := by decide +kernel
theorem dX0_init_52 : decode cX0_init 52 = .ok (.aload_n 0, 1) := by decide +kernel
theorem dX0_init_53 : decode cX0_init 53 = .ok (.iconst 5, 1) := by decide +kernel
theorem dX0_init_54 : decode cX0_init 54 = .ok (.newarray .int, 2) := by decide +kernel
theorem dX0_init_56 : decode cX0_init 56 = .ok (.putfield 38, 3) := by decide +kernel
theorem dX0_init_59 : decode cX0_init 59 = .ok (.aload_n 0, 1) := by decide +kernel
theorem dX0_init_60 : decode cX0_init 60 = .ok (.iconst 5, 1) := by decide +kernel
theorem dX0_init_61 : decode cX0_init 61 = .ok (.newarray .int, 2) := by decide +kernel
theorem dX0_init_63 : decode cX0_init 63 = .ok (.putfield 41, 3) := by decide +kernel
theorem dX0_init_66 : decode cX0_init 66 = .ok (.aload_n 0, 1) := by decide +kernel
theorem dX0_init_67 : decode cX0_init 67 = .ok (.iconst 0, 1) := by decide +kernel
theorem dX0_init_68 : decode cX0_init 68 = .ok (.putfield 44, 3) := by decide +kernel
theorem dX0_init_71 : decode cX0_init 71 = .ok (.aload_n 0, 1) := by decide +kernel
theorem dX0_init_72 : decode cX0_init 72 = .ok (.iconst 3, 1) := by decide +kernel
theorem dX0_init_73 : decode cX0_init 73 = .ok (.newarray .int, 2) := by decide +kernel
theorem dX0_init_75 : decode cX0_init 75 = .ok (.putfield 47, 3) := by decide +kernel
theorem dX0_init_78 : decode cX0_init 78 = .ok (.aload_n 0, 1) := by decide +kernel
theorem dX0_init_79 : decode cX0_init 79 = .ok (.iconst 5, 1) := by decide +kernel
theorem dX0_init_80 : decode cX0_init 80 = .ok (.newarray .int, 2) := by decide +kernel
theorem dX0_init_82 : decode cX0_init 82 = .ok (.putfield 50, 3) := by decide +kernel
theorem dX0_init_85 : decode cX0_init 85 = .ok (.aload_n 0, 1) := by decide +kernel
theorem dX0_init_86 : decode cX0_init 86 = .ok (.iconst 5, 1) := by decide +kernel
theorem dX0_init_87 : decode cX0_init 87 = .ok (.newarray .int, 2) := by decide +kernel
theorem dX0_init_89 : decode cX0_init 89 = .ok (.putfield 53, 3) := by decide +kernel
theorem dX0_init_92 : decode cX0_init 92 = .ok (.aload_n 0, 1) := by decide +kernel
theorem dX0_init_93 : decode cX0_init 93 = .ok (.iconst 5, 1) := by decide +kernel
theorem dX0_init_94 : decode cX0_init 94 = .ok (.newarray .int, 2) := by decide +kernel
theorem dX0_init_96 : decode cX0_init 96 = .ok (.putfield 56, 3) := by decide +kernel
theorem dX0_init_99 : decode cX0_init 99 = .ok (.return_, 1) := by decide +kernel
theorem dX0_begin_0 : decode cX0_begin 0 = .ok (.aload_n 0, 1) := by decide +kernel
theorem dX0_begin_1 : decode cX0_begin 1 = .ok (.iconst 1, 1) := by decide +kernel
theorem dX0_begin_2 : decode cX0_begin 2 = .ok (.putfield 9, 3) := by decide +kernel
theorem dX0_begin_5 : decode cX0_begin 5 = .ok (.aload_n 0, 1) := by decide +kernel
theorem dX0_begin_6 : decode cX0_begin 6 = .ok (.iconst 0, 1) := by decide +kernel
theorem dX0_begin_7 : decode cX0_begin 7 = .ok (.putfield 19, 3) := by decide +kernel
theorem dX0_begin_10 : decode cX0_begin 10 = .ok (.aload_n 0, 1) := by decide +kernel
theorem dX0_begin_11 : decode cX0_begin 11 = .ok (.iconst 0, 1) := by decide +kernel
theorem dX0_begin_12 : decode cX0_begin 12 = .ok (.putfield 32, 3) := by decide +kernel
theorem dX0_begin_15 : decode cX0_begin 15 = .ok (.aload_n 0, 1) := by decide +kernel
theorem dX0_begin_16 : decode cX0_begin 16 = .ok (.iconst 0, 1) := by decide +kernel
theorem dX0_begin_17 : decode cX0_begin 17 = .ok (.putfield 44, 3) := by decide +kernel
theorem dX0_begin_20 : decode cX0_begin 20 = .ok (.aload_n 0, 1) := by decide +kernel
theorem dX0_begin_21 : decode cX0_begin 21 = .ok (.getfield 47, 3) := by decide +kernel
theorem dX0_begin_24 : decode cX0_begin 24 = .ok (.iconst 0, 1) := by decide +kernel
theorem dX0_begin_25 : decode cX0_begin 25 = .ok (.invokestatic 59, 3) := by decide +kernel
theorem dX0_begin_28 : decode cX0_begin 28 = .ok (.aload_n 0, 1) := by decide +kernel
theorem dX0_begin_29 : decode cX0_begin 29 = .ok (.getfield 53, 3) := by decide +kernel
theorem dX0_begin_32 : decode cX0_begin 32 = .ok (.iconst 0, 1) := by decide +kernel
theorem dX0_begin_33 : decode cX0_begin 33 = .ok (.invokestatic 59, 3) := by decide +kernel
theorem dX0_begin_36 : decode cX0_begin 36 = .ok (.aload_n 0, 1) := by decide +kernel
theorem dX0_begin_37 : decode cX0_begin 37 = .ok (.getfield 56, 3) := by decide +kernel
theorem dX0_begin_40 : decode cX0_begin 40 = .ok (.ldc 65, 2) := by decide +kernel
theorem dX0_begin_42 : decode cX0_begin 42 = .ok (.invokestatic 59, 3) := by decide +kernel
theorem dX0_begin_45 : decode cX0_begin 45 = .ok (.return_, 1) := by decide +kernel
theorem dX0_takeFrom_0 : decode cX0_takeFrom 0 = .ok (.aload_n 0, 1) := by decide +kernel
theorem dX0_takeFrom_1 : decode cX0_takeFrom 1 = .ok (.aload_n 1, 1) := by decide +kernel
theorem dX0_takeFrom_2 : decode cX0_takeFrom 2 = .ok (.getfield 9, 3) := by decide +kernel
theorem dX0_takeFrom_5 : decode cX0_takeFrom 5 = .ok (.putfield 9, 3) := by decide +kernel
theorem dX0_takeFrom_8 : decode cX0_takeFrom 8 = .ok (.aload_n 0, 1) := by decide +kernel
theorem dX0_takeFrom_9 : decode cX0_takeFrom 9 = .ok (.aload_n 1, 1) := by decide +kernel
theorem dX0_takeFrom_10 : decode cX0_takeFrom 10 = .ok (.getfield 15, 3) := by decide +kernel
theorem dX0_takeFrom_13 : decode cX0_takeFrom 13 = .ok (.putfield 15, 3) := by decide +kernel
theorem dX0_takeFrom_16 : decode cX0_takeFrom 16 = .ok (.aload_n 0, 1) := by decide +kernel
theorem dX0_takeFrom_17 : decode cX0_takeFrom 17 = .ok (.aload_n 1, 1) := by decide +kernel
theorem dX0_takeFrom_18 : decode cX0_takeFrom 18 = .ok (.getfield 19, 3) := by decide +kernel
theorem dX0_takeFrom_21 : decode cX0_takeFrom 21 = .ok (.putfield 19, 3) := by decide +kernel
theorem dX0_takeFrom_24 : decode cX0_takeFrom 24 = .ok (.aload_n 0, 1) := by decide +kernel
theorem dX0_takeFrom_25 : decode cX0_takeFrom 25 = .ok (.aload_n 1, 1) := by decide +kernel
theorem dX0_takeFrom_26 : decode cX0_takeFrom 26 = .ok (.getfield 32, 3) := by decide +kernel
theorem dX0_takeFrom_29 : decode cX0_takeFrom 29 = .ok (.putfield 32, 3) := by decide +kernel
theorem dX0_takeFrom_32 : decode cX0_takeFrom 32 = .ok (.aload_n 0, 1) := by decide +kernel
theorem dX0_takeFrom_33 : decode cX0_takeFrom 33 = .ok (.aload_n 1, 1) := by decide +kernel
theorem dX0_takeFrom_34 : decode cX0_takeFrom 34 = .ok (.getfield 44, 3) := by decide +kernel
theorem dX0_takeFrom_37 : decode cX0_takeFrom 37 = .ok (.putfield 44, 3) := by decide +kernel
theorem dX0_takeFrom_40 : decode cX0_takeFrom 40 = .ok (.aload_n 1, 1) := by decide +kernel
theorem dX0_takeFrom_41 : decode cX0_takeFrom 41 = .ok (.getfield 22, 3) := by decide +kernel
theorem dX0_takeFrom_44 : decode cX0_takeFrom 44 = .ok (.iconst 0, 1) := by decide +kernel
theorem dX0_takeFrom_45 : decode cX0_takeFrom 45 = .ok (.aload_n 0, 1) := by decide +kernel
theorem dX0_takeFrom_46 : decode cX0_takeFrom 46 = .ok (.getfield 22, 3) := by decide +kernel
theorem dX0_takeFrom_49 : decode cX0_takeFrom 49 = .ok (.iconst 0, 1) := by decide +kernel
theorem dX0_takeFrom_50 : decode cX0_takeFrom 50 = .ok (.iconst 3, 1) := by decide +kernel
theorem dX0_takeFrom_51 : decode cX0_takeFrom 51 = .ok (.invokestatic 66, 3) := by decide +kernel
theorem dX0_takeFrom_54 : decode cX0_takeFrom 54 = .ok (.aload_n 1, 1) := by decide +kernel
theorem dX0_takeFrom_55 : decode cX0_takeFrom 55 = .ok (.getfield 26, 3) := by decide +kernel
theorem dX0_takeFrom_58 : decode cX0_takeFrom 58 = .ok (.iconst 0, 1) := by decide +kernel
theorem dX0_takeFrom_59 : decode cX0_takeFrom 59 = .ok (.aload_n 0, 1) := by decide +kernel
theorem dX0_takeFrom_60 : decode cX0_takeFrom 60 = .ok (.getfield 26, 3) := by decide +kernel
theorem dX0_takeFrom_63 : decode cX0_takeFrom 63 = .ok (.iconst 0, 1) := by decide +kernel
theorem dX0_takeFrom_64 : decode cX0_takeFrom 64 = .ok (.iconst 3, 1) := by decide +kernel
theorem dX0_takeFrom_65 : decode cX0_takeFrom 65 = .ok (.invokestatic 66, 3) := by decide +kernel
theorem dX0_takeFrom_68 : decode cX0_takeFrom 68 = .ok (.aload_n 1, 1) := by decide +kernel
theorem dX0_takeFrom_69 : decode cX0_takeFrom 69 = .ok (.getfield 29, 3) := by decide +kernel
theorem dX0_takeFrom_72 : decode cX0_takeFrom 72 = .ok (.iconst 0, 1) := by decide +kernel
theorem dX0_takeFrom_73 : decode cX0_takeFrom 73 = .ok (.aload_n 0, 1) := by decide +kernel
theorem dX0_takeFrom_74 : decode cX0_takeFrom 74 = .ok (.getfield 29, 3) := by decide +kernel
theorem dX0_takeFrom_77 : decode cX0_takeFrom 77 = .ok (.iconst 0, 1) := by decide +kernel
theorem dX0_takeFrom_78 : decode cX0_takeFrom 78 = .ok (.iconst 3, 1) := by decide +kernel
theorem dX0_takeFrom_79 : decode cX0_takeFrom 79 = .ok (.invokestatic 66, 3) := by decide +kernel
theorem dX0_takeFrom_82 : decode cX0_takeFrom 82 = .ok (.aload_n 1, 1) := by decide +kernel
theorem dX0_takeFrom_83 : decode cX0_takeFrom 83 = .ok (.getfield 47, 3) := by decide +kernel
theorem dX0_takeFrom_86 : decode cX0_takeFrom 86 = .ok (.iconst 0, 1) := by decide +kernel
theorem dX0_takeFrom_87 : decode cX0_takeFrom 87 = .ok (.aload_n 0, 1) := by decide +kernel
theorem dX0_takeFrom_88 : decode cX0_takeFrom 88 = .ok (.getfield 47, 3) := by decide +kernel
theorem dX0_takeFrom_91 : decode cX0_takeFrom 91 = .ok (.iconst 0, 1) := by decide +kernel
theorem dX0_takeFrom_92 : decode cX0_takeFrom 92 = .ok (.iconst 3, 1) := by decide +kernel
theorem dX0_takeFrom_93 : decode cX0_takeFrom 93 = .ok (.invokestatic 66, 3) := by decide +kernel
theorem dX0_takeFrom_96 : decode cX0_takeFrom 96 = .ok (.aload_n 1, 1) := by decide +kernel
theorem dX0_takeFrom_97 : decode cX0_takeFrom 97 = .ok (.getfield 35, 3) := by decide +kernel
theorem dX0_takeFrom_100 : decode cX0_takeFrom 100 = .ok (.iconst 0, 1) := by decide +kernel
theorem dX0_takeFrom_101 : decode cX0_takeFrom 101 = .ok (.aload_n 0, 1) := by decide +kernel
theorem dX0_takeFrom_102 : decode cX0_takeFrom 102 = .ok (.getfield 35, 3) := by decide +kernel
theorem dX0_takeFrom_105 : decode cX0_takeFrom 105 = .ok (.iconst 0, 1) := by decide +kernel
theorem dX0_takeFrom_106 : decode cX0_takeFrom 106 = .ok (.iconst 5, 1) := by decide +kernel
theorem dX0_takeFrom_107 : decode cX0_takeFrom 107 = .ok (.invokestatic 66, 3) := by decide +kernel
theorem dX0_takeFrom_110 : decode cX0_takeFrom 110 = .ok (.aload_n 1, 1) := by decide +kernel
theorem dX0_takeFrom_111 : decode cX0_takeFrom 111 = .ok (.getfield 38, 3) := by decide +kernel
theorem dX0_takeFrom_114 : decode cX0_takeFrom 114 = .ok (.iconst 0, 1) := by decide +kernel
theorem dX0_takeFrom_115 : decode cX0_takeFrom 115 = .ok (.aload_n 0, 1) := by decide +kernel
theorem dX0_takeFrom_116 : decode cX0_takeFrom 116 = .ok (.getfield 38, 3) := by decide +kernel
theorem dX0_takeFrom_119 : decode cX0_takeFrom 119 = .ok (.iconst 0, 1) := by decide +kernel
theorem dX0_takeFrom_120 : decode cX0_takeFrom 120 = .ok (.iconst 5, 1) := by decide +kernel
theorem dX0_takeFrom_121 : decode cX0_takeFrom 121 = .ok (.invokestatic 66, 3) := by decide +kernel
theorem dX0_takeFrom_124 : decode cX0_takeFrom 124 = .ok (.aload_n 1, 1) := by decide +kernel
theorem dX0_takeFrom_125 : decode cX0_takeFrom 125 = .ok (.getfield 41, 3) := by decide +kernel
theorem dX0_takeFrom_128 : decode cX0_takeFrom 128 = .ok (.iconst 0, 1) := by decide +kernel
theorem dX0_takeFrom_129 : decode cX0_takeFrom 129 = .ok (.aload_n 0, 1) := by decide +kernel
theorem dX0_takeFrom_130 : decode cX0_takeFrom 130 = .ok (.getfield 41, 3) := by decide +kernel
theorem dX0_takeFrom_133 : decode cX0_takeFrom 133 = .ok (.iconst 0, 1) := by decide +kernel
theorem dX0_takeFrom_134 : decode cX0_takeFrom 134 = .ok (.iconst 5, 1) := by decide +kernel
theorem dX0_takeFrom_135 : decode cX0_takeFrom 135 = .ok (.invokestatic 66, 3) := by decide +kernel
theorem dX0_takeFrom_138 : decode cX0_takeFrom 138 = .ok (.aload_n 1, 1) := by decide +kernel
theorem dX0_takeFrom_139 : decode cX0_takeFrom 139 = .ok (.getfield 50, 3) := by decide +kernel
theorem dX0_takeFrom_142 : decode cX0_takeFrom 142 = .ok (.iconst 0, 1) := by decide +kernel
theorem dX0_takeFrom_143 : decode cX0_takeFrom 143 = .ok (.aload_n 0, 1) := by decide +kernel
theorem dX0_takeFrom_144 : decode cX0_takeFrom 144 = .ok (.getfield 50, 3) := by decide +kernel
theorem dX0_takeFrom_147 : decode cX0_takeFrom 147 = .ok (.iconst 0, 1) := by decide +kernel
theorem dX0_takeFrom_148 : decode cX0_takeFrom 148 = .ok (.iconst 5, 1) := by decide +kernel
theorem dX0_takeFrom_149 : decode cX0_takeFrom 149 = .ok (.invokestatic 66, 3) := by decide +kernel
theorem dX0_takeFrom_152 : decode cX0_takeFrom 152 = .ok (.aload_n 1, 1) := by decide +kernel
theorem dX0_takeFrom_153 : decode cX0_takeFrom 153 = .ok (.getfield 53, 3) := by decide +kernel
theorem dX0_takeFrom_156 : decode cX0_takeFrom 156 = .ok (.iconst 0, 1) := by decide +kernel
theorem dX0_takeFrom_157 : decode cX0_takeFrom 157 = .ok (.aload_n 0, 1) := by decide +kernel
theorem dX0_takeFrom_158 : decode cX0_takeFrom 158 = .ok (.getfield 53, 3) := by decide +kernel
theorem dX0_takeFrom_161 : decode cX0_takeFrom 161 = .ok (.iconst 0, 1) := by decide +kernel
theorem dX0_takeFrom_162 : decode cX0_takeFrom 162 = .ok (.iconst 5, 1) := by decide +kernel
theorem dX0_takeFrom_163 : decode cX0_takeFrom 163 = .ok (.invokestatic 66, 3) := by decide +kernel
theorem dX0_takeFrom_166 : decode cX0_takeFrom 166 = .ok (.aload_n 1, 1) := by decide +kernel
theorem dX0_takeFrom_167 : decode cX0_takeFrom 167 = .ok (.getfield 56, 3) := by decide +kernel
theorem dX0_takeFrom_170 : decode cX0_takeFrom 170 = .ok (.iconst 0, 1) := by decide +kernel
theorem dX0_takeFrom_171 : decode cX0_takeFrom 171 = .ok (.aload_n 0, 1) := by decide +kernel
theorem dX0_takeFrom_172 : decode cX0_takeFrom 172 = .ok (.getfield 56, 3) := by decide +kernel
theorem dX0_takeFrom_175 : decode cX0_takeFrom 175 = .ok (.iconst 0, 1) := by decide +kernel
theorem dX0_takeFrom_176 : decode cX0_takeFrom 176 = .ok (.iconst 5, 1) := by decide +kernel
theorem dX0_takeFrom_177 : decode cX0_takeFrom 177 = .ok (.invokestatic 66, 3) := by decide +kernel
theorem dX0_takeFrom_180 : decode cX0_takeFrom 180 = .ok (.return_, 1) := by decide +kernel
theorem dX0_keep_0 : decode cX0_keep 0 = .ok (.aload_n 1, 1) := by decide +kernel
theorem dX0_keep_1 : decode cX0_keep 1 = .ok (.iconst 0, 1) := by decide +kernel
theorem dX0_keep_2 : decode cX0_keep 2 = .ok (.aload_n 0, 1) := by decide +kernel
theorem dX0_keep_3 : decode cX0_keep 3 = .ok (.getfield 44, 3) := by decide +kernel
theorem dX0_keep_6 : decode cX0_keep 6 = .ok (.iastore, 1) := by decide +kernel
theorem dX0_keep_7 : decode cX0_keep 7 = .ok (.aload_n 0, 1) := by decide +kernel
theorem dX0_keep_8 : decode cX0_keep 8 = .ok (.getfield 47, 3) := by decide +kernel
theorem dX0_keep_11 : decode cX0_keep 11 = .ok (.iconst 0, 1) := by decide +kernel
theorem dX0_keep_12 : decode cX0_keep 12 = .ok (.aload_n 1, 1) := by decide +kernel
theorem dX0_keep_13 : decode cX0_keep 13 = .ok (.iconst 1, 1) := by decide +kernel
theorem dX0_keep_14 : decode cX0_keep 14 = .ok (.iconst 3, 1) := by decide +kernel
theorem dX0_keep_15 : decode cX0_keep 15 = .ok (.invokestatic 66, 3) := by decide +kernel
theorem dX0_keep_18 : decode cX0_keep 18 = .ok (.aload_n 0, 1) := by decide +kernel
theorem dX0_keep_19 : decode cX0_keep 19 = .ok (.getfield 50, 3) := by decide +kernel
theorem dX0_keep_22 : decode cX0_keep 22 = .ok (.iconst 0, 1) := by decide +kernel
theorem dX0_keep_23 : decode cX0_keep 23 = .ok (.aload_n 1, 1) := by decide +kernel
theorem dX0_keep_24 : decode cX0_keep 24 = .ok (.iconst 4, 1) := by decide +kernel
theorem dX0_keep_25 : decode cX0_keep 25 = .ok (.iconst 5, 1) := by decide +kernel
theorem dX0_keep_26 : decode cX0_keep 26 = .ok (.invokestatic 66, 3) := by decide +kernel
theorem dX0_keep_29 : decode cX0_keep 29 = .ok (.aload_n 0, 1) := by decide +kernel
theorem dX0_keep_30 : decode cX0_keep 30 = .ok (.getfield 53, 3) := by decide +kernel
theorem dX0_keep_33 : decode cX0_keep 33 = .ok (.iconst 0, 1) := by decide +kernel
theorem dX0_keep_34 : decode cX0_keep 34 = .ok (.aload_n 1, 1) := by decide +kernel
theorem dX0_keep_35 : decode cX0_keep 35 = .ok (.bipush 9, 2) := by decide +kernel
theorem dX0_keep_37 : decode cX0_keep 37 = .ok (.iconst 5, 1) := by decide +kernel
theorem dX0_keep_38 : decode cX0_keep 38 = .ok (.invokestatic 66, 3) := by decide +kernel
theorem dX0_keep_41 : decode cX0_keep 41 = .ok (.aload_n 0, 1) := by decide +kernel
theorem dX0_keep_42 : decode cX0_keep 42 = .ok (.getfield 56, 3) := by decide +kernel
theorem dX0_keep_45 : decode cX0_keep 45 = .ok (.iconst 0, 1) := by decide +kernel
theorem dX0_keep_46 : decode cX0_keep 46 = .ok (.aload_n 1, 1) := by decide +kernel
theorem dX0_keep_47 : decode cX0_keep 47 = .ok (.bipush 14, 2) := by decide +kernel
theorem dX0_keep_49 : decode cX0_keep 49 = .ok (.iconst 5, 1) := by decide +kernel
theorem dX0_keep_50 : decode cX0_keep 50 = .ok (.invokestatic 66, 3) := by decide +kernel
theorem dX0_keep_53 : decode cX0_keep 53 = .ok (.return_, 1) := by decide +kernel
theorem dX0_bring_0 : decode cX0_bring 0 = .ok (.aload_n 0, 1) := by decide +kernel
theorem dX0_bring_1 : decode cX0_bring 1 = .ok (.aload_n 1, 1) := by decide +kernel
theorem dX0_bring_2 : decode cX0_bring 2 = .ok (.iconst 0, 1) := by decide +kernel
theorem dX0_bring_3 : decode cX0_bring 3 = .ok (.iaload, 1) := by decide +kernel
theorem dX0_bring_4 : decode cX0_bring 4 = .ok (.putfield 44, 3) := by decide +kernel
theorem dX0_bring_7 : decode cX0_bring 7 = .ok (.aload_n 1, 1) := by decide +kernel
theorem dX0_bring_8 : decode cX0_bring 8 = .ok (.iconst 1, 1) := by decide +kernel
theorem dX0_bring_9 : decode cX0_bring 9 = .ok (.aload_n 0, 1) := by decide +kernel
theorem dX0_bring_10 : decode cX0_bring 10 = .ok (.getfield 47, 3) := by decide +kernel
theorem dX0_bring_13 : decode cX0_bring 13 = .ok (.iconst 0, 1) := by decide +kernel
theorem dX0_bring_14 : decode cX0_bring 14 = .ok (.iconst 3, 1) := by decide +kernel
theorem dX0_bring_15 : decode cX0_bring 15 = .ok (.invokestatic 66, 3) := by decide +kernel
theorem dX0_bring_18 : decode cX0_bring 18 = .ok (.aload_n 1, 1) := by decide +kernel
theorem dX0_bring_19 : decode cX0_bring 19 = .ok (.iconst 4, 1) := by decide +kernel
theorem dX0_bring_20 : decode cX0_bring 20 = .ok (.aload_n 0, 1) := by decide +kernel
theorem dX0_bring_21 : decode cX0_bring 21 = .ok (.getfield 50, 3) := by decide +kernel
theorem dX0_bring_24 : decode cX0_bring 24 = .ok (.iconst 0, 1) := by decide +kernel
theorem dX0_bring_25 : decode cX0_bring 25 = .ok (.iconst 5, 1) := by decide +kernel
theorem dX0_bring_26 : decode cX0_bring 26 = .ok (.invokestatic 66, 3) := by decide +kernel
theorem dX0_bring_29 : decode cX0_bring 29 = .ok (.aload_n 1, 1) := by decide +kernel
theorem dX0_bring_30 : decode cX0_bring 30 = .ok (.bipush 9, 2) := by decide +kernel
theorem dX0_bring_32 : decode cX0_bring 32 = .ok (.aload_n 0, 1) := by decide +kernel
theorem dX0_bring_33 : decode cX0_bring 33 = .ok (.getfield 53, 3) := by decide +kernel
theorem dX0_bring_36 : decode cX0_bring 36 = .ok (.iconst 0, 1) := by decide +kernel
theorem dX0_bring_37 : decode cX0_bring 37 = .ok (.iconst 5, 1) := by decide +kernel
theorem dX0_bring_38 : decode cX0_bring 38 = .ok (.invokestatic 66, 3) := by decide +kernel
theorem dX0_bring_41 : decode cX0_bring 41 = .ok (.aload_n 1, 1) := by decide +kernel
theorem dX0_bring_42 : decode cX0_bring 42 = .ok (.bipush 14, 2) := by decide +kernel
theorem dX0_bring_44 : decode cX0_bring 44 = .ok (.aload_n 0, 1) := by decide +kernel
theorem dX0_bring_45 : decode cX0_bring 45 = .ok (.getfield 56, 3) := by decide +kernel
theorem dX0_bring_48 : decode cX0_bring 48 = .ok (.iconst 0, 1) := by decide +kernel
theorem dX0_bring_49 : decode cX0_bring 49 = .ok (.iconst 5, 1) := by decide +kernel
theorem dX0_bring_50 : decode cX0_bring 50 = .ok (.invokestatic 66, 3) := by decide +kernel
theorem dX0_bring_53 : decode cX0_bring 53 = .ok (.return_, 1) := by decide +kernel
theorem dX0_can_0 : decode cX0_can 0 = .ok (.iload_n 2, 1) := by decide +kernel
theorem dX0_can_1 : decode cX0_can 1 = .ok (.bipush 7, 2) := by decide +kernel
theorem dX0_can_3 : decode cX0_can 3 = .ok (.if_icmp .eq 38, 3) := by decide +kernel
theorem dX0_can_6 : decode cX0_can 6 = .ok (.iload_n 2, 1) := by decide +kernel
theorem dX0_can_7 : decode cX0_can 7 = .ok (.aload_n 0, 1) := by decide +kernel
theorem dX0_can_8 : decode cX0_can 8 = .ok (.getfield 22, 3) := by decide +kernel
theorem dX0_can_11 : decode cX0_can 11 = .ok (.iload_n 1, 1) := by decide +kernel
theorem dX0_can_12 : decode cX0_can 12 = .ok (.iaload, 1) := by decide +kernel
theorem dX0_can_13 : decode cX0_can 13 = .ok (.if_icmp .lt 32, 3) := by decide +kernel
theorem dX0_can_16 : decode cX0_can 16 = .ok (.iload_n 2, 1) := by decide +kernel
theorem dX0_can_17 : decode cX0_can 17 = .ok (.aload_n 0, 1) := by decide +kernel
theorem dX0_can_18 : decode cX0_can 18 = .ok (.getfield 26, 3) := by decide +kernel
theorem dX0_can_21 : decode cX0_can 21 = .ok (.iload_n 1, 1) := by decide +kernel
theorem dX0_can_22 : decode cX0_can 22 = .ok (.iaload, 1) := by decide +kernel
theorem dX0_can_23 : decode cX0_can 23 = .ok (.if_icmp .gt 22, 3) := by decide +kernel
theorem dX0_can_26 : decode cX0_can 26 = .ok (.aload_n 0, 1) := by decide +kernel
theorem dX0_can_27 : decode cX0_can 27 = .ok (.getfield 47, 3) := by decide +kernel
theorem dX0_can_30 : decode cX0_can 30 = .ok (.iload_n 1, 1) := by decide +kernel
theorem dX0_can_31 : decode cX0_can 31 = .ok (.iaload, 1) := by decide +kernel
theorem dX0_can_32 : decode cX0_can 32 = .ok (.aload_n 0, 1) := by decide +kernel
theorem dX0_can_33 : decode cX0_can 33 = .ok (.getfield 29, 3) := by decide +kernel
theorem dX0_can_36 : decode cX0_can 36 = .ok (.iload_n 1, 1) := by decide +kernel
theorem dX0_can_37 : decode cX0_can 37 = .ok (.iaload, 1) := by decide +kernel
theorem dX0_can_38 : decode cX0_can 38 = .ok (.if_icmp .ge 7, 3) := by decide +kernel
theorem dX0_can_41 : decode cX0_can 41 = .ok (.iconst 1, 1) := by decide +kernel
theorem dX0_can_42 : decode cX0_can 42 = .ok (.goto 4, 3) := by decide +kernel
theorem dX0_can_45 : decode cX0_can 45 = .ok (.iconst 0, 1) := by decide +kernel
theorem dX0_can_46 : decode cX0_can 46 = .ok (.ireturn, 1) := by decide +kernel
theorem dX0_isSet_0 : decode cX0_isSet 0 = .ok (.aload_n 0, 1) := by decide +kernel
theorem dX0_isSet_1 : decode cX0_isSet 1 = .ok (.getfield 53, 3) := by decide +kernel
theorem dX0_isSet_4 : decode cX0_isSet 4 = .ok (.iload_n 1, 1) := by decide +kernel
theorem dX0_isSet_5 : decode cX0_isSet 5 = .ok (.iaload, 1) := by decide +kernel
theorem dX0_isSet_6 : decode cX0_isSet 6 = .ok (.aload_n 0, 1) := by decide +kernel
theorem dX0_isSet_7 : decode cX0_isSet 7 = .ok (.getfield 41, 3) := by decide +kernel
theorem dX0_isSet_10 : decode cX0_isSet 10 = .ok (.iload_n 1, 1) := by decide +kernel
theorem dX0_isSet_11 : decode cX0_isSet 11 = .ok (.iaload, 1) := by decide +kernel
theorem dX0_isSet_12 : decode cX0_isSet 12 = .ok (.if_icmp .lt 7, 3) := by decide +kernel
theorem dX0_isSet_15 : decode cX0_isSet 15 = .ok (.iconst 1, 1) := by decide +kernel
theorem dX0_isSet_16 : decode cX0_isSet 16 = .ok (.goto 4, 3) := by decide +kernel
theorem dX0_isSet_19 : decode cX0_isSet 19 = .ok (.iconst 0, 1) := by decide +kernel
theorem dX0_isSet_20 : decode cX0_isSet 20 = .ok (.ireturn, 1) := by decide +kernel
theorem dX0_setPans_0 : decode cX0_setPans 0 = .ok (.iconst 0, 1) := by decide +kernel
theorem dX0_setPans_1 : decode cX0_setPans 1 = .ok (.istore_n 1, 1) := by decide +kernel
theorem dX0_setPans_2 : decode cX0_setPans 2 = .ok (.iconst 0, 1) := by decide +kernel
theorem dX0_setPans_3 : decode cX0_setPans 3 = .ok (.istore_n 2, 1) := by decide +kernel
theorem dX0_setPans_4 : decode cX0_setPans 4 = .ok (.iload_n 2, 1) := by decide +kernel
theorem dX0_setPans_5 : decode cX0_setPans 5 = .ok (.aload_n 0, 1) := by decide +kernel
theorem dX0_setPans_6 : decode cX0_setPans 6 = .ok (.getfield 32, 3) := by decide +kernel
theorem dX0_setPans_9 : decode cX0_setPans 9 = .ok (.if_icmp .ge 27, 3) := by decide +kernel
theorem dX0_setPans_12 : decode cX0_setPans 12 = .ok (.iload_n 1, 1) := by decide +kernel
theorem dX0_setPans_13 : decode cX0_setPans 13 = .ok (.aload_n 0, 1) := by decide +kernel
theorem dX0_setPans_14 : decode cX0_setPans 14 = .ok (.iload_n 2, 1) := by decide +kernel
theorem dX0_setPans_15 : decode cX0_setPans 15 = .ok (.invokevirtual 72, 3) := by decide +kernel
theorem dX0_setPans_18 : decode cX0_setPans 18 = .ok (.ifCond .eq 9, 3) := by decide +kernel
theorem dX0_setPans_21 : decode cX0_setPans 21 = .ok (.iconst 1, 1) := by decide +kernel
theorem dX0_setPans_22 : decode cX0_setPans 22 = .ok (.iload_n 2, 1) := by decide +kernel
theorem dX0_setPans_23 : decode cX0_setPans 23 = .ok (.ishl, 1) := by decide +kernel
theorem dX0_setPans_24 : decode cX0_setPans 24 = .ok (.goto 4, 3) := by decide +kernel
theorem dX0_setPans_27 : decode cX0_setPans 27 = .ok (.iconst 0, 1) := by decide +kernel
theorem dX0_setPans_28 : decode cX0_setPans 28 = .ok (.ior, 1) := by decide +kernel
theorem dX0_setPans_29 : decode cX0_setPans 29 = .ok (.istore_n 1, 1) := by decide +kernel
theorem dX0_setPans_30 : decode cX0_setPans 30 = .ok (.iinc 2 1, 3) := by decide +kernel
theorem dX0_setPans_33 : decode cX0_setPans 33 = .ok (.goto (-29), 3) := by decide +kernel
theorem dX0_setPans_36 : decode cX0_setPans 36 = .ok (.iload_n 1, 1) := by decide +kernel
theorem dX0_setPans_37 : decode cX0_setPans 37 = .ok (.ireturn, 1) := by decide +kernel
theorem dX0_tryBar_0 : decode cX0_tryBar 0 = .ok (.iconst 0, 1) := by decide +kernel
theorem dX0_tryBar_1 : decode cX0_tryBar 1 = .ok (.istore_n 2, 1) := by decide +kernel
theorem dX0_tryBar_2 : decode cX0_tryBar 2 = .ok (.iload_n 2, 1) := by decide +kernel
theorem dX0_tryBar_3 : decode cX0_tryBar 3 = .ok (.aload_n 0, 1) := by decide +kernel
theorem dX0_tryBar_4 : decode cX0_tryBar 4 = .ok (.getfield 19, 3) := by decide +kernel
theorem dX0_tryBar_7 : decode cX0_tryBar 7 = .ok (.if_icmp .ge 25, 3) := by decide +kernel
theorem dX0_tryBar_10 : decode cX0_tryBar 10 = .ok (.aload_n 0, 1) := by decide +kernel
theorem dX0_tryBar_11 : decode cX0_tryBar 11 = .ok (.iload_n 2, 1) := by decide +kernel
theorem dX0_tryBar_12 : decode cX0_tryBar 12 = .ok (.aload_n 1, 1) := by decide +kernel
theorem dX0_tryBar_13 : decode cX0_tryBar 13 = .ok (.iload_n 2, 1) := by decide +kernel
theorem dX0_tryBar_14 : decode cX0_tryBar 14 = .ok (.iaload, 1) := by decide +kernel
theorem dX0_tryBar_15 : decode cX0_tryBar 15 = .ok (.invokevirtual 76, 3) := by decide +kernel
theorem dX0_tryBar_18 : decode cX0_tryBar 18 = .ok (.ifCond .ne 8, 3) := by decide +kernel
theorem dX0_tryBar_21 : decode cX0_tryBar 21 = .ok (.aload_n 1, 1) := by decide +kernel
theorem dX0_tryBar_22 : decode cX0_tryBar 22 = .ok (.iload_n 2, 1) := by decide +kernel
theorem dX0_tryBar_23 : decode cX0_tryBar 23 = .ok (.bipush 7, 2) := by decide +kernel
theorem dX0_tryBar_25 : decode cX0_tryBar 25 = .ok (.iastore, 1) := by decide +kernel
theorem dX0_tryBar_26 : decode cX0_tryBar 26 = .ok (.iinc 2 1, 3) := by decide +kernel
theorem dX0_tryBar_29 : decode cX0_tryBar 29 = .ok (.goto (-27), 3) := by decide +kernel
theorem dX0_tryBar_32 : decode cX0_tryBar 32 = .ok (.aload_n 0, 1) := by decide +kernel
theorem dX0_tryBar_33 : decode cX0_tryBar 33 = .ok (.aload_n 1, 1) := by decide +kernel
theorem dX0_tryBar_34 : decode cX0_tryBar 34 = .ok (.invokevirtual 80, 3) := by decide +kernel
theorem dX0_tryBar_37 : decode cX0_tryBar 37 = .ok (.return_, 1) := by decide +kernel
theorem dX0_singBar_0 : decode cX0_singBar 0 = .ok (.iconst 0, 1) := by decide +kernel
theorem dX0_singBar_1 : decode cX0_singBar 1 = .ok (.istore_n 2, 1) := by decide +kernel
theorem dX0_singBar_2 : decode cX0_singBar 2 = .ok (.iload_n 2, 1) := by decide +kernel
theorem dX0_singBar_3 : decode cX0_singBar 3 = .ok (.aload_n 0, 1) := by decide +kernel
theorem dX0_singBar_4 : decode cX0_singBar 4 = .ok (.getfield 32, 3) := by decide +kernel
theorem dX0_singBar_7 : decode cX0_singBar 7 = .ok (.if_icmp .ge 23, 3) := by decide +kernel
theorem dX0_singBar_10 : decode cX0_singBar 10 = .ok (.aload_n 0, 1) := by decide +kernel
theorem dX0_singBar_11 : decode cX0_singBar 11 = .ok (.iload_n 2, 1) := by decide +kernel
theorem dX0_singBar_12 : decode cX0_singBar 12 = .ok (.invokevirtual 72, 3) := by decide +kernel
theorem dX0_singBar_15 : decode cX0_singBar 15 = .ok (.ifCond .ne 9, 3) := by decide +kernel
theorem dX0_singBar_18 : decode cX0_singBar 18 = .ok (.aload_n 0, 1) := by decide +kernel
theorem dX0_singBar_19 : decode cX0_singBar 19 = .ok (.iload_n 2, 1) := by decide +kernel
theorem dX0_singBar_20 : decode cX0_singBar 20 = .ok (.aload_n 1, 1) := by decide +kernel
theorem dX0_singBar_21 : decode cX0_singBar 21 = .ok (.invokevirtual 84, 3) := by decide +kernel
theorem dX0_singBar_24 : decode cX0_singBar 24 = .ok (.iinc 2 1, 3) := by decide +kernel
theorem dX0_singBar_27 : decode cX0_singBar 27 = .ok (.goto (-25), 3) := by decide +kernel
theorem dX0_singBar_30 : decode cX0_singBar 30 = .ok (.iconst 0, 1) := by decide +kernel
theorem dX0_singBar_31 : decode cX0_singBar 31 = .ok (.istore_n 2, 1) := by decide +kernel
theorem dX0_singBar_32 : decode cX0_singBar 32 = .ok (.iload_n 2, 1) := by decide +kernel
theorem dX0_singBar_33 : decode cX0_singBar 33 = .ok (.aload_n 0, 1) := by decide +kernel
theorem dX0_singBar_34 : decode cX0_singBar 34 = .ok (.getfield 19, 3) := by decide +kernel
theorem dX0_singBar_37 : decode cX0_singBar 37 = .ok (.if_icmp .ge 35, 3) := by decide +kernel
theorem dX0_singBar_40 : decode cX0_singBar 40 = .ok (.aload_n 0, 1) := by decide +kernel
theorem dX0_singBar_41 : decode cX0_singBar 41 = .ok (.getfield 47, 3) := by decide +kernel
theorem dX0_singBar_44 : decode cX0_singBar 44 = .ok (.iload_n 2, 1) := by decide +kernel
theorem dX0_singBar_45 : decode cX0_singBar 45 = .ok (.aload_n 1, 1) := by decide +kernel
theorem dX0_singBar_46 : decode cX0_singBar 46 = .ok (.iload_n 2, 1) := by decide +kernel
theorem dX0_singBar_47 : decode cX0_singBar 47 = .ok (.iaload, 1) := by decide +kernel
theorem dX0_singBar_48 : decode cX0_singBar 48 = .ok (.bipush 7, 2) := by decide +kernel
theorem dX0_singBar_50 : decode cX0_singBar 50 = .ok (.if_icmp .ne 7, 3) := by decide +kernel
theorem dX0_singBar_53 : decode cX0_singBar 53 = .ok (.iconst 0, 1) := by decide +kernel
theorem dX0_singBar_54 : decode cX0_singBar 54 = .ok (.goto 11, 3) := by decide +kernel
theorem dX0_singBar_57 : decode cX0_singBar 57 = .ok (.aload_n 0, 1) := by decide +kernel
theorem dX0_singBar_58 : decode cX0_singBar 58 = .ok (.getfield 47, 3) := by decide +kernel
theorem dX0_singBar_61 : decode cX0_singBar 61 = .ok (.iload_n 2, 1) := by decide +kernel
theorem dX0_singBar_62 : decode cX0_singBar 62 = .ok (.iaload, 1) := by decide +kernel
theorem dX0_singBar_63 : decode cX0_singBar 63 = .ok (.iconst 1, 1) := by decide +kernel
theorem dX0_singBar_64 : decode cX0_singBar 64 = .ok (.iadd, 1) := by decide +kernel
theorem dX0_singBar_65 : decode cX0_singBar 65 = .ok (.iastore, 1) := by decide +kernel
theorem dX0_singBar_66 : decode cX0_singBar 66 = .ok (.iinc 2 1, 3) := by decide +kernel
theorem dX0_singBar_69 : decode cX0_singBar 69 = .ok (.goto (-37), 3) := by decide +kernel
theorem dX0_singBar_72 : decode cX0_singBar 72 = .ok (.aload_n 0, 1) := by decide +kernel
theorem dX0_singBar_73 : decode cX0_singBar 73 = .ok (.dup, 1) := by decide +kernel
theorem dX0_singBar_74 : decode cX0_singBar 74 = .ok (.getfield 44, 3) := by decide +kernel
theorem dX0_singBar_77 : decode cX0_singBar 77 = .ok (.iconst 1, 1) := by decide +kernel
theorem dX0_singBar_78 : decode cX0_singBar 78 = .ok (.iadd, 1) := by decide +kernel
theorem dX0_singBar_79 : decode cX0_singBar 79 = .ok (.putfield 44, 3) := by decide +kernel
theorem dX0_singBar_82 : decode cX0_singBar 82 = .ok (.return_, 1) := by decide +kernel
theorem dX0_hear_0 : decode cX0_hear 0 = .ok (.iconst 0, 1) := by decide +kernel
theorem dX0_hear_1 : decode cX0_hear 1 = .ok (.istore_n 3, 1) := by decide +kernel
theorem dX0_hear_2 : decode cX0_hear 2 = .ok (.iconst 0, 1) := by decide +kernel
theorem dX0_hear_3 : decode cX0_hear 3 = .ok (.istore 4, 2) := by decide +kernel
theorem dX0_hear_5 : decode cX0_hear 5 = .ok (.iload 4, 2) := by decide +kernel
theorem dX0_hear_7 : decode cX0_hear 7 = .ok (.aload_n 0, 1) := by decide +kernel
theorem dX0_hear_8 : decode cX0_hear 8 = .ok (.getfield 19, 3) := by decide +kernel
theorem dX0_hear_11 : decode cX0_hear 11 = .ok (.if_icmp .ge 42, 3) := by decide +kernel
theorem dX0_hear_14 : decode cX0_hear 14 = .ok (.aload_n 2, 1) := by decide +kernel
theorem dX0_hear_15 : decode cX0_hear 15 = .ok (.iload 4, 2) := by decide +kernel
theorem dX0_hear_17 : decode cX0_hear 17 = .ok (.iaload, 1) := by decide +kernel
theorem dX0_hear_18 : decode cX0_hear 18 = .ok (.bipush 7, 2) := by decide +kernel
theorem dX0_hear_20 : decode cX0_hear 20 = .ok (.if_icmp .eq 27, 3) := by decide +kernel
theorem dX0_hear_23 : decode cX0_hear 23 = .ok (.aload_n 0, 1) := by decide +kernel
theorem dX0_hear_24 : decode cX0_hear 24 = .ok (.getfield 50, 3) := by decide +kernel
theorem dX0_hear_27 : decode cX0_hear 27 = .ok (.iload_n 1, 1) := by decide +kernel
theorem dX0_hear_28 : decode cX0_hear 28 = .ok (.iaload, 1) := by decide +kernel
theorem dX0_hear_29 : decode cX0_hear 29 = .ok (.iload 4, 2) := by decide +kernel
theorem dX0_hear_31 : decode cX0_hear 31 = .ok (.ishr, 1) := by decide +kernel
theorem dX0_hear_32 : decode cX0_hear 32 = .ok (.iconst 1, 1) := by decide +kernel
theorem dX0_hear_33 : decode cX0_hear 33 = .ok (.iand, 1) := by decide +kernel
theorem dX0_hear_34 : decode cX0_hear 34 = .ok (.iconst 1, 1) := by decide +kernel
theorem dX0_hear_35 : decode cX0_hear 35 = .ok (.if_icmp .ne 12, 3) := by decide +kernel
theorem dX0_hear_38 : decode cX0_hear 38 = .ok (.iload_n 3, 1) := by decide +kernel
theorem dX0_hear_39 : decode cX0_hear 39 = .ok (.iconst 1, 1) := by decide +kernel
theorem dX0_hear_40 : decode cX0_hear 40 = .ok (.aload_n 2, 1) := by decide +kernel
theorem dX0_hear_41 : decode cX0_hear 41 = .ok (.iload 4, 2) := by decide +kernel
theorem dX0_hear_43 : decode cX0_hear 43 = .ok (.iaload, 1) := by decide +kernel
theorem dX0_hear_44 : decode cX0_hear 44 = .ok (.ishl, 1) := by decide +kernel
theorem dX0_hear_45 : decode cX0_hear 45 = .ok (.ior, 1) := by decide +kernel
theorem dX0_hear_46 : decode cX0_hear 46 = .ok (.istore_n 3, 1) := by decide +kernel
theorem dX0_hear_47 : decode cX0_hear 47 = .ok (.iinc 4 1, 3) := by decide +kernel
theorem dX0_hear_50 : decode cX0_hear 50 = .ok (.goto (-45), 3) := by decide +kernel
theorem dX0_hear_53 : decode cX0_hear 53 = .ok (.iload_n 3, 1) := by decide +kernel
theorem dX0_hear_54 : decode cX0_hear 54 = .ok (.ifCond .ne 8, 3) := by decide +kernel
theorem dX0_hear_57 : decode cX0_hear 57 = .ok (.ldc 65, 2) := by decide +kernel
theorem dX0_hear_59 : decode cX0_hear 59 = .ok (.goto 7, 3) := by decide +kernel
theorem dX0_hear_62 : decode cX0_hear 62 = .ok (.iload_n 3, 1) := by decide +kernel
theorem dX0_hear_63 : decode cX0_hear 63 = .ok (.invokestatic 88, 3) := by decide +kernel
theorem dX0_hear_66 : decode cX0_hear 66 = .ok (.istore 4, 2) := by decide +kernel
theorem dX0_hear_68 : decode cX0_hear 68 = .ok (.aload_n 0, 1) := by decide +kernel
theorem dX0_hear_69 : decode cX0_hear 69 = .ok (.getfield 53, 3) := by decide +kernel
theorem dX0_hear_72 : decode cX0_hear 72 = .ok (.iload_n 1, 1) := by decide +kernel
theorem dX0_hear_73 : decode cX0_hear 73 = .ok (.aload_n 0, 1) := by decide +kernel
theorem dX0_hear_74 : decode cX0_hear 74 = .ok (.iload_n 1, 1) := by decide +kernel
theorem dX0_hear_75 : decode cX0_hear 75 = .ok (.aload_n 0, 1) := by decide +kernel
theorem dX0_hear_76 : decode cX0_hear 76 = .ok (.iload_n 1, 1) := by decide +kernel
theorem dX0_hear_77 : decode cX0_hear 77 = .ok (.iload_n 3, 1) := by decide +kernel
theorem dX0_hear_78 : decode cX0_hear 78 = .ok (.iload 4, 2) := by decide +kernel
theorem dX0_hear_80 : decode cX0_hear 80 = .ok (.invokevirtual 94, 3) := by decide +kernel
theorem dX0_hear_83 : decode cX0_hear 83 = .ok (.invokevirtual 98, 3) := by decide +kernel
theorem dX0_hear_86 : decode cX0_hear 86 = .ok (.iastore, 1) := by decide +kernel
theorem dX0_hear_87 : decode cX0_hear 87 = .ok (.aload_n 0, 1) := by decide +kernel
theorem dX0_hear_88 : decode cX0_hear 88 = .ok (.getfield 56, 3) := by decide +kernel
theorem dX0_hear_91 : decode cX0_hear 91 = .ok (.iload_n 1, 1) := by decide +kernel
theorem dX0_hear_92 : decode cX0_hear 92 = .ok (.aload_n 0, 1) := by decide +kernel
theorem dX0_hear_93 : decode cX0_hear 93 = .ok (.iload_n 1, 1) := by decide +kernel
theorem dX0_hear_94 : decode cX0_hear 94 = .ok (.invokevirtual 72, 3) := by decide +kernel
theorem dX0_hear_97 : decode cX0_hear 97 = .ok (.ifCond .eq 8, 3) := by decide +kernel
theorem dX0_hear_100 : decode cX0_hear 100 = .ok (.ldc 65, 2) := by decide +kernel
theorem dX0_hear_102 : decode cX0_hear 102 = .ok (.goto 5, 3) := by decide +kernel
theorem dX0_hear_105 : decode cX0_hear 105 = .ok (.iload 4, 2) := by decide +kernel
theorem dX0_hear_107 : decode cX0_hear 107 = .ok (.iastore, 1) := by decide +kernel
theorem dX0_hear_108 : decode cX0_hear 108 = .ok (.return_, 1) := by decide +kernel
theorem dX0_judge_0 : decode cX0_judge 0 = .ok (.iload_n 2, 1) := by decide +kernel
theorem dX0_judge_1 : decode cX0_judge 1 = .ok (.ifCond .ne 5, 3) := by decide +kernel
theorem dX0_judge_4 : decode cX0_judge 4 = .ok (.iconst 0, 1) := by decide +kernel
theorem dX0_judge_5 : decode cX0_judge 5 = .ok (.ireturn, 1) := by decide +kernel
theorem dX0_judge_6 : decode cX0_judge 6 = .ok (.iload_n 2, 1) := by decide +kernel
theorem dX0_judge_7 : decode cX0_judge 7 = .ok (.aload_n 0, 1) := by decide +kernel
theorem dX0_judge_8 : decode cX0_judge 8 = .ok (.getfield 38, 3) := by decide +kernel
theorem dX0_judge_11 : decode cX0_judge 11 = .ok (.iload_n 1, 1) := by decide +kernel
theorem dX0_judge_12 : decode cX0_judge 12 = .ok (.iaload, 1) := by decide +kernel
theorem dX0_judge_13 : decode cX0_judge 13 = .ok (.iconst (-1), 1) := by decide +kernel
theorem dX0_judge_14 : decode cX0_judge 14 = .ok (.ixor, 1) := by decide +kernel
theorem dX0_judge_15 : decode cX0_judge 15 = .ok (.iand, 1) := by decide +kernel
theorem dX0_judge_16 : decode cX0_judge 16 = .ok (.ifCond .eq 5, 3) := by decide +kernel
theorem dX0_judge_19 : decode cX0_judge 19 = .ok (.iconst 2, 1) := by decide +kernel
theorem dX0_judge_20 : decode cX0_judge 20 = .ok (.ireturn, 1) := by decide +kernel
theorem dX0_judge_21 : decode cX0_judge 21 = .ok (.iload_n 3, 1) := by decide +kernel
theorem dX0_judge_22 : decode cX0_judge 22 = .ok (.aload_n 0, 1) := by decide +kernel
theorem dX0_judge_23 : decode cX0_judge 23 = .ok (.getfield 56, 3) := by decide +kernel
theorem dX0_judge_26 : decode cX0_judge 26 = .ok (.iload_n 1, 1) := by decide +kernel
theorem dX0_judge_27 : decode cX0_judge 27 = .ok (.iaload, 1) := by decide +kernel
theorem dX0_judge_28 : decode cX0_judge 28 = .ok (.isub, 1) := by decide +kernel
theorem dX0_judge_29 : decode cX0_judge 29 = .ok (.invokestatic 102, 3) := by decide +kernel
theorem dX0_judge_32 : decode cX0_judge 32 = .ok (.iconst 2, 1) := by decide +kernel
theorem dX0_judge_33 : decode cX0_judge 33 = .ok (.if_icmp .ne 7, 3) := by decide +kernel
theorem dX0_judge_36 : decode cX0_judge 36 = .ok (.iconst 1, 1) := by decide +kernel
theorem dX0_judge_37 : decode cX0_judge 37 = .ok (.goto 4, 3) := by decide +kernel
theorem dX0_judge_40 : decode cX0_judge 40 = .ok (.iconst 0, 1) := by decide +kernel
theorem dX0_judge_41 : decode cX0_judge 41 = .ok (.istore 4, 2) := by decide +kernel
theorem dX0_judge_43 : decode cX0_judge 43 = .ok (.aload_n 0, 1) := by decide +kernel
theorem dX0_judge_44 : decode cX0_judge 44 = .ok (.getfield 35, 3) := by decide +kernel
theorem dX0_judge_47 : decode cX0_judge 47 = .ok (.iload_n 1, 1) := by decide +kernel
theorem dX0_judge_48 : decode cX0_judge 48 = .ok (.iaload, 1) := by decide +kernel
theorem dX0_judge_49 : decode cX0_judge 49 = .ok (.iconst 3, 1) := by decide +kernel
theorem dX0_judge_50 : decode cX0_judge 50 = .ok (.if_icmp .ne 8, 3) := by decide +kernel
theorem dX0_judge_53 : decode cX0_judge 53 = .ok (.iload 4, 2) := by decide +kernel
theorem dX0_judge_55 : decode cX0_judge 55 = .ok (.ifCond .eq 7, 3) := by decide +kernel
theorem dX0_judge_58 : decode cX0_judge 58 = .ok (.iconst 1, 1) := by decide +kernel
theorem dX0_judge_59 : decode cX0_judge 59 = .ok (.goto 4, 3) := by decide +kernel
theorem dX0_judge_62 : decode cX0_judge 62 = .ok (.iconst 2, 1) := by decide +kernel
theorem dX0_judge_63 : decode cX0_judge 63 = .ok (.ireturn, 1) := by decide +kernel
theorem dX0_thickBy_0 : decode cX0_thickBy 0 = .ok (.aload_n 0, 1) := by decide +kernel
theorem dX0_thickBy_1 : decode cX0_thickBy 1 = .ok (.getfield 35, 3) := by decide +kernel
theorem dX0_thickBy_4 : decode cX0_thickBy 4 = .ok (.iload_n 1, 1) := by decide +kernel
theorem dX0_thickBy_5 : decode cX0_thickBy 5 = .ok (.iaload, 1) := by decide +kernel
theorem dX0_thickBy_6 : decode cX0_thickBy 6 = .ok (.iconst 4, 1) := by decide +kernel
theorem dX0_thickBy_7 : decode cX0_thickBy 7 = .ok (.if_icmp .ne 10, 3) := by decide +kernel
theorem dX0_thickBy_10 : decode cX0_thickBy 10 = .ok (.aload_n 0, 1) := by decide +kernel
theorem dX0_thickBy_11 : decode cX0_thickBy 11 = .ok (.getfield 53, 3) := by decide +kernel
theorem dX0_thickBy_14 : decode cX0_thickBy 14 = .ok (.iload_n 1, 1) := by decide +kernel
theorem dX0_thickBy_15 : decode cX0_thickBy 15 = .ok (.iaload, 1) := by decide +kernel
theorem dX0_thickBy_16 : decode cX0_thickBy 16 = .ok (.ireturn, 1) := by decide +kernel
theorem dX0_thickBy_17 : decode cX0_thickBy 17 = .ok (.aload_n 0, 1) := by decide +kernel
theorem dX0_thickBy_18 : decode cX0_thickBy 18 = .ok (.getfield 35, 3) := by decide +kernel
theorem dX0_thickBy_21 : decode cX0_thickBy 21 = .ok (.iload_n 1, 1) := by decide +kernel
theorem dX0_thickBy_22 : decode cX0_thickBy 22 = .ok (.iaload, 1) := by decide +kernel
theorem dX0_thickBy_23 : decode cX0_thickBy 23 = .ok (.iconst 5, 1) := by decide +kernel
theorem dX0_thickBy_24 : decode cX0_thickBy 24 = .ok (.if_icmp .ne 20, 3) := by decide +kernel
theorem dX0_thickBy_27 : decode cX0_thickBy 27 = .ok (.iload_n 2, 1) := by decide +kernel
theorem dX0_thickBy_28 : decode cX0_thickBy 28 = .ok (.ifCond .ne 14, 3) := by decide +kernel
theorem dX0_thickBy_31 : decode cX0_thickBy 31 = .ok (.aload_n 0, 1) := by decide +kernel
theorem dX0_thickBy_32 : decode cX0_thickBy 32 = .ok (.getfield 53, 3) := by decide +kernel
theorem dX0_thickBy_35 : decode cX0_thickBy 35 = .ok (.iload_n 1, 1) := by decide +kernel
theorem dX0_thickBy_36 : decode cX0_thickBy 36 = .ok (.iaload, 1) := by decide +kernel
theorem dX0_thickBy_37 : decode cX0_thickBy 37 = .ok (.iconst 1, 1) := by decide +kernel
theorem dX0_thickBy_38 : decode cX0_thickBy 38 = .ok (.iadd, 1) := by decide +kernel
theorem dX0_thickBy_39 : decode cX0_thickBy 39 = .ok (.goto 4, 3) := by decide +kernel
theorem dX0_thickBy_42 : decode cX0_thickBy 42 = .ok (.iconst 0, 1) := by decide +kernel
theorem dX0_thickBy_43 : decode cX0_thickBy 43 = .ok (.ireturn, 1) := by decide +kernel
theorem dX0_thickBy_44 : decode cX0_thickBy 44 = .ok (.iload_n 2, 1) := by decide +kernel
theorem dX0_thickBy_45 : decode cX0_thickBy 45 = .ok (.iconst 2, 1) := by decide +kernel
theorem dX0_thickBy_46 : decode cX0_thickBy 46 = .ok (.if_icmp .ne 33, 3) := by decide +kernel
theorem dX0_thickBy_49 : decode cX0_thickBy 49 = .ok (.aload_n 0, 1) := by decide +kernel
theorem dX0_thickBy_50 : decode cX0_thickBy 50 = .ok (.getfield 35, 3) := by decide +kernel
theorem dX0_thickBy_53 : decode cX0_thickBy 53 = .ok (.iload_n 1, 1) := by decide +kernel
theorem dX0_thickBy_54 : decode cX0_thickBy 54 = .ok (.iaload, 1) := by decide +kernel
theorem dX0_thickBy_55 : decode cX0_thickBy 55 = .ok (.iconst 2, 1) := by decide +kernel
theorem dX0_thickBy_56 : decode cX0_thickBy 56 = .ok (.if_icmp .ne 7, 3) := by decide +kernel
theorem dX0_thickBy_59 : decode cX0_thickBy 59 = .ok (.iconst 0, 1) := by decide +kernel
theorem dX0_thickBy_60 : decode cX0_thickBy 60 = .ok (.goto 18, 3) := by decide +kernel
theorem dX0_thickBy_63 : decode cX0_thickBy 63 = .ok (.aload_n 0, 1) := by decide +kernel
theorem dX0_thickBy_64 : decode cX0_thickBy 64 = .ok (.getfield 53, 3) := by decide +kernel
theorem dX0_thickBy_67 : decode cX0_thickBy 67 = .ok (.iload_n 1, 1) := by decide +kernel
theorem dX0_thickBy_68 : decode cX0_thickBy 68 = .ok (.iaload, 1) := by decide +kernel
theorem dX0_thickBy_69 : decode cX0_thickBy 69 = .ok (.aload_n 0, 1) := by decide +kernel
theorem dX0_thickBy_70 : decode cX0_thickBy 70 = .ok (.getfield 15, 3) := by decide +kernel
theorem dX0_thickBy_73 : decode cX0_thickBy 73 = .ok (.isub, 1) := by decide +kernel
theorem dX0_thickBy_74 : decode cX0_thickBy 74 = .ok (.iconst 0, 1) := by decide +kernel
theorem dX0_thickBy_75 : decode cX0_thickBy 75 = .ok (.invokestatic 107, 3) := by decide +kernel
theorem dX0_thickBy_78 : decode cX0_thickBy 78 = .ok (.ireturn, 1) := by decide +kernel
theorem dX0_thickBy_79 : decode cX0_thickBy 79 = .ok (.iload_n 2, 1) := by decide +kernel
theorem dX0_thickBy_80 : decode cX0_thickBy 80 = .ok (.iconst 1, 1) := by decide +kernel
theorem dX0_thickBy_81 : decode cX0_thickBy 81 = .ok (.if_icmp .ne 14, 3) := by decide +kernel
theorem dX0_thickBy_84 : decode cX0_thickBy 84 = .ok (.aload_n 0, 1) := by decide +kernel
theorem dX0_thickBy_85 : decode cX0_thickBy 85 = .ok (.getfield 53, 3) := by decide +kernel
theorem dX0_thickBy_88 : decode cX0_thickBy 88 = .ok (.iload_n 1, 1) := by decide +kernel
theorem dX0_thickBy_89 : decode cX0_thickBy 89 = .ok (.iaload, 1) := by decide +kernel
theorem dX0_thickBy_90 : decode cX0_thickBy 90 = .ok (.iconst 1, 1) := by decide +kernel
theorem dX0_thickBy_91 : decode cX0_thickBy 91 = .ok (.iadd, 1) := by decide +kernel
theorem dX0_thickBy_92 : decode cX0_thickBy 92 = .ok (.goto 9, 3) := by decide +kernel
theorem dX0_thickBy_95 : decode cX0_thickBy 95 = .ok (.aload_n 0, 1) := by decide +kernel
theorem dX0_thickBy_96 : decode cX0_thickBy 96 = .ok (.getfield 53, 3) := by decide +kernel
theorem dX0_thickBy_99 : decode cX0_thickBy 99 = .ok (.iload_n 1, 1) := by decide +kernel
theorem dX0_thickBy_100 : decode cX0_thickBy 100 = .ok (.iaload, 1) := by decide +kernel
theorem dX0_thickBy_101 : decode cX0_thickBy 101 = .ok (.ireturn, 1) := by decide +kernel
theorem dX1_init_0 : decode cX1_init 0 = .ok (.aload_n 0, 1) := by decide +kernel
theorem dX1_init_1 : decode cX1_init 1 = .ok (.invokespecial 3, 3) := by decide +kernel
theorem dX1_init_4 : decode cX1_init 4 = .ok (.aload_n 0, 1) := by decide +kernel
theorem dX1_init_5 : decode cX1_init 5 = .ok (.iconst 0, 1) := by decide +kernel
theorem dX1_init_6 : decode cX1_init 6 = .ok (.putfield 9, 3) := by decide +kernel
theorem dX1_init_9 : decode cX1_init 9 = .ok (.aload_n 0, 1) := by decide +kernel
theorem dX1_init_10 : decode cX1_init 10 = .ok (.iconst 0, 1) := by decide +kernel
theorem dX1_init_11 : decode cX1_init 11 = .ok (.putfield 15, 3) := by decide +kernel
theorem dX1_init_14 : decode cX1_init 14 = .ok (.aload_n 0, 1) := by decide +kernel
theorem dX1_init_15 : decode cX1_init 15 = .ok (.iconst 0, 1) := by decide +kernel
theorem dX1_init_16 : decode cX1_init 16 = .ok (.putfield 19, 3) := by decide +kernel
theorem dX1_init_19 : decode cX1_init 19 = .ok (.aload_n 0, 1) := by decide +kernel
theorem dX1_init_20 : decode cX1_init 20 = .ok (.bipush 40, 2) := by decide +kernel
theorem dX1_init_22 : decode cX1_init 22 = .ok (.newarray .int, 2) := by decide +kernel
theorem dX1_init_24 : decode cX1_init 24 = .ok (.putfield 22, 3) := by decide +kernel
theorem dX1_init_27 : decode cX1_init 27 = .ok (.return_, 1) := by decide +kernel
theorem dX1_begin_0 : decode cX1_begin 0 = .ok (.aload_n 0, 1) := by decide +kernel
theorem dX1_begin_1 : decode cX1_begin 1 = .ok (.iconst 1, 1) := by decide +kernel
theorem dX1_begin_2 : decode cX1_begin 2 = .ok (.putfield 9, 3) := by decide +kernel
theorem dX1_begin_5 : decode cX1_begin 5 = .ok (.aload_n 0, 1) := by decide +kernel
theorem dX1_begin_6 : decode cX1_begin 6 = .ok (.iload_n 1, 1) := by decide +kernel
theorem dX1_begin_7 : decode cX1_begin 7 = .ok (.putfield 15, 3) := by decide +kernel
theorem dX1_begin_10 : decode cX1_begin 10 = .ok (.aload_n 0, 1) := by decide +kernel
theorem dX1_begin_11 : decode cX1_begin 11 = .ok (.iload_n 2, 1) := by decide +kernel
theorem dX1_begin_12 : decode cX1_begin 12 = .ok (.putfield 19, 3) := by decide +kernel
theorem dX1_begin_15 : decode cX1_begin 15 = .ok (.aload_n 0, 1) := by decide +kernel
theorem dX1_begin_16 : decode cX1_begin 16 = .ok (.getfield 22, 3) := by decide +kernel
theorem dX1_begin_19 : decode cX1_begin 19 = .ok (.iconst 0, 1) := by decide +kernel
theorem dX1_begin_20 : decode cX1_begin 20 = .ok (.invokestatic 26, 3) := by decide +kernel
theorem dX1_begin_23 : decode cX1_begin 23 = .ok (.return_, 1) := by decide +kernel
theorem dX1_reaches_0 : decode cX1_reaches 0 = .ok (.iload_n 1, 1) := by decide +kernel
theorem dX1_reaches_1 : decode cX1_reaches 1 = .ok (.ifCond .lt 21, 3) := by decide +kernel
theorem dX1_reaches_4 : decode cX1_reaches 4 = .ok (.iload_n 2, 1) := by decide +kernel
theorem dX1_reaches_5 : decode cX1_reaches 5 = .ok (.ifCond .lt 17, 3) := by decide +kernel
theorem dX1_reaches_8 : decode cX1_reaches 8 = .ok (.iload_n 1, 1) := by decide +kernel
theorem dX1_reaches_9 : decode cX1_reaches 9 = .ok (.aload_n 0, 1) := by decide +kernel
theorem dX1_reaches_10 : decode cX1_reaches 10 = .ok (.getfield 19, 3) := by decide +kernel
theorem dX1_reaches_13 : decode cX1_reaches 13 = .ok (.iload_n 2, 1) := by decide +kernel
theorem dX1_reaches_14 : decode cX1_reaches 14 = .ok (.isub, 1) := by decide +kernel
theorem dX1_reaches_15 : decode cX1_reaches 15 = .ok (.if_icmp .gt 7, 3) := by decide +kernel
theorem dX1_reaches_18 : decode cX1_reaches 18 = .ok (.iconst 1, 1) := by decide +kernel
theorem dX1_reaches_19 : decode cX1_reaches 19 = .ok (.goto 4, 3) := by decide +kernel
theorem dX1_reaches_22 : decode cX1_reaches 22 = .ok (.iconst 0, 1) := by decide +kernel
theorem dX1_reaches_23 : decode cX1_reaches 23 = .ok (.ireturn, 1) := by decide +kernel
theorem dX1_cut_0 : decode cX1_cut 0 = .ok (.aload_n 0, 1) := by decide +kernel
theorem dX1_cut_1 : decode cX1_cut 1 = .ok (.getfield 15, 3) := by decide +kernel
theorem dX1_cut_4 : decode cX1_cut 4 = .ok (.ifCond .ne 6, 3) := by decide +kernel
theorem dX1_cut_7 : decode cX1_cut 7 = .ok (.iload_n 1, 1) := by decide +kernel
theorem dX1_cut_8 : decode cX1_cut 8 = .ok (.i2b, 1) := by decide +kernel
theorem dX1_cut_9 : decode cX1_cut 9 = .ok (.ireturn, 1) := by decide +kernel
theorem dX1_cut_10 : decode cX1_cut 10 = .ok (.aload_n 0, 1) := by decide +kernel
theorem dX1_cut_11 : decode cX1_cut 11 = .ok (.getfield 15, 3) := by decide +kernel
theorem dX1_cut_14 : decode cX1_cut 14 = .ok (.iconst 1, 1) := by decide +kernel
theorem dX1_cut_15 : decode cX1_cut 15 = .ok (.if_icmp .ne 8, 3) := by decide +kernel
theorem dX1_cut_18 : decode cX1_cut 18 = .ok (.iload_n 1, 1) := by decide +kernel
theorem dX1_cut_19 : decode cX1_cut 19 = .ok (.i2s, 1) := by decide +kernel
theorem dX1_cut_20 : decode cX1_cut 20 = .ok (.goto 4, 3) := by decide +kernel
theorem dX1_cut_23 : decode cX1_cut 23 = .ok (.iload_n 1, 1) := by decide +kernel
theorem dX1_cut_24 : decode cX1_cut 24 = .ok (.ireturn, 1) := by decide +kernel
theorem dX2_init_0 : decode cX2_init 0 = .ok (.aload_n 0, 1) := by decide +kernel
theorem dX2_init_1 : decode cX2_init 1 = .ok (.invokespecial 3, 3) := by decide +kernel
theorem dX2_init_4 : decode cX2_init 4 = .ok (.aload_n 0, 1) := by decide +kernel
theorem dX2_init_5 : decode cX2_init 5 = .ok (.bipush 120, 2) := by decide +kernel
theorem dX2_init_7 : decode cX2_init 7 = .ok (.newarray .int, 2) := by decide +kernel
theorem dX2_init_9 : decode cX2_init 9 = .ok (.putfield 9, 3) := by decide +kernel
theorem dX2_init_12 : decode cX2_init 12 = .ok (.aload_n 0, 1) := by decide +kernel
theorem dX2_init_13 : decode cX2_init 13 = .ok (.iconst 0, 1) := by decide +kernel
theorem dX2_init_14 : decode cX2_init 14 = .ok (.putfield 15, 3) := by decide +kernel
theorem dX2_init_17 : decode cX2_init 17 = .ok (.aload_n 0, 1) := by decide +kernel
theorem dX2_init_18 : decode cX2_init 18 = .ok (.iconst 0, 1) := by decide +kernel
theorem dX2_init_19 : decode cX2_init 19 = .ok (.putfield 19, 3) := by decide +kernel
theorem dX2_init_22 : decode cX2_init 22 = .ok (.aload_n 0, 1) := by decide +kernel
theorem dX2_init_23 : decode cX2_init 23 = .ok (.iconst 0, 1) := by decide +kernel
theorem dX2_init_24 : decode cX2_init 24 = .ok (.putfield 22, 3) := by decide +kernel
theorem dX2_init_27 : decode cX2_init 27 = .ok (.aload_n 0, 1) := by decide +kernel
theorem dX2_init_28 : decode cX2_init 28 = .ok (.iconst (-1), 1) := by decide +kernel
theorem dX2_init_29 : decode cX2_init 29 = .ok (.putfield 25, 3) := by decide +kernel
theorem dX2_init_32 : decode cX2_init 32 = .ok (.aload_n 0, 1) := by decide +kernel
theorem dX2_init_33 : decode cX2_init 33 = .ok (.iconst 0, 1) := by decide +kernel
theorem dX2_init_34 : decode cX2_init 34 = .ok (.putfield 28, 3) := by decide +kernel
theorem dX2_init_37 : decode cX2_init 37 = .ok (.aload_n 0, 1) := by decide +kernel
theorem dX2_init_38 : decode cX2_init 38 = .ok (.iconst 0, 1) := by decide +kernel
theorem dX2_init_39 : decode cX2_init 39 = .ok (.putfield 31, 3) := by decide +kernel
theorem dX2_init_42 : decode cX2_init 42 = .ok (.return_, 1) := by decide +kernel
theorem dX2_readInto_0 : decode cX2_readInto 0 = .ok (.aload_n 1, 1) := by decide +kernel
theorem dX2_readInto_1 : decode cX2_readInto 1 = .ok (.invokevirtual 34, 3) := by decide +kernel
theorem dX2_readInto_4 : decode cX2_readInto 4 = .ok (.aload_n 0, 1) := by decide +kernel
theorem dX2_readInto_5 : decode cX2_readInto 5 = .ok (.iconst 0, 1) := by decide +kernel
theorem dX2_readInto_6 : decode cX2_readInto 6 = .ok (.putfield 31, 3) := by decide +kernel
theorem dX2_readInto_9 : decode cX2_readInto 9 = .ok (.aload_n 0, 1) := by decide +kernel
theorem dX2_readInto_10 : decode cX2_readInto 10 = .ok (.iconst 0, 1) := by decide +kernel
theorem dX2_readInto_11 : decode cX2_readInto 11 = .ok (.putfield 22, 3) := by decide +kernel
theorem dX2_readInto_14 : decode cX2_readInto 14 = .ok (.aload_n 0, 1) := by decide +kernel
theorem dX2_readInto_15 : decode cX2_readInto 15 = .ok (.invokevirtual 39, 3) := by decide +kernel
theorem dX2_readInto_18 : decode cX2_readInto 18 = .ok (.aload_n 0, 1) := by decide +kernel
theorem dX2_readInto_19 : decode cX2_readInto 19 = .ok (.bipush 106, 2) := by decide +kernel
theorem dX2_readInto_21 : decode cX2_readInto 21 = .ok (.invokevirtual 42, 3) := by decide +kernel
theorem dX2_readInto_24 : decode cX2_readInto 24 = .ok (.aload_n 1, 1) := by decide +kernel
theorem dX2_readInto_25 : decode cX2_readInto 25 = .ok (.aload_n 0, 1) := by decide +kernel
theorem dX2_readInto_26 : decode cX2_readInto 26 = .ok (.iconst 1, 1) := by decide +kernel
theorem dX2_readInto_27 : decode cX2_readInto 27 = .ok (.bipush 9, 2) := by decide +kernel
theorem dX2_readInto_29 : decode cX2_readInto 29 = .ok (.invokevirtual 46, 3) := by decide +kernel
theorem dX2_readInto_32 : decode cX2_readInto 32 = .ok (.putfield 50, 3) := by decide +kernel
theorem dX2_readInto_35 : decode cX2_readInto 35 = .ok (.aload_n 0, 1) := by decide +kernel
theorem dX2_readInto_36 : decode cX2_readInto 36 = .ok (.bipush 59, 2) := by decide +kernel
theorem dX2_readInto_38 : decode cX2_readInto 38 = .ok (.invokevirtual 42, 3) := by decide +kernel
theorem dX2_readInto_41 : decode cX2_readInto 41 = .ok (.iconst 0, 1) := by decide +kernel
theorem dX2_readInto_42 : decode cX2_readInto 42 = .ok (.istore_n 2, 1) := by decide +kernel
theorem dX2_readInto_43 : decode cX2_readInto 43 = .ok (.iload_n 2, 1) := by decide +kernel
theorem dX2_readInto_44 : decode cX2_readInto 44 = .ok (.iconst 3, 1) := by decide +kernel
theorem dX2_readInto_45 : decode cX2_readInto 45 = .ok (.if_icmp .gt 31, 3) := by decide +kernel
theorem dX2_readInto_48 : decode cX2_readInto 48 = .ok (.aload_n 0, 1) := by decide +kernel
theorem dX2_readInto_49 : decode cX2_readInto 49 = .ok (.getfield 31, 3) := by decide +kernel
theorem dX2_readInto_52 : decode cX2_readInto 52 = .ok (.ifCond .ne 24, 3) := by decide +kernel
theorem dX2_readInto_55 : decode cX2_readInto 55 = .ok (.aload_n 0, 1) := by decide +kernel
theorem dX2_readInto_56 : decode cX2_readInto 56 = .ok (.getfield 25, 3) := by decide +kernel
theorem dX2_readInto_59 : decode cX2_readInto 59 = .ok (.bipush 115, 2) := by decide +kernel
theorem dX2_readInto_61 : decode cX2_readInto 61 = .ok (.if_icmp .ne 15, 3) := by decide +kernel
theorem dX2_readInto_64 : decode cX2_readInto 64 = .ok (.aload_n 0, 1) := by decide +kernel
theorem dX2_readInto_65 : decode cX2_readInto 65 = .ok (.aload_n 1, 1) := by decide +kernel
theorem dX2_readInto_66 : decode cX2_readInto 66 = .ok (.iload_n 2, 1) := by decide +kernel
theorem dX2_readInto_67 : decode cX2_readInto 67 = .ok (.invokevirtual 53, 3) := by decide +kernel
theorem dX2_readInto_70 : decode cX2_readInto 70 = .ok (.iinc 2 1, 3) := by decide +kernel
theorem dX2_readInto_73 : decode cX2_readInto 73 = .ok (.goto (-30), 3) := by decide +kernel
theorem dX2_readInto_76 : decode cX2_readInto 76 = .ok (.iconst 0, 1) := by decide +kernel
theorem dX2_readInto_77 : decode cX2_readInto 77 = .ok (.istore_n 2, 1) := by decide +kernel
theorem dX2_readInto_78 : decode cX2_readInto 78 = .ok (.iload_n 2, 1) := by decide +kernel
theorem dX2_readInto_79 : decode cX2_readInto 79 = .ok (.iconst 5, 1) := by decide +kernel
theorem dX2_readInto_80 : decode cX2_readInto 80 = .ok (.if_icmp .gt 32, 3) := by decide +kernel
theorem dX2_readInto_83 : decode cX2_readInto 83 = .ok (.aload_n 0, 1) := by decide +kernel
theorem dX2_readInto_84 : decode cX2_readInto 84 = .ok (.getfield 31, 3) := by decide +kernel
theorem dX2_readInto_87 : decode cX2_readInto 87 = .ok (.ifCond .ne 25, 3) := by decide +kernel
theorem dX2_readInto_90 : decode cX2_readInto 90 = .ok (.aload_n 0, 1) := by decide +kernel
theorem dX2_readInto_91 : decode cX2_readInto 91 = .ok (.getfield 25, 3) := by decide +kernel
theorem dX2_readInto_94 : decode cX2_readInto 94 = .ok (.invokestatic 57, 3) := by decide +kernel
theorem dX2_readInto_97 : decode cX2_readInto 97 = .ok (.ifCond .eq 15, 3) := by decide +kernel
theorem dX2_readInto_100 : decode cX2_readInto 100 = .ok (.aload_n 0, 1) := by decide +kernel
theorem dX2_readInto_101 : decode cX2_readInto 101 = .ok (.aload_n 1, 1) := by decide +kernel
theorem dX2_readInto_102 : decode cX2_readInto 102 = .ok (.iload_n 2, 1) := by decide +kernel
theorem dX2_readInto_103 : decode cX2_readInto 103 = .ok (.invokevirtual 61, 3) := by decide +kernel
theorem dX2_readInto_106 : decode cX2_readInto 106 = .ok (.iinc 2 1, 3) := by decide +kernel
theorem dX2_readInto_109 : decode cX2_readInto 109 = .ok (.goto (-31), 3) := by decide +kernel
theorem dX2_readInto_112 : decode cX2_readInto 112 = .ok (.aload_n 0, 1) := by decide +kernel
theorem dX2_readInto_113 : decode cX2_readInto 113 = .ok (.iconst (-1), 1) := by decide +kernel
theorem dX2_readInto_114 : decode cX2_readInto 114 = .ok (.invokevirtual 42, 3) := by decide +kernel
theorem dX2_readInto_117 : decode cX2_readInto 117 = .ok (.return_, 1) := by decide +kernel
theorem dX2_readSinger_0 : decode cX2_readSinger 0 = .ok (.iload_n 2, 1) := by decide +kernel
theorem dX2_readSinger_1 : decode cX2_readSinger 1 = .ok (.iconst 3, 1) := by decide +kernel
theorem dX2_readSinger_2 : decode cX2_readSinger 2 = .ok (.if_icmp .lt 9, 3) := by decide +kernel
theorem dX2_readSinger_5 : decode cX2_readSinger 5 = .ok (.aload_n 0, 1) := by decide +kernel
theorem dX2_readSinger_6 : decode cX2_readSinger 6 = .ok (.iconst 3, 1) := by decide +kernel
theorem dX2_readSinger_7 : decode cX2_readSinger 7 = .ok (.putfield 31, 3) := by decide +kernel
theorem dX2_readSinger_10 : decode cX2_readSinger 10 = .ok (.return_, 1) := by decide +kernel
theorem dX2_readSinger_11 : decode cX2_readSinger 11 = .ok (.aload_n 0, 1) := by decide +kernel
theorem dX2_readSinger_12 : decode cX2_readSinger 12 = .ok (.invokevirtual 39, 3) := by decide +kernel
theorem dX2_readSinger_15 : decode cX2_readSinger 15 = .ok (.aload_n 1, 1) := by decide +kernel
theorem dX2_readSinger_16 : decode cX2_readSinger 16 = .ok (.getfield 64, 3) := by decide +kernel
theorem dX2_readSinger_19 : decode cX2_readSinger 19 = .ok (.iload_n 2, 1) := by decide +kernel
theorem dX2_readSinger_20 : decode cX2_readSinger 20 = .ok (.aload_n 0, 1) := by decide +kernel
theorem dX2_readSinger_21 : decode cX2_readSinger 21 = .ok (.iconst 0, 1) := by decide +kernel
theorem dX2_readSinger_22 : decode cX2_readSinger 22 = .ok (.bipush 6, 2) := by decide +kernel
theorem dX2_readSinger_24 : decode cX2_readSinger 24 = .ok (.invokevirtual 46, 3) := by decide +kernel
theorem dX2_readSinger_27 : decode cX2_readSinger 27 = .ok (.iastore, 1) := by decide +kernel
theorem dX2_readSinger_28 : decode cX2_readSinger 28 = .ok (.aload_n 0, 1) := by decide +kernel
theorem dX2_readSinger_29 : decode cX2_readSinger 29 = .ok (.bipush 44, 2) := by decide +kernel
theorem dX2_readSinger_31 : decode cX2_readSinger 31 = .ok (.invokevirtual 42, 3) := by decide +kernel
theorem dX2_readSinger_34 : decode cX2_readSinger 34 = .ok (.aload_n 1, 1) := by decide +kernel
theorem dX2_readSinger_35 : decode cX2_readSinger 35 = .ok (.getfield 67, 3) := by decide +kernel
theorem dX2_readSinger_38 : decode cX2_readSinger 38 = .ok (.iload_n 2, 1) := by decide +kernel
theorem dX2_readSinger_39 : decode cX2_readSinger 39 = .ok (.aload_n 0, 1) := by decide +kernel
theorem dX2_readSinger_40 : decode cX2_readSinger 40 = .ok (.aload_n 1, 1) := by decide +kernel
theorem dX2_readSinger_41 : decode cX2_readSinger 41 = .ok (.getfield 64, 3) := by decide +kernel
theorem dX2_readSinger_44 : decode cX2_readSinger 44 = .ok (.iload_n 2, 1) := by decide +kernel
theorem dX2_readSinger_45 : decode cX2_readSinger 45 = .ok (.iaload, 1) := by decide +kernel
theorem dX2_readSinger_46 : decode cX2_readSinger 46 = .ok (.bipush 6, 2) := by decide +kernel
theorem dX2_readSinger_48 : decode cX2_readSinger 48 = .ok (.invokevirtual 46, 3) := by decide +kernel
theorem dX2_readSinger_51 : decode cX2_readSinger 51 = .ok (.iastore, 1) := by decide +kernel
theorem dX2_readSinger_52 : decode cX2_readSinger 52 = .ok (.aload_n 0, 1) := by decide +kernel
theorem dX2_readSinger_53 : decode cX2_readSinger 53 = .ok (.bipush 44, 2) := by decide +kernel
theorem dX2_readSinger_55 : decode cX2_readSinger 55 = .ok (.invokevirtual 42, 3) := by decide +kernel
theorem dX2_readSinger_58 : decode cX2_readSinger 58 = .ok (.aload_n 1, 1) := by decide +kernel
theorem dX2_readSinger_59 : decode cX2_readSinger 59 = .ok (.getfield 70, 3) := by decide +kernel
theorem dX2_readSinger_62 : decode cX2_readSinger 62 = .ok (.iload_n 2, 1) := by decide +kernel
theorem dX2_readSinger_63 : decode cX2_readSinger 63 = .ok (.aload_n 0, 1) := by decide +kernel
theorem dX2_readSinger_64 : decode cX2_readSinger 64 = .ok (.iconst 1, 1) := by decide +kernel
theorem dX2_readSinger_65 : decode cX2_readSinger 65 = .ok (.bipush 9, 2) := by decide +kernel
theorem dX2_readSinger_67 : decode cX2_readSinger 67 = .ok (.invokevirtual 46, 3) := by decide +kernel
theorem dX2_readSinger_70 : decode cX2_readSinger 70 = .ok (.iastore, 1) := by decide +kernel
theorem dX2_readSinger_71 : decode cX2_readSinger 71 = .ok (.aload_n 0, 1) := by decide +kernel
theorem dX2_readSinger_72 : decode cX2_readSinger 72 = .ok (.bipush 59, 2) := by decide +kernel
theorem dX2_readSinger_74 : decode cX2_readSinger 74 = .ok (.invokevirtual 42, 3) := by decide +kernel
theorem dX2_readSinger_77 : decode cX2_readSinger 77 = .ok (.aload_n 1, 1) := by decide +kernel
theorem dX2_readSinger_78 : decode cX2_readSinger 78 = .ok (.iload_n 2, 1) := by decide +kernel
theorem dX2_readSinger_79 : decode cX2_readSinger 79 = .ok (.iconst 1, 1) := by decide +kernel
theorem dX2_readSinger_80 : decode cX2_readSinger 80 = .ok (.iadd, 1) := by decide +kernel
theorem dX2_readSinger_81 : decode cX2_readSinger 81 = .ok (.putfield 73, 3) := by decide +kernel
theorem dX2_readSinger_84 : decode cX2_readSinger 84 = .ok (.return_, 1) := by decide +kernel
theorem dX2_readPan_0 : decode cX2_readPan 0 = .ok (.iload_n 2, 1) := by decide +kernel
theorem dX2_readPan_1 : decode cX2_readPan 1 = .ok (.iconst 5, 1) := by decide +kernel
theorem dX2_readPan_2 : decode cX2_readPan 2 = .ok (.if_icmp .lt 9, 3) := by decide +kernel
theorem dX2_readPan_5 : decode cX2_readPan 5 = .ok (.aload_n 0, 1) := by decide +kernel
theorem dX2_readPan_6 : decode cX2_readPan 6 = .ok (.iconst 3, 1) := by decide +kernel
theorem dX2_readPan_7 : decode cX2_readPan 7 = .ok (.putfield 31, 3) := by decide +kernel
theorem dX2_readPan_10 : decode cX2_readPan 10 = .ok (.return_, 1) := by decide +kernel
theorem dX2_readPan_11 : decode cX2_readPan 11 = .ok (.aload_n 1, 1) := by decide +kernel
theorem dX2_readPan_12 : decode cX2_readPan 12 = .ok (.getfield 76, 3) := by decide +kernel
theorem dX2_readPan_15 : decode cX2_readPan 15 = .ok (.iload_n 2, 1) := by decide +kernel
theorem dX2_readPan_16 : decode cX2_readPan 16 = .ok (.aload_n 0, 1) := by decide +kernel
theorem dX2_readPan_17 : decode cX2_readPan 17 = .ok (.getfield 25, 3) := by decide +kernel
theorem dX2_readPan_20 : decode cX2_readPan 20 = .ok (.invokestatic 57, 3) := by decide +kernel
theorem dX2_readPan_23 : decode cX2_readPan 23 = .ok (.iastore, 1) := by decide +kernel
theorem dX2_readPan_24 : decode cX2_readPan 24 = .ok (.aload_n 0, 1) := by decide +kernel
theorem dX2_readPan_25 : decode cX2_readPan 25 = .ok (.invokevirtual 39, 3) := by decide +kernel
theorem dX2_readPan_28 : decode cX2_readPan 28 = .ok (.aload_n 1, 1) := by decide +kernel
theorem dX2_readPan_29 : decode cX2_readPan 29 = .ok (.getfield 79, 3) := by decide +kernel
theorem dX2_readPan_32 : decode cX2_readPan 32 = .ok (.iload_n 2, 1) := by decide +kernel
theorem dX2_readPan_33 : decode cX2_readPan 33 = .ok (.aload_n 0, 1) := by decide +kernel
theorem dX2_readPan_34 : decode cX2_readPan 34 = .ok (.iconst 0, 1) := by decide +kernel
theorem dX2_readPan_35 : decode cX2_readPan 35 = .ok (.bipush 127, 2) := by decide +kernel
theorem dX2_readPan_37 : decode cX2_readPan 37 = .ok (.invokevirtual 46, 3) := by decide +kernel
theorem dX2_readPan_40 : decode cX2_readPan 40 = .ok (.iastore, 1) := by decide +kernel
theorem dX2_readPan_41 : decode cX2_readPan 41 = .ok (.aload_n 0, 1) := by decide +kernel
theorem dX2_readPan_42 : decode cX2_readPan 42 = .ok (.bipush 44, 2) := by decide +kernel
theorem dX2_readPan_44 : decode cX2_readPan 44 = .ok (.invokevirtual 42, 3) := by decide +kernel
theorem dX2_readPan_47 : decode cX2_readPan 47 = .ok (.aload_n 1, 1) := by decide +kernel
theorem dX2_readPan_48 : decode cX2_readPan 48 = .ok (.getfield 82, 3) := by decide +kernel
theorem dX2_readPan_51 : decode cX2_readPan 51 = .ok (.iload_n 2, 1) := by decide +kernel
theorem dX2_readPan_52 : decode cX2_readPan 52 = .ok (.aload_n 0, 1) := by decide +kernel
theorem dX2_readPan_53 : decode cX2_readPan 53 = .ok (.iconst 1, 1) := by decide +kernel
theorem dX2_readPan_54 : decode cX2_readPan 54 = .ok (.bipush 20, 2) := by decide +kernel
theorem dX2_readPan_56 : decode cX2_readPan 56 = .ok (.invokevirtual 46, 3) := by decide +kernel
theorem dX2_readPan_59 : decode cX2_readPan 59 = .ok (.iastore, 1) := by decide +kernel
theorem dX2_readPan_60 : decode cX2_readPan 60 = .ok (.aload_n 0, 1) := by decide +kernel
theorem dX2_readPan_61 : decode cX2_readPan 61 = .ok (.bipush 44, 2) := by decide +kernel
theorem dX2_readPan_63 : decode cX2_readPan 63 = .ok (.invokevirtual 42, 3) := by decide +kernel
theorem dX2_readPan_66 : decode cX2_readPan 66 = .ok (.aload_n 1, 1) := by decide +kernel
theorem dX2_readPan_67 : decode cX2_readPan 67 = .ok (.getfield 85, 3) := by decide +kernel
theorem dX2_readPan_70 : decode cX2_readPan 70 = .ok (.iload_n 2, 1) := by decide +kernel
theorem dX2_readPan_71 : decode cX2_readPan 71 = .ok (.aload_n 0, 1) := by decide +kernel
theorem dX2_readPan_72 : decode cX2_readPan 72 = .ok (.iconst 0, 1) := by decide +kernel
theorem dX2_readPan_73 : decode cX2_readPan 73 = .ok (.iconst 1, 1) := by decide +kernel
theorem dX2_readPan_74 : decode cX2_readPan 74 = .ok (.aload_n 1, 1) := by decide +kernel
theorem dX2_readPan_75 : decode cX2_readPan 75 = .ok (.getfield 73, 3) := by decide +kernel
theorem dX2_readPan_78 : decode cX2_readPan 78 = .ok (.ishl, 1) := by decide +kernel
theorem dX2_readPan_79 : decode cX2_readPan 79 = .ok (.iconst 1, 1) := by decide +kernel
theorem dX2_readPan_80 : decode cX2_readPan 80 = .ok (.isub, 1) := by decide +kernel
theorem dX2_readPan_81 : decode cX2_readPan 81 = .ok (.invokevirtual 46, 3) := by decide +kernel
theorem dX2_readPan_84 : decode cX2_readPan 84 = .ok (.iastore, 1) := by decide +kernel
theorem dX2_readPan_85 : decode cX2_readPan 85 = .ok (.aload_n 0, 1) := by decide +kernel
theorem dX2_readPan_86 : decode cX2_readPan 86 = .ok (.bipush 59, 2) := by decide +kernel
theorem dX2_readPan_88 : decode cX2_readPan 88 = .ok (.invokevirtual 42, 3) := by decide +kernel
theorem dX2_readPan_91 : decode cX2_readPan 91 = .ok (.aload_n 1, 1) := by decide +kernel
theorem dX2_readPan_92 : decode cX2_readPan 92 = .ok (.iload_n 2, 1) := by decide +kernel
theorem dX2_readPan_93 : decode cX2_readPan 93 = .ok (.iconst 1, 1) := by decide +kernel
theorem dX2_readPan_94 : decode cX2_readPan 94 = .ok (.iadd, 1) := by decide +kernel
theorem dX2_readPan_95 : decode cX2_readPan 95 = .ok (.putfield 88, 3) := by decide +kernel
theorem dX2_readPan_98 : decode cX2_readPan 98 = .ok (.return_, 1) := by decide +kernel
theorem dX2_kindOf_0 : decode cX2_kindOf 0 = .ok (.iload_n 0, 1) := by decide +kernel
theorem dX2_kindOf_1 : decode cX2_kindOf 1 = .ok (.tableswitch 85 99 113 #[77, 83, 85, 85, 85, 85, 85, 85, 85, 85, 81, 85, 85, 75, 79], 75) := by decide +kernel
theorem dX2_kindOf_76 : decode cX2_kindOf 76 = .ok (.iconst 1, 1) := by decide +kernel
theorem dX2_kindOf_77 : decode cX2_kindOf 77 = .ok (.ireturn, 1) := by decide +kernel
theorem dX2_kindOf_78 : decode cX2_kindOf 78 = .ok (.iconst 2, 1) := by decide +kernel
theorem dX2_kindOf_79 : decode cX2_kindOf 79 = .ok (.ireturn, 1) := by decide +kernel
theorem dX2_kindOf_80 : decode cX2_kindOf 80 = .ok (.iconst 3, 1) := by decide +kernel
theorem dX2_kindOf_81 : decode cX2_kindOf 81 = .ok (.ireturn, 1) := by decide +kernel
theorem dX2_kindOf_82 : decode cX2_kindOf 82 = .ok (.iconst 4, 1) := by decide +kernel
theorem dX2_kindOf_83 : decode cX2_kindOf 83 = .ok (.ireturn, 1) := by decide +kernel
theorem dX2_kindOf_84 : decode cX2_kindOf 84 = .ok (.iconst 5, 1) := by decide +kernel
theorem dX2_kindOf_85 : decode cX2_kindOf 85 = .ok (.ireturn, 1) := by decide +kernel
theorem dX2_kindOf_86 : decode cX2_kindOf 86 = .ok (.iconst 0, 1) := by decide +kernel
theorem dX2_kindOf_87 : decode cX2_kindOf 87 = .ok (.ireturn, 1) := by decide +kernel
theorem dX2_take_0 : decode cX2_take 0 = .ok (.aload_n 0, 1) := by decide +kernel
theorem dX2_take_1 : decode cX2_take 1 = .ok (.getfield 31, 3) := by decide +kernel
theorem dX2_take_4 : decode cX2_take 4 = .ok (.ifCond .eq 4, 3) := by decide +kernel
theorem dX2_take_7 : decode cX2_take 7 = .ok (.return_, 1) := by decide +kernel
theorem dX2_take_8 : decode cX2_take 8 = .ok (.aload_n 0, 1) := by decide +kernel
theorem dX2_take_9 : decode cX2_take 9 = .ok (.getfield 25, 3) := by decide +kernel
theorem dX2_take_12 : decode cX2_take 12 = .ok (.iload_n 1, 1) := by decide +kernel
theorem dX2_take_13 : decode cX2_take 13 = .ok (.if_icmp .ne 10, 3) := by decide +kernel
theorem dX2_take_16 : decode cX2_take 16 = .ok (.aload_n 0, 1) := by decide +kernel
theorem dX2_take_17 : decode cX2_take 17 = .ok (.invokevirtual 39, 3) := by decide +kernel
theorem dX2_take_20 : decode cX2_take 20 = .ok (.goto 8, 3) := by decide +kernel
theorem dX2_take_23 : decode cX2_take 23 = .ok (.aload_n 0, 1) := by decide +kernel
theorem dX2_take_24 : decode cX2_take 24 = .ok (.iconst 1, 1) := by decide +kernel
theorem dX2_take_25 : decode cX2_take 25 = .ok (.putfield 31, 3) := by decide +kernel
theorem dX2_take_28 : decode cX2_take 28 = .ok (.return_, 1) := by decide +kernel
theorem dX2_takeNumber_0 : decode cX2_takeNumber 0 = .ok (.aload_n 0, 1) := by decide +kernel
theorem dX2_takeNumber_1 : decode cX2_takeNumber 1 = .ok (.getfield 31, 3) := by decide +kernel
theorem dX2_takeNumber_4 : decode cX2_takeNumber 4 = .ok (.ifCond .eq 5, 3) := by decide +kernel
theorem dX2_takeNumber_7 : decode cX2_takeNumber 7 = .ok (.iload_n 1, 1) := by decide +kernel
theorem dX2_takeNumber_8 : decode cX2_takeNumber 8 = .ok (.ireturn, 1) := by decide +kernel
theorem dX2_takeNumber_9 : decode cX2_takeNumber 9 = .ok (.aload_n 0, 1) := by decide +kernel
theorem dX2_takeNumber_10 : decode cX2_takeNumber 10 = .ok (.getfield 25, 3) := by decide +kernel
theorem dX2_takeNumber_13 : decode cX2_takeNumber 13 = .ok (.bipush (-3), 2) := by decide +kernel
theorem dX2_takeNumber_15 : decode cX2_takeNumber 15 = .ok (.if_icmp .eq 10, 3) := by decide +kernel
theorem dX2_takeNumber_18 : decode cX2_takeNumber 18 = .ok (.aload_n 0, 1) := by decide +kernel
theorem dX2_takeNumber_19 : decode cX2_takeNumber 19 = .ok (.iconst 1, 1) := by decide +kernel
theorem dX2_takeNumber_20 : decode cX2_takeNumber 20 = .ok (.putfield 31, 3) := by decide +kernel
theorem dX2_takeNumber_23 : decode cX2_takeNumber 23 = .ok (.iload_n 1, 1) := by decide +kernel
theorem dX2_takeNumber_24 : decode cX2_takeNumber 24 = .ok (.ireturn, 1) := by decide +kernel
theorem dX2_takeNumber_25 : decode cX2_takeNumber 25 = .ok (.aload_n 0, 1) := by decide +kernel
theorem dX2_takeNumber_26 : decode cX2_takeNumber 26 = .ok (.getfield 28, 3) := by decide +kernel
theorem dX2_takeNumber_29 : decode cX2_takeNumber 29 = .ok (.iload_n 1, 1) := by decide +kernel
theorem dX2_takeNumber_30 : decode cX2_takeNumber 30 = .ok (.if_icmp .lt 11, 3) := by decide +kernel
theorem dX2_takeNumber_33 : decode cX2_takeNumber 33 = .ok (.aload_n 0, 1) := by decide +kernel
theorem dX2_takeNumber_34 : decode cX2_takeNumber 34 = .ok (.getfield 28, 3) := by decide +kernel
theorem dX2_takeNumber_37 : decode cX2_takeNumber 37 = .ok (.iload_n 2, 1) := by decide +kernel
theorem dX2_takeNumber_38 : decode cX2_takeNumber 38 = .ok (.if_icmp .le 10, 3) := by decide +kernel
theorem dX2_takeNumber_41 : decode cX2_takeNumber 41 = .ok (.aload_n 0, 1) := by decide +kernel
theorem dX2_takeNumber_42 : decode cX2_takeNumber 42 = .ok (.iconst 2, 1) := by decide +kernel
theorem dX2_takeNumber_43 : decode cX2_takeNumber 43 = .ok (.putfield 31, 3) := by decide +kernel
theorem dX2_takeNumber_46 : decode cX2_takeNumber 46 = .ok (.iload_n 1, 1) := by decide +kernel
theorem dX2_takeNumber_47 : decode cX2_takeNumber 47 = .ok (.ireturn, 1) := by decide +kernel
theorem dX2_takeNumber_48 : decode cX2_takeNumber 48 = .ok (.aload_n 0, 1) := by decide +kernel
theorem dX2_takeNumber_49 : decode cX2_takeNumber 49 = .ok (.getfield 28, 3) := by decide +kernel
theorem dX2_takeNumber_52 : decode cX2_takeNumber 52 = .ok (.istore_n 3, 1) := by decide +kernel
theorem dX2_takeNumber_53 : decode cX2_takeNumber 53 = .ok (.aload_n 0, 1) := by decide +kernel
theorem dX2_takeNumber_54 : decode cX2_takeNumber 54 = .ok (.invokevirtual 39, 3) := by decide +kernel
theorem dX2_takeNumber_57 : decode cX2_takeNumber 57 = .ok (.iload_n 3, 1) := by decide +kernel
theorem dX2_takeNumber_58 : decode cX2_takeNumber 58 = .ok (.ireturn, 1) := by decide +kernel
theorem dX2_step_0 : decode cX2_step 0 = .ok (.aload_n 0, 1) := by decide +kernel
theorem dX2_step_1 : decode cX2_step 1 = .ok (.aload_n 0, 1) := by decide +kernel
theorem dX2_step_2 : decode cX2_step 2 = .ok (.getfield 22, 3) := by decide +kernel
theorem dX2_step_5 : decode cX2_step 5 = .ok (.putfield 19, 3) := by decide +kernel
theorem dX2_step_8 : decode cX2_step 8 = .ok (.aload_n 0, 1) := by decide +kernel
theorem dX2_step_9 : decode cX2_step 9 = .ok (.getfield 22, 3) := by decide +kernel
theorem dX2_step_12 : decode cX2_step 12 = .ok (.aload_n 0, 1) := by decide +kernel
theorem dX2_step_13 : decode cX2_step 13 = .ok (.getfield 15, 3) := by decide +kernel
theorem dX2_step_16 : decode cX2_step 16 = .ok (.if_icmp .lt 9, 3) := by decide +kernel
theorem dX2_step_19 : decode cX2_step 19 = .ok (.aload_n 0, 1) := by decide +kernel
theorem dX2_step_20 : decode cX2_step 20 = .ok (.iconst (-1), 1) := by decide +kernel
theorem dX2_step_21 : decode cX2_step 21 = .ok (.putfield 25, 3) := by decide +kernel
theorem dX2_step_24 : decode cX2_step 24 = .ok (.return_, 1) := by decide +kernel
theorem dX2_step_25 : decode cX2_step 25 = .ok (.aload_n 0, 1) := by decide +kernel
theorem dX2_step_26 : decode cX2_step 26 = .ok (.getfield 9, 3) := by decide +kernel
theorem dX2_step_29 : decode cX2_step 29 = .ok (.aload_n 0, 1) := by decide +kernel
theorem dX2_step_30 : decode cX2_step 30 = .ok (.getfield 22, 3) := by decide +kernel
theorem dX2_step_33 : decode cX2_step 33 = .ok (.iaload, 1) := by decide +kernel
theorem dX2_step_34 : decode cX2_step 34 = .ok (.istore_n 1, 1) := by decide +kernel
theorem dX2_step_35 : decode cX2_step 35 = .ok (.iload_n 1, 1) := by decide +kernel
theorem dX2_step_36 : decode cX2_step 36 = .ok (.invokestatic 91, 3) := by decide +kernel
theorem dX2_step_39 : decode cX2_step 39 = .ok (.ifCond .eq 8, 3) := by decide +kernel
theorem dX2_step_42 : decode cX2_step 42 = .ok (.aload_n 0, 1) := by decide +kernel
theorem dX2_step_43 : decode cX2_step 43 = .ok (.invokevirtual 95, 3) := by decide +kernel
theorem dX2_step_46 : decode cX2_step 46 = .ok (.return_, 1) := by decide +kernel
theorem dX2_step_47 : decode cX2_step 47 = .ok (.aload_n 0, 1) := by decide +kernel
theorem dX2_step_48 : decode cX2_step 48 = .ok (.dup, 1) := by decide +kernel
theorem dX2_step_49 : decode cX2_step 49 = .ok (.getfield 22, 3) := by decide +kernel
theorem dX2_step_52 : decode cX2_step 52 = .ok (.iconst 1, 1) := by decide +kernel
theorem dX2_step_53 : decode cX2_step 53 = .ok (.iadd, 1) := by decide +kernel
theorem dX2_step_54 : decode cX2_step 54 = .ok (.putfield 22, 3) := by decide +kernel
theorem dX2_step_57 : decode cX2_step 57 = .ok (.iload_n 1, 1) := by decide +kernel
theorem dX2_step_58 : decode cX2_step 58 = .ok (.bipush 97, 2) := by decide +kernel
theorem dX2_step_60 : decode cX2_step 60 = .ok (.if_icmp .lt 9, 3) := by decide +kernel
theorem dX2_step_63 : decode cX2_step 63 = .ok (.iload_n 1, 1) := by decide +kernel
theorem dX2_step_64 : decode cX2_step 64 = .ok (.bipush 122, 2) := by decide +kernel
theorem dX2_step_66 : decode cX2_step 66 = .ok (.if_icmp .le 15, 3) := by decide +kernel
theorem dX2_step_69 : decode cX2_step 69 = .ok (.iload_n 1, 1) := by decide +kernel
theorem dX2_step_70 : decode cX2_step 70 = .ok (.bipush 44, 2) := by decide +kernel
theorem dX2_step_72 : decode cX2_step 72 = .ok (.if_icmp .eq 9, 3) := by decide +kernel
theorem dX2_step_75 : decode cX2_step 75 = .ok (.iload_n 1, 1) := by decide +kernel
theorem dX2_step_76 : decode cX2_step 76 = .ok (.bipush 59, 2) := by decide +kernel
theorem dX2_step_78 : decode cX2_step 78 = .ok (.if_icmp .ne 7, 3) := by decide +kernel
theorem dX2_step_81 : decode cX2_step 81 = .ok (.iconst 1, 1) := by decide +kernel
theorem dX2_step_82 : decode cX2_step 82 = .ok (.goto 4, 3) := by decide +kernel
theorem dX2_step_85 : decode cX2_step 85 = .ok (.iconst 0, 1) := by decide +kernel
theorem dX2_step_86 : decode cX2_step 86 = .ok (.istore_n 2, 1) := by decide +kernel
theorem dX2_step_87 : decode cX2_step 87 = .ok (.aload_n 0, 1) := by decide +kernel
theorem dX2_step_88 : decode cX2_step 88 = .ok (.iload_n 2, 1) := by decide +kernel
theorem dX2_step_89 : decode cX2_step 89 = .ok (.ifCond .eq 7, 3) := by decide +kernel
theorem dX2_step_92 : decode cX2_step 92 = .ok (.iload_n 1, 1) := by decide +kernel
theorem dX2_step_93 : decode cX2_step 93 = .ok (.goto 5, 3) := by decide +kernel
theorem dX2_step_96 : decode cX2_step 96 = .ok (.bipush (-2), 2) := by decide +kernel
theorem dX2_step_98 : decode cX2_step 98 = .ok (.putfield 25, 3) := by decide +kernel
theorem dX2_step_101 : decode cX2_step 101 = .ok (.return_, 1) := by decide +kernel
theorem dX2_stepNumber_0 : decode cX2_stepNumber 0 = .ok (.aload_n 0, 1) := by decide +kernel
theorem dX2_stepNumber_1 : decode cX2_stepNumber 1 = .ok (.iconst 0, 1) := by decide +kernel
theorem dX2_stepNumber_2 : decode cX2_stepNumber 2 = .ok (.putfield 28, 3) := by decide +kernel
theorem dX2_stepNumber_5 : decode cX2_stepNumber 5 = .ok (.aload_n 0, 1) := by decide +kernel
theorem dX2_stepNumber_6 : decode cX2_stepNumber 6 = .ok (.getfield 22, 3) := by decide +kernel
theorem dX2_stepNumber_9 : decode cX2_stepNumber 9 = .ok (.aload_n 0, 1) := by decide +kernel
theorem dX2_stepNumber_10 : decode cX2_stepNumber 10 = .ok (.getfield 15, 3) := by decide +kernel
theorem dX2_stepNumber_13 : decode cX2_stepNumber 13 = .ok (.if_icmp .ge 61, 3) := by decide +kernel
theorem dX2_stepNumber_16 : decode cX2_stepNumber 16 = .ok (.aload_n 0, 1) := by decide +kernel
theorem dX2_stepNumber_17 : decode cX2_stepNumber 17 = .ok (.getfield 9, 3) := by decide +kernel
theorem dX2_stepNumber_20 : decode cX2_stepNumber 20 = .ok (.aload_n 0, 1) := by decide +kernel
theorem dX2_stepNumber_21 : decode cX2_stepNumber 21 = .ok (.getfield 22, 3) := by decide +kernel
theorem dX2_stepNumber_24 : decode cX2_stepNumber 24 = .ok (.iaload, 1) := by decide +kernel
theorem dX2_stepNumber_25 : decode cX2_stepNumber 25 = .ok (.invokestatic 91, 3) := by decide +kernel
theorem dX2_stepNumber_28 : decode cX2_stepNumber 28 = .ok (.ifCond .eq 46, 3) := by decide +kernel
theorem dX2_stepNumber_31 : decode cX2_stepNumber 31 = .ok (.aload_n 0, 1) := by decide +kernel
theorem dX2_stepNumber_32 : decode cX2_stepNumber 32 = .ok (.bipush 10, 2) := by decide +kernel
theorem dX2_stepNumber_34 : decode cX2_stepNumber 34 = .ok (.aload_n 0, 1) := by decide +kernel
theorem dX2_stepNumber_35 : decode cX2_stepNumber 35 = .ok (.getfield 28, 3) := by decide +kernel
theorem dX2_stepNumber_38 : decode cX2_stepNumber 38 = .ok (.imul, 1) := by decide +kernel
theorem dX2_stepNumber_39 : decode cX2_stepNumber 39 = .ok (.aload_n 0, 1) := by decide +kernel
theorem dX2_stepNumber_40 : decode cX2_stepNumber 40 = .ok (.getfield 9, 3) := by decide +kernel
theorem dX2_stepNumber_43 : decode cX2_stepNumber 43 = .ok (.aload_n 0, 1) := by decide +kernel
theorem dX2_stepNumber_44 : decode cX2_stepNumber 44 = .ok (.getfield 22, 3) := by decide +kernel
theorem dX2_stepNumber_47 : decode cX2_stepNumber 47 = .ok (.iaload, 1) := by decide +kernel
theorem dX2_stepNumber_48 : decode cX2_stepNumber 48 = .ok (.iadd, 1) := by decide +kernel
theorem dX2_stepNumber_49 : decode cX2_stepNumber 49 = .ok (.bipush 48, 2) := by decide +kernel
theorem dX2_stepNumber_51 : decode cX2_stepNumber 51 = .ok (.isub, 1) := by decide +kernel
theorem dX2_stepNumber_52 : decode cX2_stepNumber 52 = .ok (.sipush 1000, 3) := by decide +kernel
theorem dX2_stepNumber_55 : decode cX2_stepNumber 55 = .ok (.invokestatic 98, 3) := by decide +kernel
theorem dX2_stepNumber_58 : decode cX2_stepNumber 58 = .ok (.putfield 28, 3) := by decide +kernel
theorem dX2_stepNumber_61 : decode cX2_stepNumber 61 = .ok (.aload_n 0, 1) := by decide +kernel
theorem dX2_stepNumber_62 : decode cX2_stepNumber 62 = .ok (.dup, 1) := by decide +kernel
theorem dX2_stepNumber_63 : decode cX2_stepNumber 63 = .ok (.getfield 22, 3) := by decide +kernel
theorem dX2_stepNumber_66 : decode cX2_stepNumber 66 = .ok (.iconst 1, 1) := by decide +kernel
theorem dX2_stepNumber_67 : decode cX2_stepNumber 67 = .ok (.iadd, 1) := by decide +kernel
theorem dX2_stepNumber_68 : decode cX2_stepNumber 68 = .ok (.putfield 22, 3) := by decide +kernel
theorem dX2_stepNumber_71 : decode cX2_stepNumber 71 = .ok (.goto (-66), 3) := by decide +kernel
theorem dX2_stepNumber_74 : decode cX2_stepNumber 74 = .ok (.aload_n 0, 1) := by decide +kernel
theorem dX2_stepNumber_75 : decode cX2_stepNumber 75 = .ok (.aload_n 0, 1) := by decide +kernel
theorem dX2_stepNumber_76 : decode cX2_stepNumber 76 = .ok (.getfield 22, 3) := by decide +kernel
theorem dX2_stepNumber_79 : decode cX2_stepNumber 79 = .ok (.aload_n 0, 1) := by decide +kernel
theorem dX2_stepNumber_80 : decode cX2_stepNumber 80 = .ok (.getfield 19, 3) := by decide +kernel
theorem dX2_stepNumber_83 : decode cX2_stepNumber 83 = .ok (.isub, 1) := by decide +kernel
theorem dX2_stepNumber_84 : decode cX2_stepNumber 84 = .ok (.iconst 3, 1) := by decide +kernel
theorem dX2_stepNumber_85 : decode cX2_stepNumber 85 = .ok (.if_icmp .gt 8, 3) := by decide +kernel
theorem dX2_stepNumber_88 : decode cX2_stepNumber 88 = .ok (.bipush (-3), 2) := by decide +kernel
theorem dX2_stepNumber_90 : decode cX2_stepNumber 90 = .ok (.goto 5, 3) := by decide +kernel
theorem dX2_stepNumber_93 : decode cX2_stepNumber 93 = .ok (.bipush (-2), 2) := by decide +kernel
theorem dX2_stepNumber_95 : decode cX2_stepNumber 95 = .ok (.putfield 25, 3) := by decide +kernel
theorem dX2_stepNumber_98 : decode cX2_stepNumber 98 = .ok (.return_, 1) := by decide +kernel
theorem dX2_isFigure_0 : decode cX2_isFigure 0 = .ok (.iload_n 0, 1) := by decide +kernel
theorem dX2_isFigure_1 : decode cX2_isFigure 1 = .ok (.bipush 48, 2) := by decide +kernel
theorem dX2_isFigure_3 : decode cX2_isFigure 3 = .ok (.if_icmp .lt 13, 3) := by decide +kernel
theorem dX2_isFigure_6 : decode cX2_isFigure 6 = .ok (.iload_n 0, 1) := by decide +kernel
theorem dX2_isFigure_7 : decode cX2_isFigure 7 = .ok (.bipush 57, 2) := by decide +kernel
theorem dX2_isFigure_9 : decode cX2_isFigure 9 = .ok (.if_icmp .gt 7, 3) := by decide +kernel
theorem dX2_isFigure_12 : decode cX2_isFigure 12 = .ok (.iconst 1, 1) := by decide +kernel
theorem dX2_isFigure_13 : decode cX2_isFigure 13 = .ok (.goto 4, 3) := by decide +kernel
theorem dX2_isFigure_16 : decode cX2_isFigure 16 = .ok (.iconst 0, 1) := by decide +kernel
theorem dX2_isFigure_17 : decode cX2_isFigure 17 = .ok (.ireturn, 1) := by decide +kernel
end
section
theorem dX3_init_0 : decode cX3_init 0 = .ok (.aload_n 0, 1) := by decide +kernel
theorem dX3_init_1 : decode cX3_init 1 = .ok (.invokespecial 1, 3) := by decide +kernel
theorem dX3_init_4 : decode cX3_init 4 = .ok (.aload_n 0, 1) := by decide +kernel
theorem dX3_init_5 : decode cX3_init 5 = .ok (.bipush 8, 2) := by decide +kernel
theorem dX3_init_7 : decode cX3_init 7 = .ok (.anewarray 9, 3) := by decide +kernel
theorem dX3_init_10 : decode cX3_init 10 = .ok (.putfield 11, 3) := by decide +kernel
theorem dX3_init_13 : decode cX3_init 13 = .ok (.aload_n 0, 1) := by decide +kernel
theorem dX3_init_14 : decode cX3_init 14 = .ok (.new 15, 3) := by decide +kernel
theorem dX3_init_17 : decode cX3_init 17 = .ok (.dup, 1) := by decide +kernel
theorem dX3_init_18 : decode cX3_init 18 = .ok (.invokespecial 17, 3) := by decide +kernel
theorem dX3_init_21 : decode cX3_init 21 = .ok (.putfield 18, 3) := by decide +kernel
theorem dX3_init_24 : decode cX3_init 24 = .ok (.aload_n 0, 1) := by decide +kernel
theorem dX3_init_25 : decode cX3_init 25 = .ok (.new 22, 3) := by decide +kernel
theorem dX3_init_28 : decode cX3_init 28 = .ok (.dup, 1) := by decide +kernel
theorem dX3_init_29 : decode cX3_init 29 = .ok (.invokespecial 24, 3) := by decide +kernel
theorem dX3_init_32 : decode cX3_init 32 = .ok (.putfield 25, 3) := by decide +kernel
theorem dX3_init_35 : decode cX3_init 35 = .ok (.aload_n 0, 1) := by decide +kernel
theorem dX3_init_36 : decode cX3_init 36 = .ok (.new 22, 3) := by decide +kernel
theorem dX3_init_39 : decode cX3_init 39 = .ok (.dup, 1) := by decide +kernel
theorem dX3_init_40 : decode cX3_init 40 = .ok (.invokespecial 24, 3) := by decide +kernel
theorem dX3_init_43 : decode cX3_init 43 = .ok (.putfield 29, 3) := by decide +kernel
theorem dX3_init_46 : decode cX3_init 46 = .ok (.aload_n 0, 1) := by decide +kernel
theorem dX3_init_47 : decode cX3_init 47 = .ok (.iconst 2, 1) := by decide +kernel
theorem dX3_init_48 : decode cX3_init 48 = .ok (.anewarray 22, 3) := by decide +kernel
theorem dX3_init_51 : decode cX3_init 51 = .ok (.putfield 32, 3) := by decide +kernel
theorem dX3_init_54 : decode cX3_init 54 = .ok (.aload_n 0, 1) := by decide +kernel
theorem dX3_init_55 : decode cX3_init 55 = .ok (.bipush 24, 2) := by decide +kernel
theorem dX3_init_57 : decode cX3_init 57 = .ok (.bipush 19, 2) := by decide +kernel
theorem dX3_init_59 : decode cX3_init 59 = .ok (.multianewarray 36 2, 4) := by decide +kernel
theorem dX3_init_63 : decode cX3_init 63 = .ok (.putfield 38, 3) := by decide +kernel
theorem dX3_init_66 : decode cX3_init 66 = .ok (.aload_n 0, 1) := by decide +kernel
theorem dX3_init_67 : decode cX3_init 67 = .ok (.iconst 0, 1) := by decide +kernel
theorem dX3_init_68 : decode cX3_init 68 = .ok (.putfield 41, 3) := by decide +kernel
theorem dX3_init_71 : decode cX3_init 71 = .ok (.aload_n 0, 1) := by decide +kernel
theorem dX3_init_72 : decode cX3_init 72 = .ok (.iconst 0, 1) := by decide +kernel
theorem dX3_init_73 : decode cX3_init 73 = .ok (.putfield 45, 3) := by decide +kernel
theorem dX3_init_76 : decode cX3_init 76 = .ok (.aload_n 0, 1) := by decide +kernel
theorem dX3_init_77 : decode cX3_init 77 = .ok (.iconst 3, 1) := by decide +kernel
theorem dX3_init_78 : decode cX3_init 78 = .ok (.newarray .int, 2) := by decide +kernel
theorem dX3_init_80 : decode cX3_init 80 = .ok (.putfield 48, 3) := by decide +kernel
theorem dX3_init_83 : decode cX3_init 83 = .ok (.aload_n 0, 1) := by decide +kernel
theorem dX3_init_84 : decode cX3_init 84 = .ok (.bipush 16, 2) := by decide +kernel
theorem dX3_init_86 : decode cX3_init 86 = .ok (.newarray .int, 2) := by decide +kernel
theorem dX3_init_88 : decode cX3_init 88 = .ok (.putfield 52, 3) := by decide +kernel
theorem dX3_init_91 : decode cX3_init 91 = .ok (.aload_n 0, 1) := by decide +kernel
theorem dX3_init_92 : decode cX3_init 92 = .ok (.iconst 4, 1) := by decide +kernel
theorem dX3_init_93 : decode cX3_init 93 = .ok (.bipush 19, 2) := by decide +kernel
theorem dX3_init_95 : decode cX3_init 95 = .ok (.multianewarray 36 2, 4) := by decide +kernel
theorem dX3_init_99 : decode cX3_init 99 = .ok (.putfield 55, 3) := by decide +kernel
theorem dX3_init_102 : decode cX3_init 102 = .ok (.aload_n 0, 1) := by decide +kernel
theorem dX3_init_103 : decode cX3_init 103 = .ok (.iconst 0, 1) := by decide +kernel
theorem dX3_init_104 : decode cX3_init 104 = .ok (.putfield 58, 3) := by decide +kernel
theorem dX3_init_107 : decode cX3_init 107 = .ok (.aload_n 0, 1) := by decide +kernel
theorem dX3_init_108 : decode cX3_init 108 = .ok (.iconst 0, 1) := by decide +kernel
theorem dX3_init_109 : decode cX3_init 109 = .ok (.putfield 61, 3) := by decide +kernel
theorem dX3_init_112 : decode cX3_init 112 = .ok (.aload_n 0, 1) := by decide +kernel
theorem dX3_init_113 : decode cX3_init 113 = .ok (.iconst 0, 1) := by decide +kernel
theorem dX3_init_114 : decode cX3_init 114 = .ok (.putfield 64, 3) := by decide +kernel
theorem dX3_init_117 : decode cX3_init 117 = .ok (.aload_n 0, 1) := by decide +kernel
theorem dX3_init_118 : decode cX3_init 118 = .ok (.bipush 16, 2) := by decide +kernel
theorem dX3_init_120 : decode cX3_init 120 = .ok (.newarray .int, 2) := by decide +kernel
theorem dX3_init_122 : decode cX3_init 122 = .ok (.putfield 67, 3) := by decide +kernel
theorem dX3_init_125 : decode cX3_init 125 = .ok (.aload_n 0, 1) := by decide +kernel
theorem dX3_init_126 : decode cX3_init 126 = .ok (.iconst 0, 1) := by decide +kernel
theorem dX3_init_127 : decode cX3_init 127 = .ok (.putfield 70, 3) := by decide +kernel
theorem dX3_init_130 : decode cX3_init 130 = .ok (.aload_n 0, 1) := by decide +kernel
theorem dX3_init_131 : decode cX3_init 131 = .ok (.iconst 0, 1) := by decide +kernel
theorem dX3_init_132 : decode cX3_init 132 = .ok (.putfield 73, 3) := by decide +kernel
theorem dX3_init_135 : decode cX3_init 135 = .ok (.aload_n 0, 1) := by decide +kernel
theorem dX3_init_136 : decode cX3_init 136 = .ok (.iconst 0, 1) := by decide +kernel
theorem dX3_init_137 : decode cX3_init 137 = .ok (.putfield 76, 3) := by decide +kernel
theorem dX3_init_140 : decode cX3_init 140 = .ok (.iconst 0, 1) := by decide +kernel
theorem dX3_init_141 : decode cX3_init 141 = .ok (.istore_n 1, 1) := by decide +kernel
theorem dX3_init_142 : decode cX3_init 142 = .ok (.iload_n 1, 1) := by decide +kernel
theorem dX3_init_143 : decode cX3_init 143 = .ok (.bipush 8, 2) := by decide +kernel
theorem dX3_init_145 : decode cX3_init 145 = .ok (.if_icmp .ge 22, 3) := by decide +kernel
theorem dX3_init_148 : decode cX3_init 148 = .ok (.aload_n 0, 1) := by decide +kernel
theorem dX3_init_149 : decode cX3_init 149 = .ok (.getfield 11, 3) := by decide +kernel
theorem dX3_init_152 : decode cX3_init 152 = .ok (.iload_n 1, 1) := by decide +kernel
theorem dX3_init_153 : decode cX3_init 153 = .ok (.new 9, 3) := by decide +kernel
theorem dX3_init_156 : decode cX3_init 156 = .ok (.dup, 1) := by decide +kernel
theorem dX3_init_157 : decode cX3_init 157 = .ok (.invokespecial 79, 3) := by decide +kernel
theorem dX3_init_160 : decode cX3_init 160 = .ok (.aastore, 1) := by decide +kernel
theorem dX3_init_161 : decode cX3_init 161 = .ok (.iinc 1 1, 3) := by decide +kernel
theorem dX3_init_164 : decode cX3_init 164 = .ok (.goto (-22), 3) := by decide +kernel
theorem dX3_init_167 : decode cX3_init 167 = .ok (.iconst 0, 1) := by decide +kernel
theorem dX3_init_168 : decode cX3_init 168 = .ok (.istore_n 1, 1) := by decide +kernel
theorem dX3_init_169 : decode cX3_init 169 = .ok (.iload_n 1, 1) := by decide +kernel
theorem dX3_init_170 : decode cX3_init 170 = .ok (.iconst 2, 1) := by decide +kernel
theorem dX3_init_171 : decode cX3_init 171 = .ok (.if_icmp .ge 22, 3) := by decide +kernel
theorem dX3_init_174 : decode cX3_init 174 = .ok (.aload_n 0, 1) := by decide +kernel
theorem dX3_init_175 : decode cX3_init 175 = .ok (.getfield 32, 3) := by decide +kernel
theorem dX3_init_178 : decode cX3_init 178 = .ok (.iload_n 1, 1) := by decide +kernel
theorem dX3_init_179 : decode cX3_init 179 = .ok (.new 22, 3) := by decide +kernel
theorem dX3_init_182 : decode cX3_init 182 = .ok (.dup, 1) := by decide +kernel
theorem dX3_init_183 : decode cX3_init 183 = .ok (.invokespecial 24, 3) := by decide +kernel
theorem dX3_init_186 : decode cX3_init 186 = .ok (.aastore, 1) := by decide +kernel
theorem dX3_init_187 : decode cX3_init 187 = .ok (.iinc 1 1, 3) := by decide +kernel
theorem dX3_init_190 : decode cX3_init 190 = .ok (.goto (-21), 3) := by decide +kernel
theorem dX3_init_193 : decode cX3_init 193 = .ok (.return_, 1) := by decide +kernel
theorem dX3_row_0 : decode cX3_row 0 = .ok (.iload_n 1, 1) := by decide +kernel
theorem dX3_row_1 : decode cX3_row 1 = .ok (.bipush 8, 2) := by decide +kernel
theorem dX3_row_3 : decode cX3_row 3 = .ok (.invokestatic 80, 3) := by decide +kernel
theorem dX3_row_6 : decode cX3_row 6 = .ok (.ifCond .ne 17, 3) := by decide +kernel
theorem dX3_row_9 : decode cX3_row 9 = .ok (.iload_n 2, 1) := by decide +kernel
theorem dX3_row_10 : decode cX3_row 10 = .ok (.iconst 3, 1) := by decide +kernel
theorem dX3_row_11 : decode cX3_row 11 = .ok (.invokestatic 80, 3) := by decide +kernel
theorem dX3_row_14 : decode cX3_row 14 = .ok (.ifCond .ne 9, 3) := by decide +kernel
theorem dX3_row_17 : decode cX3_row 17 = .ok (.iload_n 3, 1) := by decide +kernel
theorem dX3_row_18 : decode cX3_row 18 = .ok (.bipush 40, 2) := by decide +kernel
theorem dX3_row_20 : decode cX3_row 20 = .ok (.if_icmp .le 6, 3) := by decide +kernel
theorem dX3_row_23 : decode cX3_row 23 = .ok (.ldc 84, 2) := by decide +kernel
theorem dX3_row_25 : decode cX3_row 25 = .ok (.ireturn, 1) := by decide +kernel
theorem dX3_row_26 : decode cX3_row 26 = .ok (.iload_n 3, 1) := by decide +kernel
theorem dX3_row_27 : decode cX3_row 27 = .ok (.ifCond .ge 9, 3) := by decide +kernel
theorem dX3_row_30 : decode cX3_row 30 = .ok (.aload_n 0, 1) := by decide +kernel
theorem dX3_row_31 : decode cX3_row 31 = .ok (.iconst 4, 1) := by decide +kernel
theorem dX3_row_32 : decode cX3_row 32 = .ok (.invokevirtual 85, 3) := by decide +kernel
theorem dX3_row_35 : decode cX3_row 35 = .ok (.ireturn, 1) := by decide +kernel
theorem dX3_row_36 : decode cX3_row 36 = .ok (.aload_n 0, 1) := by decide +kernel
theorem dX3_row_37 : decode cX3_row 37 = .ok (.getfield 11, 3) := by decide +kernel
theorem dX3_row_40 : decode cX3_row 40 = .ok (.iload_n 1, 1) := by decide +kernel
theorem dX3_row_41 : decode cX3_row 41 = .ok (.aaload, 1) := by decide +kernel
theorem dX3_row_42 : decode cX3_row 42 = .ok (.iload_n 2, 1) := by decide +kernel
theorem dX3_row_43 : decode cX3_row 43 = .ok (.iload_n 3, 1) := by decide +kernel
theorem dX3_row_44 : decode cX3_row 44 = .ok (.invokevirtual 89, 3) := by decide +kernel
theorem dX3_row_47 : decode cX3_row 47 = .ok (.aload_n 0, 1) := by decide +kernel
theorem dX3_row_48 : decode cX3_row 48 = .ok (.iload_n 3, 1) := by decide +kernel
theorem dX3_row_49 : decode cX3_row 49 = .ok (.invokevirtual 93, 3) := by decide +kernel
theorem dX3_row_52 : decode cX3_row 52 = .ok (.ireturn, 1) := by decide +kernel
theorem dX3_set_0 : decode cX3_set 0 = .ok (.iload_n 1, 1) := by decide +kernel
theorem dX3_set_1 : decode cX3_set 1 = .ok (.bipush 8, 2) := by decide +kernel
theorem dX3_set_3 : decode cX3_set 3 = .ok (.invokestatic 80, 3) := by decide +kernel
theorem dX3_set_6 : decode cX3_set 6 = .ok (.ifCond .eq 6, 3) := by decide +kernel
theorem dX3_set_9 : decode cX3_set 9 = .ok (.ldc 84, 2) := by decide +kernel
theorem dX3_set_11 : decode cX3_set 11 = .ok (.ireturn, 1) := by decide +kernel
theorem dX3_set_12 : decode cX3_set 12 = .ok (.aload_n 0, 1) := by decide +kernel
theorem dX3_set_13 : decode cX3_set 13 = .ok (.getfield 11, 3) := by decide +kernel
theorem dX3_set_16 : decode cX3_set 16 = .ok (.iload_n 1, 1) := by decide +kernel
theorem dX3_set_17 : decode cX3_set 17 = .ok (.aaload, 1) := by decide +kernel
theorem dX3_set_18 : decode cX3_set 18 = .ok (.astore 4, 2) := by decide +kernel
theorem dX3_set_20 : decode cX3_set 20 = .ok (.aload 4, 2) := by decide +kernel
theorem dX3_set_22 : decode cX3_set 22 = .ok (.getfield 96, 3) := by decide +kernel
theorem dX3_set_25 : decode cX3_set 25 = .ok (.ifCond .ne 9, 3) := by decide +kernel
theorem dX3_set_28 : decode cX3_set 28 = .ok (.aload_n 0, 1) := by decide +kernel
theorem dX3_set_29 : decode cX3_set 29 = .ok (.iconst 1, 1) := by decide +kernel
theorem dX3_set_30 : decode cX3_set 30 = .ok (.invokevirtual 85, 3) := by decide +kernel
theorem dX3_set_33 : decode cX3_set 33 = .ok (.ireturn, 1) := by decide +kernel
theorem dX3_set_34 : decode cX3_set 34 = .ok (.aload 4, 2) := by decide +kernel
theorem dX3_set_36 : decode cX3_set 36 = .ok (.iload_n 2, 1) := by decide +kernel
theorem dX3_set_37 : decode cX3_set 37 = .ok (.iconst 1, 1) := by decide +kernel
theorem dX3_set_38 : decode cX3_set 38 = .ok (.invokevirtual 100, 3) := by decide +kernel
theorem dX3_set_41 : decode cX3_set 41 = .ok (.ifCond .ne 9, 3) := by decide +kernel
theorem dX3_set_44 : decode cX3_set 44 = .ok (.aload_n 0, 1) := by decide +kernel
theorem dX3_set_45 : decode cX3_set 45 = .ok (.iconst 2, 1) := by decide +kernel
theorem dX3_set_46 : decode cX3_set 46 = .ok (.invokevirtual 85, 3) := by decide +kernel
theorem dX3_set_49 : decode cX3_set 49 = .ok (.ireturn, 1) := by decide +kernel
theorem dX3_set_50 : decode cX3_set 50 = .ok (.aload 4, 2) := by decide +kernel
theorem dX3_set_52 : decode cX3_set 52 = .ok (.getfield 103, 3) := by decide +kernel
theorem dX3_set_55 : decode cX3_set 55 = .ok (.iload_n 2, 1) := by decide +kernel
theorem dX3_set_56 : decode cX3_set 56 = .ok (.aload 4, 2) := by decide +kernel
theorem dX3_set_58 : decode cX3_set 58 = .ok (.iload_n 3, 1) := by decide +kernel
theorem dX3_set_59 : decode cX3_set 59 = .ok (.invokevirtual 106, 3) := by decide +kernel
theorem dX3_set_62 : decode cX3_set 62 = .ok (.iastore, 1) := by decide +kernel
theorem dX3_set_63 : decode cX3_set 63 = .ok (.aload_n 0, 1) := by decide +kernel
theorem dX3_set_64 : decode cX3_set 64 = .ok (.aload 4, 2) := by decide +kernel
theorem dX3_set_66 : decode cX3_set 66 = .ok (.getfield 103, 3) := by decide +kernel
theorem dX3_set_69 : decode cX3_set 69 = .ok (.iload_n 2, 1) := by decide +kernel
theorem dX3_set_70 : decode cX3_set 70 = .ok (.iaload, 1) := by decide +kernel
theorem dX3_set_71 : decode cX3_set 71 = .ok (.invokevirtual 93, 3) := by decide +kernel
theorem dX3_set_74 : decode cX3_set 74 = .ok (.ireturn, 1) := by decide +kernel
theorem dX3_copy_0 : decode cX3_copy 0 = .ok (.iload_n 1, 1) := by decide +kernel
theorem dX3_copy_1 : decode cX3_copy 1 = .ok (.bipush 8, 2) := by decide +kernel
theorem dX3_copy_3 : decode cX3_copy 3 = .ok (.invokestatic 80, 3) := by decide +kernel
theorem dX3_copy_6 : decode cX3_copy 6 = .ok (.ifCond .ne 12, 3) := by decide +kernel
theorem dX3_copy_9 : decode cX3_copy 9 = .ok (.iload_n 3, 1) := by decide +kernel
theorem dX3_copy_10 : decode cX3_copy 10 = .ok (.bipush 8, 2) := by decide +kernel
theorem dX3_copy_12 : decode cX3_copy 12 = .ok (.invokestatic 80, 3) := by decide +kernel
theorem dX3_copy_15 : decode cX3_copy 15 = .ok (.ifCond .eq 6, 3) := by decide +kernel
theorem dX3_copy_18 : decode cX3_copy 18 = .ok (.ldc 84, 2) := by decide +kernel
theorem dX3_copy_20 : decode cX3_copy 20 = .ok (.ireturn, 1) := by decide +kernel
theorem dX3_copy_21 : decode cX3_copy 21 = .ok (.aload_n 0, 1) := by decide +kernel
theorem dX3_copy_22 : decode cX3_copy 22 = .ok (.getfield 11, 3) := by decide +kernel
theorem dX3_copy_25 : decode cX3_copy 25 = .ok (.iload_n 1, 1) := by decide +kernel
theorem dX3_copy_26 : decode cX3_copy 26 = .ok (.aaload, 1) := by decide +kernel
theorem dX3_copy_27 : decode cX3_copy 27 = .ok (.astore 6, 2) := by decide +kernel
theorem dX3_copy_29 : decode cX3_copy 29 = .ok (.aload_n 0, 1) := by decide +kernel
theorem dX3_copy_30 : decode cX3_copy 30 = .ok (.getfield 11, 3) := by decide +kernel
theorem dX3_copy_33 : decode cX3_copy 33 = .ok (.iload_n 3, 1) := by decide +kernel
theorem dX3_copy_34 : decode cX3_copy 34 = .ok (.aaload, 1) := by decide +kernel
theorem dX3_copy_35 : decode cX3_copy 35 = .ok (.astore 7, 2) := by decide +kernel
theorem dX3_copy_37 : decode cX3_copy 37 = .ok (.aload 6, 2) := by decide +kernel
theorem dX3_copy_39 : decode cX3_copy 39 = .ok (.getfield 96, 3) := by decide +kernel
theorem dX3_copy_42 : decode cX3_copy 42 = .ok (.ifCond .eq 11, 3) := by decide +kernel
theorem dX3_copy_45 : decode cX3_copy 45 = .ok (.aload 7, 2) := by decide +kernel
theorem dX3_copy_47 : decode cX3_copy 47 = .ok (.getfield 96, 3) := by decide +kernel
theorem dX3_copy_50 : decode cX3_copy 50 = .ok (.ifCond .ne 9, 3) := by decide +kernel
theorem dX3_copy_53 : decode cX3_copy 53 = .ok (.aload_n 0, 1) := by decide +kernel
theorem dX3_copy_54 : decode cX3_copy 54 = .ok (.iconst 1, 1) := by decide +kernel
theorem dX3_copy_55 : decode cX3_copy 55 = .ok (.invokevirtual 85, 3) := by decide +kernel
theorem dX3_copy_58 : decode cX3_copy 58 = .ok (.ireturn, 1) := by decide +kernel
theorem dX3_copy_59 : decode cX3_copy 59 = .ok (.aload 6, 2) := by decide +kernel
theorem dX3_copy_61 : decode cX3_copy 61 = .ok (.getfield 109, 3) := by decide +kernel
theorem dX3_copy_64 : decode cX3_copy 64 = .ok (.aload 7, 2) := by decide +kernel
theorem dX3_copy_66 : decode cX3_copy 66 = .ok (.getfield 109, 3) := by decide +kernel
theorem dX3_copy_69 : decode cX3_copy 69 = .ok (.if_icmp .eq 9, 3) := by decide +kernel
theorem dX3_copy_72 : decode cX3_copy 72 = .ok (.aload_n 0, 1) := by decide +kernel
theorem dX3_copy_73 : decode cX3_copy 73 = .ok (.iconst 5, 1) := by decide +kernel
theorem dX3_copy_74 : decode cX3_copy 74 = .ok (.invokevirtual 85, 3) := by decide +kernel
theorem dX3_copy_77 : decode cX3_copy 77 = .ok (.ireturn, 1) := by decide +kernel
theorem dX3_copy_78 : decode cX3_copy 78 = .ok (.aload 6, 2) := by decide +kernel
theorem dX3_copy_80 : decode cX3_copy 80 = .ok (.iload_n 2, 1) := by decide +kernel
theorem dX3_copy_81 : decode cX3_copy 81 = .ok (.iload 5, 2) := by decide +kernel
theorem dX3_copy_83 : decode cX3_copy 83 = .ok (.invokevirtual 100, 3) := by decide +kernel
theorem dX3_copy_86 : decode cX3_copy 86 = .ok (.ifCond .eq 15, 3) := by decide +kernel
theorem dX3_copy_89 : decode cX3_copy 89 = .ok (.aload 7, 2) := by decide +kernel
theorem dX3_copy_91 : decode cX3_copy 91 = .ok (.iload 4, 2) := by decide +kernel
theorem dX3_copy_93 : decode cX3_copy 93 = .ok (.iload 5, 2) := by decide +kernel
theorem dX3_copy_95 : decode cX3_copy 95 = .ok (.invokevirtual 100, 3) := by decide +kernel
theorem dX3_copy_98 : decode cX3_copy 98 = .ok (.ifCond .ne 9, 3) := by decide +kernel
theorem dX3_copy_101 : decode cX3_copy 101 = .ok (.aload_n 0, 1) := by decide +kernel
theorem dX3_copy_102 : decode cX3_copy 102 = .ok (.iconst 2, 1) := by decide +kernel
theorem dX3_copy_103 : decode cX3_copy 103 = .ok (.invokevirtual 85, 3) := by decide +kernel
theorem dX3_copy_106 : decode cX3_copy 106 = .ok (.ireturn, 1) := by decide +kernel
theorem dX3_copy_107 : decode cX3_copy 107 = .ok (.aload 6, 2) := by decide +kernel
theorem dX3_copy_109 : decode cX3_copy 109 = .ok (.getfield 103, 3) := by decide +kernel
theorem dX3_copy_112 : decode cX3_copy 112 = .ok (.iload_n 2, 1) := by decide +kernel
theorem dX3_copy_113 : decode cX3_copy 113 = .ok (.aload 7, 2) := by decide +kernel
theorem dX3_copy_115 : decode cX3_copy 115 = .ok (.getfield 103, 3) := by decide +kernel
theorem dX3_copy_118 : decode cX3_copy 118 = .ok (.iload 4, 2) := by decide +kernel
theorem dX3_copy_120 : decode cX3_copy 120 = .ok (.iload 5, 2) := by decide +kernel
theorem dX3_copy_122 : decode cX3_copy 122 = .ok (.invokestatic 112, 3) := by decide +kernel
theorem dX3_copy_125 : decode cX3_copy 125 = .ok (.aload_n 0, 1) := by decide +kernel
theorem dX3_copy_126 : decode cX3_copy 126 = .ok (.iload 5, 2) := by decide +kernel
theorem dX3_copy_128 : decode cX3_copy 128 = .ok (.invokevirtual 93, 3) := by decide +kernel
theorem dX3_copy_131 : decode cX3_copy 131 = .ok (.ireturn, 1) := by decide +kernel
theorem dX3_drop_0 : decode cX3_drop 0 = .ok (.iload_n 1, 1) := by decide +kernel
theorem dX3_drop_1 : decode cX3_drop 1 = .ok (.bipush 8, 2) := by decide +kernel
theorem dX3_drop_3 : decode cX3_drop 3 = .ok (.invokestatic 80, 3) := by decide +kernel
theorem dX3_drop_6 : decode cX3_drop 6 = .ok (.ifCond .eq 6, 3) := by decide +kernel
theorem dX3_drop_9 : decode cX3_drop 9 = .ok (.ldc 84, 2) := by decide +kernel
theorem dX3_drop_11 : decode cX3_drop 11 = .ok (.ireturn, 1) := by decide +kernel
theorem dX3_drop_12 : decode cX3_drop 12 = .ok (.aload_n 0, 1) := by decide +kernel
theorem dX3_drop_13 : decode cX3_drop 13 = .ok (.getfield 11, 3) := by decide +kernel
theorem dX3_drop_16 : decode cX3_drop 16 = .ok (.iload_n 1, 1) := by decide +kernel
theorem dX3_drop_17 : decode cX3_drop 17 = .ok (.aaload, 1) := by decide +kernel
theorem dX3_drop_18 : decode cX3_drop 18 = .ok (.astore_n 2, 1) := by decide +kernel
theorem dX3_drop_19 : decode cX3_drop 19 = .ok (.aload_n 2, 1) := by decide +kernel
theorem dX3_drop_20 : decode cX3_drop 20 = .ok (.getfield 96, 3) := by decide +kernel
theorem dX3_drop_23 : decode cX3_drop 23 = .ok (.ifCond .ne 9, 3) := by decide +kernel
theorem dX3_drop_26 : decode cX3_drop 26 = .ok (.aload_n 0, 1) := by decide +kernel
theorem dX3_drop_27 : decode cX3_drop 27 = .ok (.iconst 1, 1) := by decide +kernel
theorem dX3_drop_28 : decode cX3_drop 28 = .ok (.invokevirtual 85, 3) := by decide +kernel
theorem dX3_drop_31 : decode cX3_drop 31 = .ok (.ireturn, 1) := by decide +kernel
theorem dX3_drop_32 : decode cX3_drop 32 = .ok (.aload_n 2, 1) := by decide +kernel
theorem dX3_drop_33 : decode cX3_drop 33 = .ok (.iconst 0, 1) := by decide +kernel
theorem dX3_drop_34 : decode cX3_drop 34 = .ok (.putfield 96, 3) := by decide +kernel
theorem dX3_drop_37 : decode cX3_drop 37 = .ok (.aload_n 0, 1) := by decide +kernel
theorem dX3_drop_38 : decode cX3_drop 38 = .ok (.aload_n 2, 1) := by decide +kernel
theorem dX3_drop_39 : decode cX3_drop 39 = .ok (.getfield 118, 3) := by decide +kernel
theorem dX3_drop_42 : decode cX3_drop 42 = .ok (.invokevirtual 93, 3) := by decide +kernel
theorem dX3_drop_45 : decode cX3_drop 45 = .ok (.ireturn, 1) := by decide +kernel
theorem dX3_feed_0 : decode cX3_feed 0 = .ok (.iload_n 1, 1) := by decide +kernel
theorem dX3_feed_1 : decode cX3_feed 1 = .ok (.sipush 256, 3) := by decide +kernel
theorem dX3_feed_4 : decode cX3_feed 4 = .ok (.invokestatic 80, 3) := by decide +kernel
theorem dX3_feed_7 : decode cX3_feed 7 = .ok (.ifCond .eq 6, 3) := by decide +kernel
theorem dX3_feed_10 : decode cX3_feed 10 = .ok (.ldc 84, 2) := by decide +kernel
theorem dX3_feed_12 : decode cX3_feed 12 = .ok (.ireturn, 1) := by decide +kernel
theorem dX3_feed_13 : decode cX3_feed 13 = .ok (.aload_n 0, 1) := by decide +kernel
theorem dX3_feed_14 : decode cX3_feed 14 = .ok (.getfield 18, 3) := by decide +kernel
theorem dX3_feed_17 : decode cX3_feed 17 = .ok (.getfield 121, 3) := by decide +kernel
theorem dX3_feed_20 : decode cX3_feed 20 = .ok (.bipush 120, 2) := by decide +kernel
theorem dX3_feed_22 : decode cX3_feed 22 = .ok (.if_icmp .lt 6, 3) := by decide +kernel
theorem dX3_feed_25 : decode cX3_feed 25 = .ok (.ldc 122, 2) := by decide +kernel
theorem dX3_feed_27 : decode cX3_feed 27 = .ok (.ireturn, 1) := by decide +kernel
theorem dX3_feed_28 : decode cX3_feed 28 = .ok (.aload_n 0, 1) := by decide +kernel
theorem dX3_feed_29 : decode cX3_feed 29 = .ok (.getfield 18, 3) := by decide +kernel
theorem dX3_feed_32 : decode cX3_feed 32 = .ok (.getfield 123, 3) := by decide +kernel
theorem dX3_feed_35 : decode cX3_feed 35 = .ok (.aload_n 0, 1) := by decide +kernel
theorem dX3_feed_36 : decode cX3_feed 36 = .ok (.getfield 18, 3) := by decide +kernel
theorem dX3_feed_39 : decode cX3_feed 39 = .ok (.getfield 121, 3) := by decide +kernel
theorem dX3_feed_42 : decode cX3_feed 42 = .ok (.iload_n 1, 1) := by decide +kernel
theorem dX3_feed_43 : decode cX3_feed 43 = .ok (.iastore, 1) := by decide +kernel
theorem dX3_feed_44 : decode cX3_feed 44 = .ok (.aload_n 0, 1) := by decide +kernel
theorem dX3_feed_45 : decode cX3_feed 45 = .ok (.getfield 18, 3) := by decide +kernel
theorem dX3_feed_48 : decode cX3_feed 48 = .ok (.dup, 1) := by decide +kernel
theorem dX3_feed_49 : decode cX3_feed 49 = .ok (.getfield 121, 3) := by decide +kernel
theorem dX3_feed_52 : decode cX3_feed 52 = .ok (.iconst 1, 1) := by decide +kernel
theorem dX3_feed_53 : decode cX3_feed 53 = .ok (.iadd, 1) := by decide +kernel
theorem dX3_feed_54 : decode cX3_feed 54 = .ok (.putfield 121, 3) := by decide +kernel
theorem dX3_feed_57 : decode cX3_feed 57 = .ok (.aload_n 0, 1) := by decide +kernel
theorem dX3_feed_58 : decode cX3_feed 58 = .ok (.getfield 18, 3) := by decide +kernel
theorem dX3_feed_61 : decode cX3_feed 61 = .ok (.getfield 121, 3) := by decide +kernel
theorem dX3_feed_64 : decode cX3_feed 64 = .ok (.ireturn, 1) := by decide +kernel
theorem dX3_kitchen_0 : decode cX3_kitchen 0 = .ok (.aload_n 0, 1) := by decide +kernel
theorem dX3_kitchen_1 : decode cX3_kitchen 1 = .ok (.getfield 18, 3) := by decide +kernel
theorem dX3_kitchen_4 : decode cX3_kitchen 4 = .ok (.aload_n 0, 1) := by decide +kernel
theorem dX3_kitchen_5 : decode cX3_kitchen 5 = .ok (.getfield 29, 3) := by decide +kernel
theorem dX3_kitchen_8 : decode cX3_kitchen 8 = .ok (.invokevirtual 126, 3) := by decide +kernel
theorem dX3_kitchen_11 : decode cX3_kitchen 11 = .ok (.aload_n 0, 1) := by decide +kernel
theorem dX3_kitchen_12 : decode cX3_kitchen 12 = .ok (.getfield 18, 3) := by decide +kernel
theorem dX3_kitchen_15 : decode cX3_kitchen 15 = .ok (.iconst 0, 1) := by decide +kernel
theorem dX3_kitchen_16 : decode cX3_kitchen 16 = .ok (.putfield 121, 3) := by decide +kernel
theorem dX3_kitchen_19 : decode cX3_kitchen 19 = .ok (.aload_n 0, 1) := by decide +kernel
theorem dX3_kitchen_20 : decode cX3_kitchen 20 = .ok (.getfield 18, 3) := by decide +kernel
theorem dX3_kitchen_23 : decode cX3_kitchen 23 = .ok (.getfield 130, 3) := by decide +kernel
theorem dX3_kitchen_26 : decode cX3_kitchen 26 = .ok (.ifCond .eq 25, 3) := by decide +kernel
theorem dX3_kitchen_29 : decode cX3_kitchen 29 = .ok (.aload_n 0, 1) := by decide +kernel
theorem dX3_kitchen_30 : decode cX3_kitchen 30 = .ok (.aload_n 0, 1) := by decide +kernel
theorem dX3_kitchen_31 : decode cX3_kitchen 31 = .ok (.getfield 18, 3) := by decide +kernel
theorem dX3_kitchen_34 : decode cX3_kitchen 34 = .ok (.getfield 130, 3) := by decide +kernel
theorem dX3_kitchen_37 : decode cX3_kitchen 37 = .ok (.putfield 73, 3) := by decide +kernel
theorem dX3_kitchen_40 : decode cX3_kitchen 40 = .ok (.ldc 133, 2) := by decide +kernel
theorem dX3_kitchen_42 : decode cX3_kitchen 42 = .ok (.aload_n 0, 1) := by decide +kernel
theorem dX3_kitchen_43 : decode cX3_kitchen 43 = .ok (.getfield 18, 3) := by decide +kernel
theorem dX3_kitchen_46 : decode cX3_kitchen 46 = .ok (.getfield 134, 3) := by decide +kernel
theorem dX3_kitchen_49 : decode cX3_kitchen 49 = .ok (.isub, 1) := by decide +kernel
theorem dX3_kitchen_50 : decode cX3_kitchen 50 = .ok (.ireturn, 1) := by decide +kernel
theorem dX3_kitchen_51 : decode cX3_kitchen 51 = .ok (.aload_n 0, 1) := by decide +kernel
theorem dX3_kitchen_52 : decode cX3_kitchen 52 = .ok (.getfield 25, 3) := by decide +kernel
theorem dX3_kitchen_55 : decode cX3_kitchen 55 = .ok (.aload_n 0, 1) := by decide +kernel
theorem dX3_kitchen_56 : decode cX3_kitchen 56 = .ok (.getfield 29, 3) := by decide +kernel
theorem dX3_kitchen_59 : decode cX3_kitchen 59 = .ok (.invokevirtual 137, 3) := by decide +kernel
theorem dX3_kitchen_62 : decode cX3_kitchen 62 = .ok (.aload_n 0, 1) := by decide +kernel
theorem dX3_kitchen_63 : decode cX3_kitchen 63 = .ok (.iconst 0, 1) := by decide +kernel
theorem dX3_kitchen_64 : decode cX3_kitchen 64 = .ok (.putfield 41, 3) := by decide +kernel
theorem dX3_kitchen_67 : decode cX3_kitchen 67 = .ok (.aload_n 0, 1) := by decide +kernel
theorem dX3_kitchen_68 : decode cX3_kitchen 68 = .ok (.getfield 25, 3) := by decide +kernel
theorem dX3_kitchen_71 : decode cX3_kitchen 71 = .ok (.getfield 140, 3) := by decide +kernel
theorem dX3_kitchen_74 : decode cX3_kitchen 74 = .ok (.ireturn, 1) := by decide +kernel
theorem dX3_fault_0 : decode cX3_fault 0 = .ok (.aload_n 0, 1) := by decide +kernel
theorem dX3_fault_1 : decode cX3_fault 1 = .ok (.getfield 73, 3) := by decide +kernel
theorem dX3_fault_4 : decode cX3_fault 4 = .ok (.ireturn, 1) := by decide +kernel
theorem dX3_bar_0 : decode cX3_bar 0 = .ok (.aload_n 0, 1) := by decide +kernel
theorem dX3_bar_1 : decode cX3_bar 1 = .ok (.getfield 25, 3) := by decide +kernel
theorem dX3_bar_4 : decode cX3_bar 4 = .ok (.getfield 143, 3) := by decide +kernel
theorem dX3_bar_7 : decode cX3_bar 7 = .ok (.ifCond .ne 6, 3) := by decide +kernel
theorem dX3_bar_10 : decode cX3_bar 10 = .ok (.ldc 146, 2) := by decide +kernel
theorem dX3_bar_12 : decode cX3_bar 12 = .ok (.ireturn, 1) := by decide +kernel
theorem dX3_bar_13 : decode cX3_bar 13 = .ok (.aload_n 0, 1) := by decide +kernel
theorem dX3_bar_14 : decode cX3_bar 14 = .ok (.getfield 48, 3) := by decide +kernel
theorem dX3_bar_17 : decode cX3_bar 17 = .ok (.iconst 0, 1) := by decide +kernel
theorem dX3_bar_18 : decode cX3_bar 18 = .ok (.iload_n 1, 1) := by decide +kernel
theorem dX3_bar_19 : decode cX3_bar 19 = .ok (.iastore, 1) := by decide +kernel
theorem dX3_bar_20 : decode cX3_bar 20 = .ok (.aload_n 0, 1) := by decide +kernel
theorem dX3_bar_21 : decode cX3_bar 21 = .ok (.getfield 48, 3) := by decide +kernel
theorem dX3_bar_24 : decode cX3_bar 24 = .ok (.iconst 1, 1) := by decide +kernel
theorem dX3_bar_25 : decode cX3_bar 25 = .ok (.iload_n 2, 1) := by decide +kernel
theorem dX3_bar_26 : decode cX3_bar 26 = .ok (.iastore, 1) := by decide +kernel
theorem dX3_bar_27 : decode cX3_bar 27 = .ok (.aload_n 0, 1) := by decide +kernel
theorem dX3_bar_28 : decode cX3_bar 28 = .ok (.getfield 48, 3) := by decide +kernel
theorem dX3_bar_31 : decode cX3_bar 31 = .ok (.iconst 2, 1) := by decide +kernel
theorem dX3_bar_32 : decode cX3_bar 32 = .ok (.iload_n 3, 1) := by decide +kernel
theorem dX3_bar_33 : decode cX3_bar 33 = .ok (.iastore, 1) := by decide +kernel
theorem dX3_bar_34 : decode cX3_bar 34 = .ok (.iconst 0, 1) := by decide +kernel
theorem dX3_bar_35 : decode cX3_bar 35 = .ok (.istore 4, 2) := by decide +kernel
theorem dX3_bar_37 : decode cX3_bar 37 = .ok (.iload 4, 2) := by decide +kernel
theorem dX3_bar_39 : decode cX3_bar 39 = .ok (.iconst 3, 1) := by decide +kernel
theorem dX3_bar_40 : decode cX3_bar 40 = .ok (.if_icmp .ge 51, 3) := by decide +kernel
theorem dX3_bar_43 : decode cX3_bar 43 = .ok (.aload_n 0, 1) := by decide +kernel
theorem dX3_bar_44 : decode cX3_bar 44 = .ok (.getfield 48, 3) := by decide +kernel
theorem dX3_bar_47 : decode cX3_bar 47 = .ok (.iload 4, 2) := by decide +kernel
theorem dX3_bar_49 : decode cX3_bar 49 = .ok (.iaload, 1) := by decide +kernel
theorem dX3_bar_50 : decode cX3_bar 50 = .ok (.bipush 8, 2) := by decide +kernel
theorem dX3_bar_52 : decode cX3_bar 52 = .ok (.invokestatic 80, 3) := by decide +kernel
theorem dX3_bar_55 : decode cX3_bar 55 = .ok (.ifCond .ne 27, 3) := by decide +kernel
theorem dX3_bar_58 : decode cX3_bar 58 = .ok (.iload 4, 2) := by decide +kernel
theorem dX3_bar_60 : decode cX3_bar 60 = .ok (.aload_n 0, 1) := by decide +kernel
theorem dX3_bar_61 : decode cX3_bar 61 = .ok (.getfield 25, 3) := by decide +kernel
theorem dX3_bar_64 : decode cX3_bar 64 = .ok (.getfield 147, 3) := by decide +kernel
theorem dX3_bar_67 : decode cX3_bar 67 = .ok (.if_icmp .lt 18, 3) := by decide +kernel
theorem dX3_bar_70 : decode cX3_bar 70 = .ok (.aload_n 0, 1) := by decide +kernel
theorem dX3_bar_71 : decode cX3_bar 71 = .ok (.getfield 48, 3) := by decide +kernel
theorem dX3_bar_74 : decode cX3_bar 74 = .ok (.iload 4, 2) := by decide +kernel
theorem dX3_bar_76 : decode cX3_bar 76 = .ok (.iaload, 1) := by decide +kernel
theorem dX3_bar_77 : decode cX3_bar 77 = .ok (.bipush 7, 2) := by decide +kernel
theorem dX3_bar_79 : decode cX3_bar 79 = .ok (.if_icmp .eq 6, 3) := by decide +kernel
theorem dX3_bar_82 : decode cX3_bar 82 = .ok (.ldc 84, 2) := by decide +kernel
theorem dX3_bar_84 : decode cX3_bar 84 = .ok (.ireturn, 1) := by decide +kernel
theorem dX3_bar_85 : decode cX3_bar 85 = .ok (.iinc 4 1, 3) := by decide +kernel
theorem dX3_bar_88 : decode cX3_bar 88 = .ok (.goto (-51), 3) := by decide +kernel
theorem dX3_bar_91 : decode cX3_bar 91 = .ok (.iconst 0, 1) := by decide +kernel
theorem dX3_bar_92 : decode cX3_bar 92 = .ok (.istore 4, 2) := by decide +kernel
theorem dX3_bar_94 : decode cX3_bar 94 = .ok (.iload 4, 2) := by decide +kernel
theorem dX3_bar_96 : decode cX3_bar 96 = .ok (.aload_n 0, 1) := by decide +kernel
theorem dX3_bar_97 : decode cX3_bar 97 = .ok (.getfield 25, 3) := by decide +kernel
theorem dX3_bar_100 : decode cX3_bar 100 = .ok (.getfield 147, 3) := by decide +kernel
theorem dX3_bar_103 : decode cX3_bar 103 = .ok (.if_icmp .ge 31, 3) := by decide +kernel
theorem dX3_bar_106 : decode cX3_bar 106 = .ok (.aload_n 0, 1) := by decide +kernel
theorem dX3_bar_107 : decode cX3_bar 107 = .ok (.getfield 25, 3) := by decide +kernel
theorem dX3_bar_110 : decode cX3_bar 110 = .ok (.iload 4, 2) := by decide +kernel
theorem dX3_bar_112 : decode cX3_bar 112 = .ok (.aload_n 0, 1) := by decide +kernel
theorem dX3_bar_113 : decode cX3_bar 113 = .ok (.getfield 48, 3) := by decide +kernel
theorem dX3_bar_116 : decode cX3_bar 116 = .ok (.iload 4, 2) := by decide +kernel
theorem dX3_bar_118 : decode cX3_bar 118 = .ok (.iaload, 1) := by decide +kernel
theorem dX3_bar_119 : decode cX3_bar 119 = .ok (.invokevirtual 150, 3) := by decide +kernel
theorem dX3_bar_122 : decode cX3_bar 122 = .ok (.ifCond .ne 6, 3) := by decide +kernel
theorem dX3_bar_125 : decode cX3_bar 125 = .ok (.ldc 146, 2) := by decide +kernel
theorem dX3_bar_127 : decode cX3_bar 127 = .ok (.ireturn, 1) := by decide +kernel
theorem dX3_bar_128 : decode cX3_bar 128 = .ok (.iinc 4 1, 3) := by decide +kernel
theorem dX3_bar_131 : decode cX3_bar 131 = .ok (.goto (-37), 3) := by decide +kernel
theorem dX3_bar_134 : decode cX3_bar 134 = .ok (.aload_n 0, 1) := by decide +kernel
theorem dX3_bar_135 : decode cX3_bar 135 = .ok (.invokevirtual 153, 3) := by decide +kernel
theorem dX3_bar_138 : decode cX3_bar 138 = .ok (.aload_n 0, 1) := by decide +kernel
theorem dX3_bar_139 : decode cX3_bar 139 = .ok (.getfield 25, 3) := by decide +kernel
theorem dX3_bar_142 : decode cX3_bar 142 = .ok (.aload_n 0, 1) := by decide +kernel
theorem dX3_bar_143 : decode cX3_bar 143 = .ok (.getfield 48, 3) := by decide +kernel
theorem dX3_bar_146 : decode cX3_bar 146 = .ok (.invokevirtual 156, 3) := by decide +kernel
theorem dX3_bar_149 : decode cX3_bar 149 = .ok (.aload_n 0, 1) := by decide +kernel
theorem dX3_bar_150 : decode cX3_bar 150 = .ok (.getfield 25, 3) := by decide +kernel
theorem dX3_bar_153 : decode cX3_bar 153 = .ok (.invokevirtual 160, 3) := by decide +kernel
theorem dX3_bar_156 : decode cX3_bar 156 = .ok (.ireturn, 1) := by decide +kernel
theorem dX3_window_0 : decode cX3_window 0 = .ok (.iload_n 1, 1) := by decide +kernel
theorem dX3_window_1 : decode cX3_window 1 = .ok (.aload_n 0, 1) := by decide +kernel
theorem dX3_window_2 : decode cX3_window 2 = .ok (.getfield 25, 3) := by decide +kernel
theorem dX3_window_5 : decode cX3_window 5 = .ok (.getfield 140, 3) := by decide +kernel
theorem dX3_window_8 : decode cX3_window 8 = .ok (.invokestatic 80, 3) := by decide +kernel
theorem dX3_window_11 : decode cX3_window 11 = .ok (.ifCond .ne 25, 3) := by decide +kernel
theorem dX3_window_14 : decode cX3_window 14 = .ok (.iload_n 2, 1) := by decide +kernel
theorem dX3_window_15 : decode cX3_window 15 = .ok (.aload_n 0, 1) := by decide +kernel
theorem dX3_window_16 : decode cX3_window 16 = .ok (.getfield 25, 3) := by decide +kernel
theorem dX3_window_19 : decode cX3_window 19 = .ok (.getfield 147, 3) := by decide +kernel
theorem dX3_window_22 : decode cX3_window 22 = .ok (.invokestatic 80, 3) := by decide +kernel
theorem dX3_window_25 : decode cX3_window 25 = .ok (.ifCond .ne 11, 3) := by decide +kernel
theorem dX3_window_28 : decode cX3_window 28 = .ok (.iload_n 3, 1) := by decide +kernel
theorem dX3_window_29 : decode cX3_window 29 = .ok (.iconst 2, 1) := by decide +kernel
theorem dX3_window_30 : decode cX3_window 30 = .ok (.invokestatic 80, 3) := by decide +kernel
theorem dX3_window_33 : decode cX3_window 33 = .ok (.ifCond .eq 6, 3) := by decide +kernel
theorem dX3_window_36 : decode cX3_window 36 = .ok (.ldc 84, 2) := by decide +kernel
theorem dX3_window_38 : decode cX3_window 38 = .ok (.ireturn, 1) := by decide +kernel
theorem dX3_window_39 : decode cX3_window 39 = .ok (.aload_n 0, 1) := by decide +kernel
theorem dX3_window_40 : decode cX3_window 40 = .ok (.getfield 25, 3) := by decide +kernel
theorem dX3_window_43 : decode cX3_window 43 = .ok (.getfield 164, 3) := by decide +kernel
theorem dX3_window_46 : decode cX3_window 46 = .ok (.iload_n 1, 1) := by decide +kernel
theorem dX3_window_47 : decode cX3_window 47 = .ok (.iaload, 1) := by decide +kernel
theorem dX3_window_48 : decode cX3_window 48 = .ok (.iload_n 2, 1) := by decide +kernel
theorem dX3_window_49 : decode cX3_window 49 = .ok (.ishr, 1) := by decide +kernel
theorem dX3_window_50 : decode cX3_window 50 = .ok (.iconst 1, 1) := by decide +kernel
theorem dX3_window_51 : decode cX3_window 51 = .ok (.iand, 1) := by decide +kernel
theorem dX3_window_52 : decode cX3_window 52 = .ok (.iload_n 3, 1) := by decide +kernel
theorem dX3_window_53 : decode cX3_window 53 = .ok (.if_icmp .ne 6, 3) := by decide +kernel
theorem dX3_window_56 : decode cX3_window 56 = .ok (.ldc 146, 2) := by decide +kernel
theorem dX3_window_58 : decode cX3_window 58 = .ok (.ireturn, 1) := by decide +kernel
theorem dX3_window_59 : decode cX3_window 59 = .ok (.aload_n 0, 1) := by decide +kernel
theorem dX3_window_60 : decode cX3_window 60 = .ok (.invokevirtual 153, 3) := by decide +kernel
theorem dX3_window_63 : decode cX3_window 63 = .ok (.aload_n 0, 1) := by decide +kernel
theorem dX3_window_64 : decode cX3_window 64 = .ok (.getfield 25, 3) := by decide +kernel
theorem dX3_window_67 : decode cX3_window 67 = .ok (.getfield 164, 3) := by decide +kernel
theorem dX3_window_70 : decode cX3_window 70 = .ok (.iload_n 1, 1) := by decide +kernel
theorem dX3_window_71 : decode cX3_window 71 = .ok (.dup2, 1) := by decide +kernel
theorem dX3_window_72 : decode cX3_window 72 = .ok (.iaload, 1) := by decide +kernel
theorem dX3_window_73 : decode cX3_window 73 = .ok (.iconst 1, 1) := by decide +kernel
theorem dX3_window_74 : decode cX3_window 74 = .ok (.iload_n 2, 1) := by decide +kernel
theorem dX3_window_75 : decode cX3_window 75 = .ok (.ishl, 1) := by decide +kernel
theorem dX3_window_76 : decode cX3_window 76 = .ok (.ixor, 1) := by decide +kernel
theorem dX3_window_77 : decode cX3_window 77 = .ok (.iastore, 1) := by decide +kernel
theorem dX3_window_78 : decode cX3_window 78 = .ok (.iconst 1, 1) := by decide +kernel
theorem dX3_window_79 : decode cX3_window 79 = .ok (.ireturn, 1) := by decide +kernel
theorem dX3_undo_0 : decode cX3_undo 0 = .ok (.aload_n 0, 1) := by decide +kernel
theorem dX3_undo_1 : decode cX3_undo 1 = .ok (.getfield 41, 3) := by decide +kernel
theorem dX3_undo_4 : decode cX3_undo 4 = .ok (.ifCond .gt 6, 3) := by decide +kernel
theorem dX3_undo_7 : decode cX3_undo 7 = .ok (.ldc 146, 2) := by decide +kernel
theorem dX3_undo_9 : decode cX3_undo 9 = .ok (.ireturn, 1) := by decide +kernel
theorem dX3_undo_10 : decode cX3_undo 10 = .ok (.aload_n 0, 1) := by decide +kernel
theorem dX3_undo_11 : decode cX3_undo 11 = .ok (.dup, 1) := by decide +kernel
theorem dX3_undo_12 : decode cX3_undo 12 = .ok (.getfield 41, 3) := by decide +kernel
theorem dX3_undo_15 : decode cX3_undo 15 = .ok (.iconst 1, 1) := by decide +kernel
theorem dX3_undo_16 : decode cX3_undo 16 = .ok (.isub, 1) := by decide +kernel
theorem dX3_undo_17 : decode cX3_undo 17 = .ok (.putfield 41, 3) := by decide +kernel
theorem dX3_undo_20 : decode cX3_undo 20 = .ok (.aload_n 0, 1) := by decide +kernel
theorem dX3_undo_21 : decode cX3_undo 21 = .ok (.aload_n 0, 1) := by decide +kernel
theorem dX3_undo_22 : decode cX3_undo 22 = .ok (.getfield 45, 3) := by decide +kernel
theorem dX3_undo_25 : decode cX3_undo 25 = .ok (.ifCond .ne 8, 3) := by decide +kernel
theorem dX3_undo_28 : decode cX3_undo 28 = .ok (.bipush 23, 2) := by decide +kernel
theorem dX3_undo_30 : decode cX3_undo 30 = .ok (.goto 9, 3) := by decide +kernel
theorem dX3_undo_33 : decode cX3_undo 33 = .ok (.aload_n 0, 1) := by decide +kernel
theorem dX3_undo_34 : decode cX3_undo 34 = .ok (.getfield 45, 3) := by decide +kernel
theorem dX3_undo_37 : decode cX3_undo 37 = .ok (.iconst 1, 1) := by decide +kernel
theorem dX3_undo_38 : decode cX3_undo 38 = .ok (.isub, 1) := by decide +kernel
theorem dX3_undo_39 : decode cX3_undo 39 = .ok (.putfield 45, 3) := by decide +kernel
theorem dX3_undo_42 : decode cX3_undo 42 = .ok (.aload_n 0, 1) := by decide +kernel
theorem dX3_undo_43 : decode cX3_undo 43 = .ok (.getfield 25, 3) := by decide +kernel
theorem dX3_undo_46 : decode cX3_undo 46 = .ok (.aload_n 0, 1) := by decide +kernel
theorem dX3_undo_47 : decode cX3_undo 47 = .ok (.getfield 38, 3) := by decide +kernel
theorem dX3_undo_50 : decode cX3_undo 50 = .ok (.aload_n 0, 1) := by decide +kernel
theorem dX3_undo_51 : decode cX3_undo 51 = .ok (.getfield 45, 3) := by decide +kernel
theorem dX3_undo_54 : decode cX3_undo 54 = .ok (.aaload, 1) := by decide +kernel
theorem dX3_undo_55 : decode cX3_undo 55 = .ok (.invokevirtual 167, 3) := by decide +kernel
theorem dX3_undo_58 : decode cX3_undo 58 = .ok (.aload_n 0, 1) := by decide +kernel
theorem dX3_undo_59 : decode cX3_undo 59 = .ok (.getfield 41, 3) := by decide +kernel
theorem dX3_undo_62 : decode cX3_undo 62 = .ok (.ireturn, 1) := by decide +kernel
theorem dX3_pan_0 : decode cX3_pan 0 = .ok (.iload_n 1, 1) := by decide +kernel
theorem dX3_pan_1 : decode cX3_pan 1 = .ok (.aload_n 0, 1) := by decide +kernel
theorem dX3_pan_2 : decode cX3_pan 2 = .ok (.getfield 25, 3) := by decide +kernel
theorem dX3_pan_5 : decode cX3_pan 5 = .ok (.getfield 140, 3) := by decide +kernel
theorem dX3_pan_8 : decode cX3_pan 8 = .ok (.invokestatic 80, 3) := by decide +kernel
theorem dX3_pan_11 : decode cX3_pan 11 = .ok (.ifCond .eq 6, 3) := by decide +kernel
theorem dX3_pan_14 : decode cX3_pan 14 = .ok (.ldc 84, 2) := by decide +kernel
theorem dX3_pan_16 : decode cX3_pan 16 = .ok (.ireturn, 1) := by decide +kernel
theorem dX3_pan_17 : decode cX3_pan 17 = .ok (.iload_n 2, 1) := by decide +kernel
theorem dX3_pan_18 : decode cX3_pan 18 = .ok (.tableswitch 105 0 5 #[38, 48, 58, 68, 78, 95], 38) := by decide +kernel
theorem dX3_pan_56 : decode cX3_pan 56 = .ok (.aload_n 0, 1) := by decide +kernel
theorem dX3_pan_57 : decode cX3_pan 57 = .ok (.getfield 25, 3) := by decide +kernel
theorem dX3_pan_60 : decode cX3_pan 60 = .ok (.getfield 170, 3) := by decide +kernel
theorem dX3_pan_63 : decode cX3_pan 63 = .ok (.iload_n 1, 1) := by decide +kernel
theorem dX3_pan_64 : decode cX3_pan 64 = .ok (.iaload, 1) := by decide +kernel
theorem dX3_pan_65 : decode cX3_pan 65 = .ok (.ireturn, 1) := by decide +kernel
theorem dX3_pan_66 : decode cX3_pan 66 = .ok (.aload_n 0, 1) := by decide +kernel
theorem dX3_pan_67 : decode cX3_pan 67 = .ok (.getfield 25, 3) := by decide +kernel
theorem dX3_pan_70 : decode cX3_pan 70 = .ok (.getfield 173, 3) := by decide +kernel
theorem dX3_pan_73 : decode cX3_pan 73 = .ok (.iload_n 1, 1) := by decide +kernel
theorem dX3_pan_74 : decode cX3_pan 74 = .ok (.iaload, 1) := by decide +kernel
theorem dX3_pan_75 : decode cX3_pan 75 = .ok (.ireturn, 1) := by decide +kernel
theorem dX3_pan_76 : decode cX3_pan 76 = .ok (.aload_n 0, 1) := by decide +kernel
theorem dX3_pan_77 : decode cX3_pan 77 = .ok (.getfield 25, 3) := by decide +kernel
theorem dX3_pan_80 : decode cX3_pan 80 = .ok (.getfield 164, 3) := by decide +kernel
theorem dX3_pan_83 : decode cX3_pan 83 = .ok (.iload_n 1, 1) := by decide +kernel
theorem dX3_pan_84 : decode cX3_pan 84 = .ok (.iaload, 1) := by decide +kernel
theorem dX3_pan_85 : decode cX3_pan 85 = .ok (.ireturn, 1) := by decide +kernel
theorem dX3_pan_86 : decode cX3_pan 86 = .ok (.aload_n 0, 1) := by decide +kernel
theorem dX3_pan_87 : decode cX3_pan 87 = .ok (.getfield 25, 3) := by decide +kernel
theorem dX3_pan_90 : decode cX3_pan 90 = .ok (.getfield 176, 3) := by decide +kernel
theorem dX3_pan_93 : decode cX3_pan 93 = .ok (.iload_n 1, 1) := by decide +kernel
theorem dX3_pan_94 : decode cX3_pan 94 = .ok (.iaload, 1) := by decide +kernel
theorem dX3_pan_95 : decode cX3_pan 95 = .ok (.ireturn, 1) := by decide +kernel
theorem dX3_pan_96 : decode cX3_pan 96 = .ok (.aload_n 0, 1) := by decide +kernel
theorem dX3_pan_97 : decode cX3_pan 97 = .ok (.getfield 25, 3) := by decide +kernel
theorem dX3_pan_100 : decode cX3_pan 100 = .ok (.iload_n 1, 1) := by decide +kernel
theorem dX3_pan_101 : decode cX3_pan 101 = .ok (.invokevirtual 179, 3) := by decide +kernel
theorem dX3_pan_104 : decode cX3_pan 104 = .ok (.ifCond .eq 7, 3) := by decide +kernel
theorem dX3_pan_107 : decode cX3_pan 107 = .ok (.iconst 1, 1) := by decide +kernel
theorem dX3_pan_108 : decode cX3_pan 108 = .ok (.goto 4, 3) := by decide +kernel
theorem dX3_pan_111 : decode cX3_pan 111 = .ok (.iconst 0, 1) := by decide +kernel
theorem dX3_pan_112 : decode cX3_pan 112 = .ok (.ireturn, 1) := by decide +kernel
theorem dX3_pan_113 : decode cX3_pan 113 = .ok (.aload_n 0, 1) := by decide +kernel
theorem dX3_pan_114 : decode cX3_pan 114 = .ok (.getfield 25, 3) := by decide +kernel
theorem dX3_pan_117 : decode cX3_pan 117 = .ok (.getfield 183, 3) := by decide +kernel
theorem dX3_pan_120 : decode cX3_pan 120 = .ok (.iload_n 1, 1) := by decide +kernel
theorem dX3_pan_121 : decode cX3_pan 121 = .ok (.iaload, 1) := by decide +kernel
theorem dX3_pan_122 : decode cX3_pan 122 = .ok (.ireturn, 1) := by decide +kernel
theorem dX3_pan_123 : decode cX3_pan 123 = .ok (.ldc 84, 2) := by decide +kernel
theorem dX3_pan_125 : decode cX3_pan 125 = .ok (.ireturn, 1) := by decide +kernel
theorem dX3_singer_0 : decode cX3_singer 0 = .ok (.iload_n 1, 1) := by decide +kernel
theorem dX3_singer_1 : decode cX3_singer 1 = .ok (.aload_n 0, 1) := by decide +kernel
theorem dX3_singer_2 : decode cX3_singer 2 = .ok (.getfield 25, 3) := by decide +kernel
theorem dX3_singer_5 : decode cX3_singer 5 = .ok (.getfield 147, 3) := by decide +kernel
theorem dX3_singer_8 : decode cX3_singer 8 = .ok (.invokestatic 80, 3) := by decide +kernel
theorem dX3_singer_11 : decode cX3_singer 11 = .ok (.ifCond .eq 6, 3) := by decide +kernel
theorem dX3_singer_14 : decode cX3_singer 14 = .ok (.ldc 84, 2) := by decide +kernel
theorem dX3_singer_16 : decode cX3_singer 16 = .ok (.ireturn, 1) := by decide +kernel
theorem dX3_singer_17 : decode cX3_singer 17 = .ok (.iload_n 2, 1) := by decide +kernel
theorem dX3_singer_18 : decode cX3_singer 18 = .ok (.tableswitch 70 0 3 #[30, 40, 50, 60], 30) := by decide +kernel
theorem dX3_singer_48 : decode cX3_singer 48 = .ok (.aload_n 0, 1) := by decide +kernel
theorem dX3_singer_49 : decode cX3_singer 49 = .ok (.getfield 25, 3) := by decide +kernel
theorem dX3_singer_52 : decode cX3_singer 52 = .ok (.getfield 186, 3) := by decide +kernel
theorem dX3_singer_55 : decode cX3_singer 55 = .ok (.iload_n 1, 1) := by decide +kernel
theorem dX3_singer_56 : decode cX3_singer 56 = .ok (.iaload, 1) := by decide +kernel
theorem dX3_singer_57 : decode cX3_singer 57 = .ok (.ireturn, 1) := by decide +kernel
theorem dX3_singer_58 : decode cX3_singer 58 = .ok (.aload_n 0, 1) := by decide +kernel
theorem dX3_singer_59 : decode cX3_singer 59 = .ok (.getfield 25, 3) := by decide +kernel
theorem dX3_singer_62 : decode cX3_singer 62 = .ok (.getfield 189, 3) := by decide +kernel
theorem dX3_singer_65 : decode cX3_singer 65 = .ok (.iload_n 1, 1) := by decide +kernel
theorem dX3_singer_66 : decode cX3_singer 66 = .ok (.iaload, 1) := by decide +kernel
theorem dX3_singer_67 : decode cX3_singer 67 = .ok (.ireturn, 1) := by decide +kernel
theorem dX3_singer_68 : decode cX3_singer 68 = .ok (.aload_n 0, 1) := by decide +kernel
theorem dX3_singer_69 : decode cX3_singer 69 = .ok (.getfield 25, 3) := by decide +kernel
theorem dX3_singer_72 : decode cX3_singer 72 = .ok (.getfield 192, 3) := by decide +kernel
theorem dX3_singer_75 : decode cX3_singer 75 = .ok (.iload_n 1, 1) := by decide +kernel
theorem dX3_singer_76 : decode cX3_singer 76 = .ok (.iaload, 1) := by decide +kernel
theorem dX3_singer_77 : decode cX3_singer 77 = .ok (.ireturn, 1) := by decide +kernel
theorem dX3_singer_78 : decode cX3_singer 78 = .ok (.aload_n 0, 1) := by decide +kernel
theorem dX3_singer_79 : decode cX3_singer 79 = .ok (.getfield 25, 3) := by decide +kernel
theorem dX3_singer_82 : decode cX3_singer 82 = .ok (.getfield 195, 3) := by decide +kernel
theorem dX3_singer_85 : decode cX3_singer 85 = .ok (.iload_n 1, 1) := by decide +kernel
theorem dX3_singer_86 : decode cX3_singer 86 = .ok (.iaload, 1) := by decide +kernel
theorem dX3_singer_87 : decode cX3_singer 87 = .ok (.ireturn, 1) := by decide +kernel
theorem dX3_singer_88 : decode cX3_singer 88 = .ok (.ldc 84, 2) := by decide +kernel
theorem dX3_singer_90 : decode cX3_singer 90 = .ok (.ireturn, 1) := by decide +kernel
theorem dX3_alone_0 : decode cX3_alone 0 = .ok (.iload_n 1, 1) := by decide +kernel
theorem dX3_alone_1 : decode cX3_alone 1 = .ok (.aload_n 0, 1) := by decide +kernel
theorem dX3_alone_2 : decode cX3_alone 2 = .ok (.getfield 25, 3) := by decide +kernel
theorem dX3_alone_5 : decode cX3_alone 5 = .ok (.getfield 147, 3) := by decide +kernel
theorem dX3_alone_8 : decode cX3_alone 8 = .ok (.invokestatic 80, 3) := by decide +kernel
theorem dX3_alone_11 : decode cX3_alone 11 = .ok (.ifCond .ne 22, 3) := by decide +kernel
theorem dX3_alone_14 : decode cX3_alone 14 = .ok (.iload_n 2, 1) := by decide +kernel
theorem dX3_alone_15 : decode cX3_alone 15 = .ok (.bipush 8, 2) := by decide +kernel
theorem dX3_alone_17 : decode cX3_alone 17 = .ok (.invokestatic 80, 3) := by decide +kernel
theorem dX3_alone_20 : decode cX3_alone 20 = .ok (.ifCond .ne 13, 3) := by decide +kernel
theorem dX3_alone_23 : decode cX3_alone 23 = .ok (.iload 4, 2) := by decide +kernel
theorem dX3_alone_25 : decode cX3_alone 25 = .ok (.bipush 17, 2) := by decide +kernel
theorem dX3_alone_27 : decode cX3_alone 27 = .ok (.invokestatic 80, 3) := by decide +kernel
theorem dX3_alone_30 : decode cX3_alone 30 = .ok (.ifCond .eq 6, 3) := by decide +kernel
theorem dX3_alone_33 : decode cX3_alone 33 = .ok (.ldc 84, 2) := by decide +kernel
theorem dX3_alone_35 : decode cX3_alone 35 = .ok (.ireturn, 1) := by decide +kernel
theorem dX3_alone_36 : decode cX3_alone 36 = .ok (.aload_n 0, 1) := by decide +kernel
theorem dX3_alone_37 : decode cX3_alone 37 = .ok (.aload_n 0, 1) := by decide +kernel
theorem dX3_alone_38 : decode cX3_alone 38 = .ok (.getfield 11, 3) := by decide +kernel
theorem dX3_alone_41 : decode cX3_alone 41 = .ok (.iload_n 2, 1) := by decide +kernel
theorem dX3_alone_42 : decode cX3_alone 42 = .ok (.aaload, 1) := by decide +kernel
theorem dX3_alone_43 : decode cX3_alone 43 = .ok (.iload_n 3, 1) := by decide +kernel
theorem dX3_alone_44 : decode cX3_alone 44 = .ok (.iload 4, 2) := by decide +kernel
theorem dX3_alone_46 : decode cX3_alone 46 = .ok (.invokevirtual 198, 3) := by decide +kernel
theorem dX3_alone_49 : decode cX3_alone 49 = .ok (.istore 5, 2) := by decide +kernel
theorem dX3_alone_51 : decode cX3_alone 51 = .ok (.iload 5, 2) := by decide +kernel
theorem dX3_alone_53 : decode cX3_alone 53 = .ok (.ifCond .eq 6, 3) := by decide +kernel
theorem dX3_alone_56 : decode cX3_alone 56 = .ok (.iload 5, 2) := by decide +kernel
theorem dX3_alone_58 : decode cX3_alone 58 = .ok (.ireturn, 1) := by decide +kernel
theorem dX3_alone_59 : decode cX3_alone 59 = .ok (.aload_n 0, 1) := by decide +kernel
theorem dX3_alone_60 : decode cX3_alone 60 = .ok (.getfield 29, 3) := by decide +kernel
theorem dX3_alone_63 : decode cX3_alone 63 = .ok (.aload_n 0, 1) := by decide +kernel
theorem dX3_alone_64 : decode cX3_alone 64 = .ok (.getfield 25, 3) := by decide +kernel
theorem dX3_alone_67 : decode cX3_alone 67 = .ok (.invokevirtual 137, 3) := by decide +kernel
theorem dX3_alone_70 : decode cX3_alone 70 = .ok (.aload_n 0, 1) := by decide +kernel
theorem dX3_alone_71 : decode cX3_alone 71 = .ok (.iload_n 1, 1) := by decide +kernel
theorem dX3_alone_72 : decode cX3_alone 72 = .ok (.iload 4, 2) := by decide +kernel
theorem dX3_alone_74 : decode cX3_alone 74 = .ok (.iconst 0, 1) := by decide +kernel
theorem dX3_alone_75 : decode cX3_alone 75 = .ok (.invokevirtual 202, 3) := by decide +kernel
theorem dX3_alone_78 : decode cX3_alone 78 = .ok (.aload_n 0, 1) := by decide +kernel
theorem dX3_alone_79 : decode cX3_alone 79 = .ok (.aload_n 0, 1) := by decide +kernel
theorem dX3_alone_80 : decode cX3_alone 80 = .ok (.getfield 29, 3) := by decide +kernel
theorem dX3_alone_83 : decode cX3_alone 83 = .ok (.invokevirtual 160, 3) := by decide +kernel
theorem dX3_alone_86 : decode cX3_alone 86 = .ok (.invokevirtual 93, 3) := by decide +kernel
theorem dX3_alone_89 : decode cX3_alone 89 = .ok (.ireturn, 1) := by decide +kernel
theorem dX3_round_0 : decode cX3_round 0 = .ok (.aload_n 0, 1) := by decide +kernel
theorem dX3_round_1 : decode cX3_round 1 = .ok (.getfield 25, 3) := by decide +kernel
theorem dX3_round_4 : decode cX3_round 4 = .ok (.getfield 143, 3) := by decide +kernel
theorem dX3_round_7 : decode cX3_round 7 = .ok (.ifCond .ne 6, 3) := by decide +kernel
theorem dX3_round_10 : decode cX3_round 10 = .ok (.ldc 146, 2) := by decide +kernel
theorem dX3_round_12 : decode cX3_round 12 = .ok (.ireturn, 1) := by decide +kernel
theorem dX3_round_13 : decode cX3_round 13 = .ok (.iload_n 1, 1) := by decide +kernel
theorem dX3_round_14 : decode cX3_round 14 = .ok (.bipush 9, 2) := by decide +kernel
theorem dX3_round_16 : decode cX3_round 16 = .ok (.invokestatic 80, 3) := by decide +kernel
theorem dX3_round_19 : decode cX3_round 19 = .ok (.ifCond .ne 22, 3) := by decide +kernel
theorem dX3_round_22 : decode cX3_round 22 = .ok (.iload_n 2, 1) := by decide +kernel
theorem dX3_round_23 : decode cX3_round 23 = .ok (.bipush 8, 2) := by decide +kernel
theorem dX3_round_25 : decode cX3_round 25 = .ok (.invokestatic 80, 3) := by decide +kernel
theorem dX3_round_28 : decode cX3_round 28 = .ok (.ifCond .ne 13, 3) := by decide +kernel
theorem dX3_round_31 : decode cX3_round 31 = .ok (.iload 4, 2) := by decide +kernel
theorem dX3_round_33 : decode cX3_round 33 = .ok (.bipush 17, 2) := by decide +kernel
theorem dX3_round_35 : decode cX3_round 35 = .ok (.invokestatic 80, 3) := by decide +kernel
theorem dX3_round_38 : decode cX3_round 38 = .ok (.ifCond .eq 6, 3) := by decide +kernel
theorem dX3_round_41 : decode cX3_round 41 = .ok (.ldc 84, 2) := by decide +kernel
theorem dX3_round_43 : decode cX3_round 43 = .ok (.ireturn, 1) := by decide +kernel
theorem dX3_round_44 : decode cX3_round 44 = .ok (.aload_n 0, 1) := by decide +kernel
theorem dX3_round_45 : decode cX3_round 45 = .ok (.aload_n 0, 1) := by decide +kernel
theorem dX3_round_46 : decode cX3_round 46 = .ok (.getfield 11, 3) := by decide +kernel
theorem dX3_round_49 : decode cX3_round 49 = .ok (.iload_n 2, 1) := by decide +kernel
theorem dX3_round_50 : decode cX3_round 50 = .ok (.aaload, 1) := by decide +kernel
theorem dX3_round_51 : decode cX3_round 51 = .ok (.iload_n 3, 1) := by decide +kernel
theorem dX3_round_52 : decode cX3_round 52 = .ok (.iload 4, 2) := by decide +kernel
theorem dX3_round_54 : decode cX3_round 54 = .ok (.invokevirtual 198, 3) := by decide +kernel
theorem dX3_round_57 : decode cX3_round 57 = .ok (.istore 5, 2) := by decide +kernel
theorem dX3_round_59 : decode cX3_round 59 = .ok (.iload 5, 2) := by decide +kernel
theorem dX3_round_61 : decode cX3_round 61 = .ok (.ifCond .eq 6, 3) := by decide +kernel
theorem dX3_round_64 : decode cX3_round 64 = .ok (.iload 5, 2) := by decide +kernel
theorem dX3_round_66 : decode cX3_round 66 = .ok (.ireturn, 1) := by decide +kernel
theorem dX3_round_67 : decode cX3_round 67 = .ok (.aload_n 0, 1) := by decide +kernel
theorem dX3_round_68 : decode cX3_round 68 = .ok (.getfield 29, 3) := by decide +kernel
theorem dX3_round_71 : decode cX3_round 71 = .ok (.aload_n 0, 1) := by decide +kernel
theorem dX3_round_72 : decode cX3_round 72 = .ok (.getfield 25, 3) := by decide +kernel
theorem dX3_round_75 : decode cX3_round 75 = .ok (.invokevirtual 137, 3) := by decide +kernel
theorem dX3_round_78 : decode cX3_round 78 = .ok (.aload_n 0, 1) := by decide +kernel
theorem dX3_round_79 : decode cX3_round 79 = .ok (.iload_n 1, 1) := by decide +kernel
theorem dX3_round_80 : decode cX3_round 80 = .ok (.iload 4, 2) := by decide +kernel
theorem dX3_round_82 : decode cX3_round 82 = .ok (.invokevirtual 206, 3) := by decide +kernel
theorem dX3_round_85 : decode cX3_round 85 = .ok (.aload_n 0, 1) := by decide +kernel
theorem dX3_round_86 : decode cX3_round 86 = .ok (.aload_n 0, 1) := by decide +kernel
theorem dX3_round_87 : decode cX3_round 87 = .ok (.getfield 29, 3) := by decide +kernel
theorem dX3_round_90 : decode cX3_round 90 = .ok (.invokevirtual 160, 3) := by decide +kernel
theorem dX3_round_93 : decode cX3_round 93 = .ok (.invokevirtual 93, 3) := by decide +kernel
theorem dX3_round_96 : decode cX3_round 96 = .ok (.ireturn, 1) := by decide +kernel
theorem dX3_bestRound_0 : decode cX3_bestRound 0 = .ok (.aload_n 0, 1) := by decide +kernel
theorem dX3_bestRound_1 : decode cX3_bestRound 1 = .ok (.getfield 25, 3) := by decide +kernel
theorem dX3_bestRound_4 : decode cX3_bestRound 4 = .ok (.getfield 143, 3) := by decide +kernel
theorem dX3_bestRound_7 : decode cX3_bestRound 7 = .ok (.ifCond .ne 6, 3) := by decide +kernel
theorem dX3_bestRound_10 : decode cX3_bestRound 10 = .ok (.ldc 146, 2) := by decide +kernel
theorem dX3_bestRound_12 : decode cX3_bestRound 12 = .ok (.ireturn, 1) := by decide +kernel
theorem dX3_bestRound_13 : decode cX3_bestRound 13 = .ok (.iload_n 1, 1) := by decide +kernel
theorem dX3_bestRound_14 : decode cX3_bestRound 14 = .ok (.bipush 8, 2) := by decide +kernel
theorem dX3_bestRound_16 : decode cX3_bestRound 16 = .ok (.invokestatic 80, 3) := by decide +kernel
theorem dX3_bestRound_19 : decode cX3_bestRound 19 = .ok (.ifCond .ne 21, 3) := by decide +kernel
theorem dX3_bestRound_22 : decode cX3_bestRound 22 = .ok (.iload_n 3, 1) := by decide +kernel
theorem dX3_bestRound_23 : decode cX3_bestRound 23 = .ok (.bipush 17, 2) := by decide +kernel
theorem dX3_bestRound_25 : decode cX3_bestRound 25 = .ok (.invokestatic 80, 3) := by decide +kernel
theorem dX3_bestRound_28 : decode cX3_bestRound 28 = .ok (.ifCond .ne 12, 3) := by decide +kernel
theorem dX3_bestRound_31 : decode cX3_bestRound 31 = .ok (.iload 4, 2) := by decide +kernel
theorem dX3_bestRound_33 : decode cX3_bestRound 33 = .ok (.iconst 2, 1) := by decide +kernel
theorem dX3_bestRound_34 : decode cX3_bestRound 34 = .ok (.invokestatic 80, 3) := by decide +kernel
theorem dX3_bestRound_37 : decode cX3_bestRound 37 = .ok (.ifCond .eq 6, 3) := by decide +kernel
theorem dX3_bestRound_40 : decode cX3_bestRound 40 = .ok (.ldc 84, 2) := by decide +kernel
theorem dX3_bestRound_42 : decode cX3_bestRound 42 = .ok (.ireturn, 1) := by decide +kernel
theorem dX3_bestRound_43 : decode cX3_bestRound 43 = .ok (.aload_n 0, 1) := by decide +kernel
theorem dX3_bestRound_44 : decode cX3_bestRound 44 = .ok (.aload_n 0, 1) := by decide +kernel
theorem dX3_bestRound_45 : decode cX3_bestRound 45 = .ok (.getfield 11, 3) := by decide +kernel
theorem dX3_bestRound_48 : decode cX3_bestRound 48 = .ok (.iload_n 1, 1) := by decide +kernel
theorem dX3_bestRound_49 : decode cX3_bestRound 49 = .ok (.aaload, 1) := by decide +kernel
theorem dX3_bestRound_50 : decode cX3_bestRound 50 = .ok (.iload_n 2, 1) := by decide +kernel
theorem dX3_bestRound_51 : decode cX3_bestRound 51 = .ok (.iload_n 3, 1) := by decide +kernel
theorem dX3_bestRound_52 : decode cX3_bestRound 52 = .ok (.invokevirtual 198, 3) := by decide +kernel
theorem dX3_bestRound_55 : decode cX3_bestRound 55 = .ok (.istore 5, 2) := by decide +kernel
theorem dX3_bestRound_57 : decode cX3_bestRound 57 = .ok (.iload 5, 2) := by decide +kernel
theorem dX3_bestRound_59 : decode cX3_bestRound 59 = .ok (.ifCond .eq 6, 3) := by decide +kernel
theorem dX3_bestRound_62 : decode cX3_bestRound 62 = .ok (.iload 5, 2) := by decide +kernel
theorem dX3_bestRound_64 : decode cX3_bestRound 64 = .ok (.ireturn, 1) := by decide +kernel
theorem dX3_bestRound_65 : decode cX3_bestRound 65 = .ok (.iconst 0, 1) := by decide +kernel
theorem dX3_bestRound_66 : decode cX3_bestRound 66 = .ok (.istore 6, 2) := by decide +kernel
theorem dX3_bestRound_68 : decode cX3_bestRound 68 = .ok (.iconst (-1), 1) := by decide +kernel
theorem dX3_bestRound_69 : decode cX3_bestRound 69 = .ok (.istore 7, 2) := by decide +kernel
theorem dX3_bestRound_71 : decode cX3_bestRound 71 = .ok (.iconst 0, 1) := by decide +kernel
theorem dX3_bestRound_72 : decode cX3_bestRound 72 = .ok (.istore 8, 2) := by decide +kernel
theorem dX3_bestRound_74 : decode cX3_bestRound 74 = .ok (.iload 8, 2) := by decide +kernel
theorem dX3_bestRound_76 : decode cX3_bestRound 76 = .ok (.bipush 8, 2) := by decide +kernel
theorem dX3_bestRound_78 : decode cX3_bestRound 78 = .ok (.if_icmp .gt 54, 3) := by decide +kernel
theorem dX3_bestRound_81 : decode cX3_bestRound 81 = .ok (.aload_n 0, 1) := by decide +kernel
theorem dX3_bestRound_82 : decode cX3_bestRound 82 = .ok (.getfield 29, 3) := by decide +kernel
theorem dX3_bestRound_85 : decode cX3_bestRound 85 = .ok (.aload_n 0, 1) := by decide +kernel
theorem dX3_bestRound_86 : decode cX3_bestRound 86 = .ok (.getfield 25, 3) := by decide +kernel
theorem dX3_bestRound_89 : decode cX3_bestRound 89 = .ok (.invokevirtual 137, 3) := by decide +kernel
theorem dX3_bestRound_92 : decode cX3_bestRound 92 = .ok (.aload_n 0, 1) := by decide +kernel
theorem dX3_bestRound_93 : decode cX3_bestRound 93 = .ok (.iload 8, 2) := by decide +kernel
theorem dX3_bestRound_95 : decode cX3_bestRound 95 = .ok (.iload_n 3, 1) := by decide +kernel
theorem dX3_bestRound_96 : decode cX3_bestRound 96 = .ok (.invokevirtual 206, 3) := by decide +kernel
theorem dX3_bestRound_99 : decode cX3_bestRound 99 = .ok (.aload_n 0, 1) := by decide +kernel
theorem dX3_bestRound_100 : decode cX3_bestRound 100 = .ok (.getfield 29, 3) := by decide +kernel
theorem dX3_bestRound_103 : decode cX3_bestRound 103 = .ok (.invokevirtual 160, 3) := by decide +kernel
theorem dX3_bestRound_106 : decode cX3_bestRound 106 = .ok (.invokestatic 209, 3) := by decide +kernel
theorem dX3_bestRound_109 : decode cX3_bestRound 109 = .ok (.istore 9, 2) := by decide +kernel
theorem dX3_bestRound_111 : decode cX3_bestRound 111 = .ok (.iload 9, 2) := by decide +kernel
theorem dX3_bestRound_113 : decode cX3_bestRound 113 = .ok (.iload 7, 2) := by decide +kernel
theorem dX3_bestRound_115 : decode cX3_bestRound 115 = .ok (.if_icmp .le 11, 3) := by decide +kernel
theorem dX3_bestRound_118 : decode cX3_bestRound 118 = .ok (.iload 9, 2) := by decide +kernel
theorem dX3_bestRound_120 : decode cX3_bestRound 120 = .ok (.istore 7, 2) := by decide +kernel
theorem dX3_bestRound_122 : decode cX3_bestRound 122 = .ok (.iload 8, 2) := by decide +kernel
theorem dX3_bestRound_124 : decode cX3_bestRound 124 = .ok (.istore 6, 2) := by decide +kernel
theorem dX3_bestRound_126 : decode cX3_bestRound 126 = .ok (.iinc 8 1, 3) := by decide +kernel
theorem dX3_bestRound_129 : decode cX3_bestRound 129 = .ok (.goto (-55), 3) := by decide +kernel
theorem dX3_bestRound_132 : decode cX3_bestRound 132 = .ok (.aload_n 0, 1) := by decide +kernel
theorem dX3_bestRound_133 : decode cX3_bestRound 133 = .ok (.iload 4, 2) := by decide +kernel
theorem dX3_bestRound_135 : decode cX3_bestRound 135 = .ok (.ifCond .ne 8, 3) := by decide +kernel
theorem dX3_bestRound_138 : decode cX3_bestRound 138 = .ok (.iload 6, 2) := by decide +kernel
theorem dX3_bestRound_140 : decode cX3_bestRound 140 = .ok (.goto 5, 3) := by decide +kernel
theorem dX3_bestRound_143 : decode cX3_bestRound 143 = .ok (.iload 7, 2) := by decide +kernel
theorem dX3_bestRound_145 : decode cX3_bestRound 145 = .ok (.invokevirtual 93, 3) := by decide +kernel
theorem dX3_bestRound_148 : decode cX3_bestRound 148 = .ok (.ireturn, 1) := by decide +kernel
theorem dX3_song_0 : decode cX3_song 0 = .ok (.iload_n 1, 1) := by decide +kernel
theorem dX3_song_1 : decode cX3_song 1 = .ok (.aload_n 0, 1) := by decide +kernel
theorem dX3_song_2 : decode cX3_song 2 = .ok (.getfield 25, 3) := by decide +kernel
theorem dX3_song_5 : decode cX3_song 5 = .ok (.getfield 147, 3) := by decide +kernel
theorem dX3_song_8 : decode cX3_song 8 = .ok (.invokestatic 80, 3) := by decide +kernel
theorem dX3_song_11 : decode cX3_song 11 = .ok (.ifCond .ne 21, 3) := by decide +kernel
theorem dX3_song_14 : decode cX3_song 14 = .ok (.iload_n 2, 1) := by decide +kernel
theorem dX3_song_15 : decode cX3_song 15 = .ok (.iconst 5, 1) := by decide +kernel
theorem dX3_song_16 : decode cX3_song 16 = .ok (.invokestatic 80, 3) := by decide +kernel
theorem dX3_song_19 : decode cX3_song 19 = .ok (.ifCond .ne 13, 3) := by decide +kernel
theorem dX3_song_22 : decode cX3_song 22 = .ok (.iload_n 3, 1) := by decide +kernel
theorem dX3_song_23 : decode cX3_song 23 = .ok (.iconst (-1), 1) := by decide +kernel
theorem dX3_song_24 : decode cX3_song 24 = .ok (.if_icmp .lt 8, 3) := by decide +kernel
theorem dX3_song_27 : decode cX3_song 27 = .ok (.iload_n 3, 1) := by decide +kernel
theorem dX3_song_28 : decode cX3_song 28 = .ok (.iload_n 2, 1) := by decide +kernel
theorem dX3_song_29 : decode cX3_song 29 = .ok (.if_icmp .lt 6, 3) := by decide +kernel
theorem dX3_song_32 : decode cX3_song 32 = .ok (.ldc 84, 2) := by decide +kernel
theorem dX3_song_34 : decode cX3_song 34 = .ok (.ireturn, 1) := by decide +kernel
theorem dX3_song_35 : decode cX3_song 35 = .ok (.aload_n 0, 1) := by decide +kernel
theorem dX3_song_36 : decode cX3_song 36 = .ok (.iload_n 1, 1) := by decide +kernel
theorem dX3_song_37 : decode cX3_song 37 = .ok (.iload_n 2, 1) := by decide +kernel
theorem dX3_song_38 : decode cX3_song 38 = .ok (.invokevirtual 214, 3) := by decide +kernel
theorem dX3_song_41 : decode cX3_song 41 = .ok (.iload_n 3, 1) := by decide +kernel
theorem dX3_song_42 : decode cX3_song 42 = .ok (.ifCond .ge 10, 3) := by decide +kernel
theorem dX3_song_45 : decode cX3_song 45 = .ok (.aload_n 0, 1) := by decide +kernel
theorem dX3_song_46 : decode cX3_song 46 = .ok (.getfield 61, 3) := by decide +kernel
theorem dX3_song_49 : decode cX3_song 49 = .ok (.goto 12, 3) := by decide +kernel
theorem dX3_song_52 : decode cX3_song 52 = .ok (.aload_n 0, 1) := by decide +kernel
theorem dX3_song_53 : decode cX3_song 53 = .ok (.getfield 58, 3) := by decide +kernel
theorem dX3_song_56 : decode cX3_song 56 = .ok (.iload_n 2, 1) := by decide +kernel
theorem dX3_song_57 : decode cX3_song 57 = .ok (.iload_n 3, 1) := by decide +kernel
theorem dX3_song_58 : decode cX3_song 58 = .ok (.invokestatic 217, 3) := by decide +kernel
theorem dX3_song_61 : decode cX3_song 61 = .ok (.ireturn, 1) := by decide +kernel
theorem dX3_toShut_0 : decode cX3_toShut 0 = .ok (.iload_n 1, 1) := by decide +kernel
theorem dX3_toShut_1 : decode cX3_toShut 1 = .ok (.aload_n 0, 1) := by decide +kernel
theorem dX3_toShut_2 : decode cX3_toShut 2 = .ok (.getfield 25, 3) := by decide +kernel
theorem dX3_toShut_5 : decode cX3_toShut 5 = .ok (.getfield 140, 3) := by decide +kernel
theorem dX3_toShut_8 : decode cX3_toShut 8 = .ok (.invokestatic 80, 3) := by decide +kernel
theorem dX3_toShut_11 : decode cX3_toShut 11 = .ok (.ifCond .ne 40, 3) := by decide +kernel
theorem dX3_toShut_14 : decode cX3_toShut 14 = .ok (.iload_n 2, 1) := by decide +kernel
theorem dX3_toShut_15 : decode cX3_toShut 15 = .ok (.bipush 9, 2) := by decide +kernel
theorem dX3_toShut_17 : decode cX3_toShut 17 = .ok (.invokestatic 80, 3) := by decide +kernel
theorem dX3_toShut_20 : decode cX3_toShut 20 = .ok (.ifCond .ne 31, 3) := by decide +kernel
theorem dX3_toShut_23 : decode cX3_toShut 23 = .ok (.iload_n 3, 1) := by decide +kernel
theorem dX3_toShut_24 : decode cX3_toShut 24 = .ok (.bipush 8, 2) := by decide +kernel
theorem dX3_toShut_26 : decode cX3_toShut 26 = .ok (.invokestatic 80, 3) := by decide +kernel
theorem dX3_toShut_29 : decode cX3_toShut 29 = .ok (.ifCond .ne 22, 3) := by decide +kernel
theorem dX3_toShut_32 : decode cX3_toShut 32 = .ok (.iload 5, 2) := by decide +kernel
theorem dX3_toShut_34 : decode cX3_toShut 34 = .ok (.bipush 17, 2) := by decide +kernel
theorem dX3_toShut_36 : decode cX3_toShut 36 = .ok (.invokestatic 80, 3) := by decide +kernel
theorem dX3_toShut_39 : decode cX3_toShut 39 = .ok (.ifCond .ne 12, 3) := by decide +kernel
theorem dX3_toShut_42 : decode cX3_toShut 42 = .ok (.iload 6, 2) := by decide +kernel
theorem dX3_toShut_44 : decode cX3_toShut 44 = .ok (.iconst 2, 1) := by decide +kernel
theorem dX3_toShut_45 : decode cX3_toShut 45 = .ok (.invokestatic 80, 3) := by decide +kernel
theorem dX3_toShut_48 : decode cX3_toShut 48 = .ok (.ifCond .eq 6, 3) := by decide +kernel
theorem dX3_toShut_51 : decode cX3_toShut 51 = .ok (.ldc 84, 2) := by decide +kernel
theorem dX3_toShut_53 : decode cX3_toShut 53 = .ok (.ireturn, 1) := by decide +kernel
theorem dX3_toShut_54 : decode cX3_toShut 54 = .ok (.aload_n 0, 1) := by decide +kernel
theorem dX3_toShut_55 : decode cX3_toShut 55 = .ok (.aload_n 0, 1) := by decide +kernel
theorem dX3_toShut_56 : decode cX3_toShut 56 = .ok (.getfield 11, 3) := by decide +kernel
theorem dX3_toShut_59 : decode cX3_toShut 59 = .ok (.iload_n 3, 1) := by decide +kernel
theorem dX3_toShut_60 : decode cX3_toShut 60 = .ok (.aaload, 1) := by decide +kernel
theorem dX3_toShut_61 : decode cX3_toShut 61 = .ok (.iload 4, 2) := by decide +kernel
theorem dX3_toShut_63 : decode cX3_toShut 63 = .ok (.iload 5, 2) := by decide +kernel
theorem dX3_toShut_65 : decode cX3_toShut 65 = .ok (.invokevirtual 198, 3) := by decide +kernel
theorem dX3_toShut_68 : decode cX3_toShut 68 = .ok (.istore 7, 2) := by decide +kernel
theorem dX3_toShut_70 : decode cX3_toShut 70 = .ok (.iload 7, 2) := by decide +kernel
theorem dX3_toShut_72 : decode cX3_toShut 72 = .ok (.ifCond .eq 6, 3) := by decide +kernel
theorem dX3_toShut_75 : decode cX3_toShut 75 = .ok (.iload 7, 2) := by decide +kernel
theorem dX3_toShut_77 : decode cX3_toShut 77 = .ok (.ireturn, 1) := by decide +kernel
theorem dX3_toShut_78 : decode cX3_toShut 78 = .ok (.iconst 4, 1) := by decide +kernel
theorem dX3_toShut_79 : decode cX3_toShut 79 = .ok (.istore 8, 2) := by decide +kernel
theorem dX3_toShut_81 : decode cX3_toShut 81 = .ok (.ldc 221, 2) := by decide +kernel
theorem dX3_toShut_83 : decode cX3_toShut 83 = .ok (.istore 9, 2) := by decide +kernel
theorem dX3_toShut_85 : decode cX3_toShut 85 = .ok (.iconst 0, 1) := by decide +kernel
theorem dX3_toShut_86 : decode cX3_toShut 86 = .ok (.istore 10, 2) := by decide +kernel
theorem dX3_toShut_88 : decode cX3_toShut 88 = .ok (.iload 10, 2) := by decide +kernel
theorem dX3_toShut_90 : decode cX3_toShut 90 = .ok (.bipush 8, 2) := by decide +kernel
theorem dX3_toShut_92 : decode cX3_toShut 92 = .ok (.if_icmp .ge 61, 3) := by decide +kernel
theorem dX3_toShut_95 : decode cX3_toShut 95 = .ok (.iload 10, 2) := by decide +kernel
theorem dX3_toShut_97 : decode cX3_toShut 97 = .ok (.invokestatic 209, 3) := by decide +kernel
theorem dX3_toShut_100 : decode cX3_toShut 100 = .ok (.istore 11, 2) := by decide +kernel
theorem dX3_toShut_102 : decode cX3_toShut 102 = .ok (.iload 10, 2) := by decide +kernel
theorem dX3_toShut_104 : decode cX3_toShut 104 = .ok (.aload_n 0, 1) := by decide +kernel
theorem dX3_toShut_105 : decode cX3_toShut 105 = .ok (.getfield 25, 3) := by decide +kernel
theorem dX3_toShut_108 : decode cX3_toShut 108 = .ok (.getfield 164, 3) := by decide +kernel
theorem dX3_toShut_111 : decode cX3_toShut 111 = .ok (.iload_n 1, 1) := by decide +kernel
theorem dX3_toShut_112 : decode cX3_toShut 112 = .ok (.iaload, 1) := by decide +kernel
theorem dX3_toShut_113 : decode cX3_toShut 113 = .ok (.iconst (-1), 1) := by decide +kernel
theorem dX3_toShut_114 : decode cX3_toShut 114 = .ok (.ixor, 1) := by decide +kernel
theorem dX3_toShut_115 : decode cX3_toShut 115 = .ok (.iand, 1) := by decide +kernel
theorem dX3_toShut_116 : decode cX3_toShut 116 = .ok (.ifCond .ne 31, 3) := by decide +kernel
theorem dX3_toShut_119 : decode cX3_toShut 119 = .ok (.iload 11, 2) := by decide +kernel
theorem dX3_toShut_121 : decode cX3_toShut 121 = .ok (.iload 8, 2) := by decide +kernel
theorem dX3_toShut_123 : decode cX3_toShut 123 = .ok (.if_icmp .ge 24, 3) := by decide +kernel
theorem dX3_toShut_126 : decode cX3_toShut 126 = .ok (.aload_n 0, 1) := by decide +kernel
theorem dX3_toShut_127 : decode cX3_toShut 127 = .ok (.iload_n 1, 1) := by decide +kernel
theorem dX3_toShut_128 : decode cX3_toShut 128 = .ok (.iload 10, 2) := by decide +kernel
theorem dX3_toShut_130 : decode cX3_toShut 130 = .ok (.iload_n 2, 1) := by decide +kernel
theorem dX3_toShut_131 : decode cX3_toShut 131 = .ok (.iload 5, 2) := by decide +kernel
theorem dX3_toShut_133 : decode cX3_toShut 133 = .ok (.invokevirtual 222, 3) := by decide +kernel
theorem dX3_toShut_136 : decode cX3_toShut 136 = .ok (.ifCond .eq 11, 3) := by decide +kernel
theorem dX3_toShut_139 : decode cX3_toShut 139 = .ok (.iload 11, 2) := by decide +kernel
theorem dX3_toShut_141 : decode cX3_toShut 141 = .ok (.istore 8, 2) := by decide +kernel
theorem dX3_toShut_143 : decode cX3_toShut 143 = .ok (.iload 10, 2) := by decide +kernel
theorem dX3_toShut_145 : decode cX3_toShut 145 = .ok (.istore 9, 2) := by decide +kernel
theorem dX3_toShut_147 : decode cX3_toShut 147 = .ok (.iinc 10 1, 3) := by decide +kernel
theorem dX3_toShut_150 : decode cX3_toShut 150 = .ok (.goto (-62), 3) := by decide +kernel
theorem dX3_toShut_153 : decode cX3_toShut 153 = .ok (.aload_n 0, 1) := by decide +kernel
theorem dX3_toShut_154 : decode cX3_toShut 154 = .ok (.iload 6, 2) := by decide +kernel
theorem dX3_toShut_156 : decode cX3_toShut 156 = .ok (.ifCond .ne 15, 3) := by decide +kernel
theorem dX3_toShut_159 : decode cX3_toShut 159 = .ok (.iload 9, 2) := by decide +kernel
theorem dX3_toShut_161 : decode cX3_toShut 161 = .ok (.ldc 221, 2) := by decide +kernel
theorem dX3_toShut_163 : decode cX3_toShut 163 = .ok (.if_icmp .eq 8, 3) := by decide +kernel
theorem dX3_toShut_166 : decode cX3_toShut 166 = .ok (.iload 8, 2) := by decide +kernel
theorem dX3_toShut_168 : decode cX3_toShut 168 = .ok (.goto 5, 3) := by decide +kernel
theorem dX3_toShut_171 : decode cX3_toShut 171 = .ok (.iload 9, 2) := by decide +kernel
theorem dX3_toShut_173 : decode cX3_toShut 173 = .ok (.invokevirtual 93, 3) := by decide +kernel
theorem dX3_toShut_176 : decode cX3_toShut 176 = .ok (.ireturn, 1) := by decide +kernel
theorem dX3_modes_0 : decode cX3_modes 0 = .ok (.iload_n 1, 1) := by decide +kernel
theorem dX3_modes_1 : decode cX3_modes 1 = .ok (.aload_n 0, 1) := by decide +kernel
theorem dX3_modes_2 : decode cX3_modes 2 = .ok (.getfield 25, 3) := by decide +kernel
theorem dX3_modes_5 : decode cX3_modes 5 = .ok (.getfield 140, 3) := by decide +kernel
theorem dX3_modes_8 : decode cX3_modes 8 = .ok (.invokestatic 80, 3) := by decide +kernel
theorem dX3_modes_11 : decode cX3_modes 11 = .ok (.ifCond .ne 55, 3) := by decide +kernel
theorem dX3_modes_14 : decode cX3_modes 14 = .ok (.iload_n 2, 1) := by decide +kernel
theorem dX3_modes_15 : decode cX3_modes 15 = .ok (.aload_n 0, 1) := by decide +kernel
theorem dX3_modes_16 : decode cX3_modes 16 = .ok (.getfield 25, 3) := by decide +kernel
theorem dX3_modes_19 : decode cX3_modes 19 = .ok (.getfield 147, 3) := by decide +kernel
theorem dX3_modes_22 : decode cX3_modes 22 = .ok (.invokestatic 80, 3) := by decide +kernel
theorem dX3_modes_25 : decode cX3_modes 25 = .ok (.ifCond .ne 41, 3) := by decide +kernel
theorem dX3_modes_28 : decode cX3_modes 28 = .ok (.iload_n 3, 1) := by decide +kernel
theorem dX3_modes_29 : decode cX3_modes 29 = .ok (.bipush 8, 2) := by decide +kernel
theorem dX3_modes_31 : decode cX3_modes 31 = .ok (.invokestatic 80, 3) := by decide +kernel
theorem dX3_modes_34 : decode cX3_modes 34 = .ok (.ifCond .ne 32, 3) := by decide +kernel
theorem dX3_modes_37 : decode cX3_modes 37 = .ok (.iload 5, 2) := by decide +kernel
theorem dX3_modes_39 : decode cX3_modes 39 = .ok (.bipush 17, 2) := by decide +kernel
theorem dX3_modes_41 : decode cX3_modes 41 = .ok (.invokestatic 80, 3) := by decide +kernel
theorem dX3_modes_44 : decode cX3_modes 44 = .ok (.ifCond .ne 22, 3) := by decide +kernel
theorem dX3_modes_47 : decode cX3_modes 47 = .ok (.iload 6, 2) := by decide +kernel
theorem dX3_modes_49 : decode cX3_modes 49 = .ok (.bipush 21, 2) := by decide +kernel
theorem dX3_modes_51 : decode cX3_modes 51 = .ok (.invokestatic 80, 3) := by decide +kernel
theorem dX3_modes_54 : decode cX3_modes 54 = .ok (.ifCond .ne 12, 3) := by decide +kernel
theorem dX3_modes_57 : decode cX3_modes 57 = .ok (.iload 7, 2) := by decide +kernel
theorem dX3_modes_59 : decode cX3_modes 59 = .ok (.iconst 2, 1) := by decide +kernel
theorem dX3_modes_60 : decode cX3_modes 60 = .ok (.invokestatic 80, 3) := by decide +kernel
theorem dX3_modes_63 : decode cX3_modes 63 = .ok (.ifCond .eq 6, 3) := by decide +kernel
theorem dX3_modes_66 : decode cX3_modes 66 = .ok (.ldc 84, 2) := by decide +kernel
theorem dX3_modes_68 : decode cX3_modes 68 = .ok (.ireturn, 1) := by decide +kernel
theorem dX3_modes_69 : decode cX3_modes 69 = .ok (.aload_n 0, 1) := by decide +kernel
theorem dX3_modes_70 : decode cX3_modes 70 = .ok (.aload_n 0, 1) := by decide +kernel
theorem dX3_modes_71 : decode cX3_modes 71 = .ok (.getfield 11, 3) := by decide +kernel
theorem dX3_modes_74 : decode cX3_modes 74 = .ok (.iload_n 3, 1) := by decide +kernel
theorem dX3_modes_75 : decode cX3_modes 75 = .ok (.aaload, 1) := by decide +kernel
theorem dX3_modes_76 : decode cX3_modes 76 = .ok (.iload 4, 2) := by decide +kernel
theorem dX3_modes_78 : decode cX3_modes 78 = .ok (.iload 5, 2) := by decide +kernel
theorem dX3_modes_80 : decode cX3_modes 80 = .ok (.invokevirtual 198, 3) := by decide +kernel
theorem dX3_modes_83 : decode cX3_modes 83 = .ok (.istore 8, 2) := by decide +kernel
theorem dX3_modes_85 : decode cX3_modes 85 = .ok (.iload 8, 2) := by decide +kernel
theorem dX3_modes_87 : decode cX3_modes 87 = .ok (.ifCond .eq 6, 3) := by decide +kernel
theorem dX3_modes_90 : decode cX3_modes 90 = .ok (.iload 8, 2) := by decide +kernel
theorem dX3_modes_92 : decode cX3_modes 92 = .ok (.ireturn, 1) := by decide +kernel
theorem dX3_modes_93 : decode cX3_modes 93 = .ok (.iconst 0, 1) := by decide +kernel
theorem dX3_modes_94 : decode cX3_modes 94 = .ok (.istore 9, 2) := by decide +kernel
theorem dX3_modes_96 : decode cX3_modes 96 = .ok (.ldc 221, 2) := by decide +kernel
theorem dX3_modes_98 : decode cX3_modes 98 = .ok (.istore 10, 2) := by decide +kernel
theorem dX3_modes_100 : decode cX3_modes 100 = .ok (.iconst 0, 1) := by decide +kernel
theorem dX3_modes_101 : decode cX3_modes 101 = .ok (.istore 11, 2) := by decide +kernel
theorem dX3_modes_103 : decode cX3_modes 103 = .ok (.iload 11, 2) := by decide +kernel
theorem dX3_modes_105 : decode cX3_modes 105 = .ok (.sipush 128, 3) := by decide +kernel
theorem dX3_modes_108 : decode cX3_modes 108 = .ok (.if_icmp .ge 70, 3) := by decide +kernel
theorem dX3_modes_111 : decode cX3_modes 111 = .ok (.aload_n 0, 1) := by decide +kernel
theorem dX3_modes_112 : decode cX3_modes 112 = .ok (.getfield 29, 3) := by decide +kernel
theorem dX3_modes_115 : decode cX3_modes 115 = .ok (.aload_n 0, 1) := by decide +kernel
theorem dX3_modes_116 : decode cX3_modes 116 = .ok (.getfield 25, 3) := by decide +kernel
theorem dX3_modes_119 : decode cX3_modes 119 = .ok (.invokevirtual 137, 3) := by decide +kernel
theorem dX3_modes_122 : decode cX3_modes 122 = .ok (.aload_n 0, 1) := by decide +kernel
theorem dX3_modes_123 : decode cX3_modes 123 = .ok (.getfield 29, 3) := by decide +kernel
theorem dX3_modes_126 : decode cX3_modes 126 = .ok (.getfield 170, 3) := by decide +kernel
theorem dX3_modes_129 : decode cX3_modes 129 = .ok (.iload_n 1, 1) := by decide +kernel
theorem dX3_modes_130 : decode cX3_modes 130 = .ok (.iload 11, 2) := by decide +kernel
theorem dX3_modes_132 : decode cX3_modes 132 = .ok (.iastore, 1) := by decide +kernel
theorem dX3_modes_133 : decode cX3_modes 133 = .ok (.aload_n 0, 1) := by decide +kernel
theorem dX3_modes_134 : decode cX3_modes 134 = .ok (.iload_n 2, 1) := by decide +kernel
theorem dX3_modes_135 : decode cX3_modes 135 = .ok (.iload 5, 2) := by decide +kernel
theorem dX3_modes_137 : decode cX3_modes 137 = .ok (.iconst 0, 1) := by decide +kernel
theorem dX3_modes_138 : decode cX3_modes 138 = .ok (.invokevirtual 202, 3) := by decide +kernel
theorem dX3_modes_141 : decode cX3_modes 141 = .ok (.aload_n 0, 1) := by decide +kernel
theorem dX3_modes_142 : decode cX3_modes 142 = .ok (.getfield 29, 3) := by decide +kernel
theorem dX3_modes_145 : decode cX3_modes 145 = .ok (.getfield 176, 3) := by decide +kernel
theorem dX3_modes_148 : decode cX3_modes 148 = .ok (.iload_n 1, 1) := by decide +kernel
theorem dX3_modes_149 : decode cX3_modes 149 = .ok (.iaload, 1) := by decide +kernel
theorem dX3_modes_150 : decode cX3_modes 150 = .ok (.iload 6, 2) := by decide +kernel
theorem dX3_modes_152 : decode cX3_modes 152 = .ok (.if_icmp .ne 20, 3) := by decide +kernel
theorem dX3_modes_155 : decode cX3_modes 155 = .ok (.iload 9, 2) := by decide +kernel
theorem dX3_modes_157 : decode cX3_modes 157 = .ok (.ifCond .ne 8, 3) := by decide +kernel
theorem dX3_modes_160 : decode cX3_modes 160 = .ok (.iload 11, 2) := by decide +kernel
theorem dX3_modes_162 : decode cX3_modes 162 = .ok (.goto 5, 3) := by decide +kernel
theorem dX3_modes_165 : decode cX3_modes 165 = .ok (.iload 10, 2) := by decide +kernel
theorem dX3_modes_167 : decode cX3_modes 167 = .ok (.istore 10, 2) := by decide +kernel
theorem dX3_modes_169 : decode cX3_modes 169 = .ok (.iinc 9 1, 3) := by decide +kernel
theorem dX3_modes_172 : decode cX3_modes 172 = .ok (.iinc 11 1, 3) := by decide +kernel
theorem dX3_modes_175 : decode cX3_modes 175 = .ok (.goto (-72), 3) := by decide +kernel
theorem dX3_modes_178 : decode cX3_modes 178 = .ok (.aload_n 0, 1) := by decide +kernel
theorem dX3_modes_179 : decode cX3_modes 179 = .ok (.iload 7, 2) := by decide +kernel
theorem dX3_modes_181 : decode cX3_modes 181 = .ok (.ifCond .ne 8, 3) := by decide +kernel
theorem dX3_modes_184 : decode cX3_modes 184 = .ok (.iload 9, 2) := by decide +kernel
theorem dX3_modes_186 : decode cX3_modes 186 = .ok (.goto 5, 3) := by decide +kernel
theorem dX3_modes_189 : decode cX3_modes 189 = .ok (.iload 10, 2) := by decide +kernel
theorem dX3_modes_191 : decode cX3_modes 191 = .ok (.invokevirtual 93, 3) := by decide +kernel
theorem dX3_modes_194 : decode cX3_modes 194 = .ok (.ireturn, 1) := by decide +kernel
theorem dX3_coughs_0 : decode cX3_coughs 0 = .ok (.iload_n 1, 1) := by decide +kernel
theorem dX3_coughs_1 : decode cX3_coughs 1 = .ok (.aload_n 0, 1) := by decide +kernel
theorem dX3_coughs_2 : decode cX3_coughs 2 = .ok (.getfield 25, 3) := by decide +kernel
theorem dX3_coughs_5 : decode cX3_coughs 5 = .ok (.getfield 140, 3) := by decide +kernel
theorem dX3_coughs_8 : decode cX3_coughs 8 = .ok (.invokestatic 80, 3) := by decide +kernel
theorem dX3_coughs_11 : decode cX3_coughs 11 = .ok (.ifCond .ne 55, 3) := by decide +kernel
theorem dX3_coughs_14 : decode cX3_coughs 14 = .ok (.iload_n 2, 1) := by decide +kernel
theorem dX3_coughs_15 : decode cX3_coughs 15 = .ok (.aload_n 0, 1) := by decide +kernel
theorem dX3_coughs_16 : decode cX3_coughs 16 = .ok (.getfield 25, 3) := by decide +kernel
theorem dX3_coughs_19 : decode cX3_coughs 19 = .ok (.getfield 147, 3) := by decide +kernel
theorem dX3_coughs_22 : decode cX3_coughs 22 = .ok (.invokestatic 80, 3) := by decide +kernel
theorem dX3_coughs_25 : decode cX3_coughs 25 = .ok (.ifCond .ne 41, 3) := by decide +kernel
theorem dX3_coughs_28 : decode cX3_coughs 28 = .ok (.iload_n 3, 1) := by decide +kernel
theorem dX3_coughs_29 : decode cX3_coughs 29 = .ok (.bipush 8, 2) := by decide +kernel
theorem dX3_coughs_31 : decode cX3_coughs 31 = .ok (.invokestatic 80, 3) := by decide +kernel
theorem dX3_coughs_34 : decode cX3_coughs 34 = .ok (.ifCond .ne 32, 3) := by decide +kernel
theorem dX3_coughs_37 : decode cX3_coughs 37 = .ok (.iload 5, 2) := by decide +kernel
theorem dX3_coughs_39 : decode cX3_coughs 39 = .ok (.bipush 9, 2) := by decide +kernel
theorem dX3_coughs_41 : decode cX3_coughs 41 = .ok (.invokestatic 80, 3) := by decide +kernel
theorem dX3_coughs_44 : decode cX3_coughs 44 = .ok (.ifCond .ne 22, 3) := by decide +kernel
theorem dX3_coughs_47 : decode cX3_coughs 47 = .ok (.iload 6, 2) := by decide +kernel
theorem dX3_coughs_49 : decode cX3_coughs 49 = .ok (.bipush 11, 2) := by decide +kernel
theorem dX3_coughs_51 : decode cX3_coughs 51 = .ok (.invokestatic 80, 3) := by decide +kernel
theorem dX3_coughs_54 : decode cX3_coughs 54 = .ok (.ifCond .ne 12, 3) := by decide +kernel
theorem dX3_coughs_57 : decode cX3_coughs 57 = .ok (.iload 7, 2) := by decide +kernel
theorem dX3_coughs_59 : decode cX3_coughs 59 = .ok (.iconst 2, 1) := by decide +kernel
theorem dX3_coughs_60 : decode cX3_coughs 60 = .ok (.invokestatic 80, 3) := by decide +kernel
theorem dX3_coughs_63 : decode cX3_coughs 63 = .ok (.ifCond .eq 6, 3) := by decide +kernel
theorem dX3_coughs_66 : decode cX3_coughs 66 = .ok (.ldc 84, 2) := by decide +kernel
theorem dX3_coughs_68 : decode cX3_coughs 68 = .ok (.ireturn, 1) := by decide +kernel
theorem dX3_coughs_69 : decode cX3_coughs 69 = .ok (.aload_n 0, 1) := by decide +kernel
theorem dX3_coughs_70 : decode cX3_coughs 70 = .ok (.aload_n 0, 1) := by decide +kernel
theorem dX3_coughs_71 : decode cX3_coughs 71 = .ok (.getfield 11, 3) := by decide +kernel
theorem dX3_coughs_74 : decode cX3_coughs 74 = .ok (.iload_n 3, 1) := by decide +kernel
theorem dX3_coughs_75 : decode cX3_coughs 75 = .ok (.aaload, 1) := by decide +kernel
theorem dX3_coughs_76 : decode cX3_coughs 76 = .ok (.iload 4, 2) := by decide +kernel
theorem dX3_coughs_78 : decode cX3_coughs 78 = .ok (.iload 5, 2) := by decide +kernel
theorem dX3_coughs_80 : decode cX3_coughs 80 = .ok (.invokevirtual 198, 3) := by decide +kernel
theorem dX3_coughs_83 : decode cX3_coughs 83 = .ok (.istore 8, 2) := by decide +kernel
theorem dX3_coughs_85 : decode cX3_coughs 85 = .ok (.iload 8, 2) := by decide +kernel
theorem dX3_coughs_87 : decode cX3_coughs 87 = .ok (.ifCond .eq 6, 3) := by decide +kernel
theorem dX3_coughs_90 : decode cX3_coughs 90 = .ok (.iload 8, 2) := by decide +kernel
theorem dX3_coughs_92 : decode cX3_coughs 92 = .ok (.ireturn, 1) := by decide +kernel
theorem dX3_coughs_93 : decode cX3_coughs 93 = .ok (.iconst 0, 1) := by decide +kernel
theorem dX3_coughs_94 : decode cX3_coughs 94 = .ok (.istore 9, 2) := by decide +kernel
theorem dX3_coughs_96 : decode cX3_coughs 96 = .ok (.iconst 0, 1) := by decide +kernel
theorem dX3_coughs_97 : decode cX3_coughs 97 = .ok (.istore 10, 2) := by decide +kernel
theorem dX3_coughs_99 : decode cX3_coughs 99 = .ok (.iload 10, 2) := by decide +kernel
theorem dX3_coughs_101 : decode cX3_coughs 101 = .ok (.iconst 1, 1) := by decide +kernel
theorem dX3_coughs_102 : decode cX3_coughs 102 = .ok (.iload 5, 2) := by decide +kernel
theorem dX3_coughs_104 : decode cX3_coughs 104 = .ok (.ishl, 1) := by decide +kernel
theorem dX3_coughs_105 : decode cX3_coughs 105 = .ok (.if_icmp .ge 67, 3) := by decide +kernel
theorem dX3_coughs_108 : decode cX3_coughs 108 = .ok (.iload 10, 2) := by decide +kernel
theorem dX3_coughs_110 : decode cX3_coughs 110 = .ok (.iload 5, 2) := by decide +kernel
theorem dX3_coughs_112 : decode cX3_coughs 112 = .ok (.iload 6, 2) := by decide +kernel
theorem dX3_coughs_114 : decode cX3_coughs 114 = .ok (.invokestatic 226, 3) := by decide +kernel
theorem dX3_coughs_117 : decode cX3_coughs 117 = .ok (.istore 11, 2) := by decide +kernel
theorem dX3_coughs_119 : decode cX3_coughs 119 = .ok (.iload 11, 2) := by decide +kernel
theorem dX3_coughs_121 : decode cX3_coughs 121 = .ok (.ifCond .le 45, 3) := by decide +kernel
theorem dX3_coughs_124 : decode cX3_coughs 124 = .ok (.aload_n 0, 1) := by decide +kernel
theorem dX3_coughs_125 : decode cX3_coughs 125 = .ok (.getfield 29, 3) := by decide +kernel
theorem dX3_coughs_128 : decode cX3_coughs 128 = .ok (.aload_n 0, 1) := by decide +kernel
theorem dX3_coughs_129 : decode cX3_coughs 129 = .ok (.getfield 25, 3) := by decide +kernel
theorem dX3_coughs_132 : decode cX3_coughs 132 = .ok (.invokevirtual 137, 3) := by decide +kernel
theorem dX3_coughs_135 : decode cX3_coughs 135 = .ok (.aload_n 0, 1) := by decide +kernel
theorem dX3_coughs_136 : decode cX3_coughs 136 = .ok (.iload_n 2, 1) := by decide +kernel
theorem dX3_coughs_137 : decode cX3_coughs 137 = .ok (.iload 5, 2) := by decide +kernel
theorem dX3_coughs_139 : decode cX3_coughs 139 = .ok (.iload 10, 2) := by decide +kernel
theorem dX3_coughs_141 : decode cX3_coughs 141 = .ok (.invokevirtual 202, 3) := by decide +kernel
theorem dX3_coughs_144 : decode cX3_coughs 144 = .ok (.iload 9, 2) := by decide +kernel
theorem dX3_coughs_146 : decode cX3_coughs 146 = .ok (.aload_n 0, 1) := by decide +kernel
theorem dX3_coughs_147 : decode cX3_coughs 147 = .ok (.getfield 29, 3) := by decide +kernel
theorem dX3_coughs_150 : decode cX3_coughs 150 = .ok (.iload_n 1, 1) := by decide +kernel
theorem dX3_coughs_151 : decode cX3_coughs 151 = .ok (.invokevirtual 179, 3) := by decide +kernel
theorem dX3_coughs_154 : decode cX3_coughs 154 = .ok (.ifCond .eq 8, 3) := by decide +kernel
theorem dX3_coughs_157 : decode cX3_coughs 157 = .ok (.iload 11, 2) := by decide +kernel
theorem dX3_coughs_159 : decode cX3_coughs 159 = .ok (.goto 4, 3) := by decide +kernel
theorem dX3_coughs_162 : decode cX3_coughs 162 = .ok (.iconst 0, 1) := by decide +kernel
theorem dX3_coughs_163 : decode cX3_coughs 163 = .ok (.iadd, 1) := by decide +kernel
theorem dX3_coughs_164 : decode cX3_coughs 164 = .ok (.istore 9, 2) := by decide +kernel
theorem dX3_coughs_166 : decode cX3_coughs 166 = .ok (.iinc 10 1, 3) := by decide +kernel
theorem dX3_coughs_169 : decode cX3_coughs 169 = .ok (.goto (-70), 3) := by decide +kernel
theorem dX3_coughs_172 : decode cX3_coughs 172 = .ok (.bipush 10, 2) := by decide +kernel
theorem dX3_coughs_174 : decode cX3_coughs 174 = .ok (.iload 5, 2) := by decide +kernel
theorem dX3_coughs_176 : decode cX3_coughs 176 = .ok (.invokestatic 229, 3) := by decide +kernel
theorem dX3_coughs_179 : decode cX3_coughs 179 = .ok (.istore 10, 2) := by decide +kernel
theorem dX3_coughs_181 : decode cX3_coughs 181 = .ok (.iload 9, 2) := by decide +kernel
theorem dX3_coughs_183 : decode cX3_coughs 183 = .ok (.iload 10, 2) := by decide +kernel
theorem dX3_coughs_185 : decode cX3_coughs 185 = .ok (.invokestatic 233, 3) := by decide +kernel
theorem dX3_coughs_188 : decode cX3_coughs 188 = .ok (.istore 11, 2) := by decide +kernel
theorem dX3_coughs_190 : decode cX3_coughs 190 = .ok (.aload_n 0, 1) := by decide +kernel
theorem dX3_coughs_191 : decode cX3_coughs 191 = .ok (.iload 7, 2) := by decide +kernel
theorem dX3_coughs_193 : decode cX3_coughs 193 = .ok (.ifCond .ne 8, 3) := by decide +kernel
theorem dX3_coughs_196 : decode cX3_coughs 196 = .ok (.iload 9, 2) := by decide +kernel
theorem dX3_coughs_198 : decode cX3_coughs 198 = .ok (.goto 5, 3) := by decide +kernel
theorem dX3_coughs_201 : decode cX3_coughs 201 = .ok (.iload 10, 2) := by decide +kernel
theorem dX3_coughs_203 : decode cX3_coughs 203 = .ok (.iload 11, 2) := by decide +kernel
theorem dX3_coughs_205 : decode cX3_coughs 205 = .ok (.idiv, 1) := by decide +kernel
theorem dX3_coughs_206 : decode cX3_coughs 206 = .ok (.invokevirtual 93, 3) := by decide +kernel
theorem dX3_coughs_209 : decode cX3_coughs 209 = .ok (.ireturn, 1) := by decide +kernel
theorem dX3_image_0 : decode cX3_image 0 = .ok (.iload_n 1, 1) := by decide +kernel
theorem dX3_image_1 : decode cX3_image 1 = .ok (.iconst 2, 1) := by decide +kernel
theorem dX3_image_2 : decode cX3_image 2 = .ok (.invokestatic 80, 3) := by decide +kernel
theorem dX3_image_5 : decode cX3_image 5 = .ok (.ifCond .eq 6, 3) := by decide +kernel
theorem dX3_image_8 : decode cX3_image 8 = .ok (.ldc 84, 2) := by decide +kernel
theorem dX3_image_10 : decode cX3_image 10 = .ok (.ireturn, 1) := by decide +kernel
theorem dX3_image_11 : decode cX3_image 11 = .ok (.aload_n 0, 1) := by decide +kernel
theorem dX3_image_12 : decode cX3_image 12 = .ok (.getfield 25, 3) := by decide +kernel
theorem dX3_image_15 : decode cX3_image 15 = .ok (.getfield 143, 3) := by decide +kernel
theorem dX3_image_18 : decode cX3_image 18 = .ok (.ifCond .ne 6, 3) := by decide +kernel
theorem dX3_image_21 : decode cX3_image 21 = .ok (.ldc 146, 2) := by decide +kernel
theorem dX3_image_23 : decode cX3_image 23 = .ok (.ireturn, 1) := by decide +kernel
theorem dX3_image_24 : decode cX3_image 24 = .ok (.aload_n 0, 1) := by decide +kernel
theorem dX3_image_25 : decode cX3_image 25 = .ok (.getfield 32, 3) := by decide +kernel
theorem dX3_image_28 : decode cX3_image 28 = .ok (.iload_n 1, 1) := by decide +kernel
theorem dX3_image_29 : decode cX3_image 29 = .ok (.aaload, 1) := by decide +kernel
theorem dX3_image_30 : decode cX3_image 30 = .ok (.aload_n 0, 1) := by decide +kernel
theorem dX3_image_31 : decode cX3_image 31 = .ok (.getfield 25, 3) := by decide +kernel
theorem dX3_image_34 : decode cX3_image 34 = .ok (.invokevirtual 137, 3) := by decide +kernel
theorem dX3_image_37 : decode cX3_image 37 = .ok (.iconst 1, 1) := by decide +kernel
theorem dX3_image_38 : decode cX3_image 38 = .ok (.ireturn, 1) := by decide +kernel
theorem dX3_restore_0 : decode cX3_restore 0 = .ok (.iload_n 1, 1) := by decide +kernel
theorem dX3_restore_1 : decode cX3_restore 1 = .ok (.iconst 2, 1) := by decide +kernel
theorem dX3_restore_2 : decode cX3_restore 2 = .ok (.invokestatic 80, 3) := by decide +kernel
theorem dX3_restore_5 : decode cX3_restore 5 = .ok (.ifCond .eq 6, 3) := by decide +kernel
theorem dX3_restore_8 : decode cX3_restore 8 = .ok (.ldc 84, 2) := by decide +kernel
theorem dX3_restore_10 : decode cX3_restore 10 = .ok (.ireturn, 1) := by decide +kernel
theorem dX3_restore_11 : decode cX3_restore 11 = .ok (.aload_n 0, 1) := by decide +kernel
theorem dX3_restore_12 : decode cX3_restore 12 = .ok (.getfield 32, 3) := by decide +kernel
theorem dX3_restore_15 : decode cX3_restore 15 = .ok (.iload_n 1, 1) := by decide +kernel
theorem dX3_restore_16 : decode cX3_restore 16 = .ok (.aaload, 1) := by decide +kernel
theorem dX3_restore_17 : decode cX3_restore 17 = .ok (.getfield 143, 3) := by decide +kernel
theorem dX3_restore_20 : decode cX3_restore 20 = .ok (.ifCond .ne 6, 3) := by decide +kernel
theorem dX3_restore_23 : decode cX3_restore 23 = .ok (.ldc 146, 2) := by decide +kernel
theorem dX3_restore_25 : decode cX3_restore 25 = .ok (.ireturn, 1) := by decide +kernel
theorem dX3_restore_26 : decode cX3_restore 26 = .ok (.aload_n 0, 1) := by decide +kernel
theorem dX3_restore_27 : decode cX3_restore 27 = .ok (.getfield 25, 3) := by decide +kernel
theorem dX3_restore_30 : decode cX3_restore 30 = .ok (.aload_n 0, 1) := by decide +kernel
theorem dX3_restore_31 : decode cX3_restore 31 = .ok (.getfield 32, 3) := by decide +kernel
theorem dX3_restore_34 : decode cX3_restore 34 = .ok (.iload_n 1, 1) := by decide +kernel
theorem dX3_restore_35 : decode cX3_restore 35 = .ok (.aaload, 1) := by decide +kernel
theorem dX3_restore_36 : decode cX3_restore 36 = .ok (.invokevirtual 137, 3) := by decide +kernel
theorem dX3_restore_39 : decode cX3_restore 39 = .ok (.aload_n 0, 1) := by decide +kernel
theorem dX3_restore_40 : decode cX3_restore 40 = .ok (.iconst 0, 1) := by decide +kernel
theorem dX3_restore_41 : decode cX3_restore 41 = .ok (.putfield 41, 3) := by decide +kernel
theorem dX3_restore_44 : decode cX3_restore 44 = .ok (.iconst 1, 1) := by decide +kernel
theorem dX3_restore_45 : decode cX3_restore 45 = .ok (.ireturn, 1) := by decide +kernel
theorem dX3_kind_0 : decode cX3_kind 0 = .ok (.iload_n 1, 1) := by decide +kernel
theorem dX3_kind_1 : decode cX3_kind 1 = .ok (.aload_n 0, 1) := by decide +kernel
theorem dX3_kind_2 : decode cX3_kind 2 = .ok (.getfield 25, 3) := by decide +kernel
theorem dX3_kind_5 : decode cX3_kind 5 = .ok (.getfield 140, 3) := by decide +kernel
theorem dX3_kind_8 : decode cX3_kind 8 = .ok (.invokestatic 80, 3) := by decide +kernel
theorem dX3_kind_11 : decode cX3_kind 11 = .ok (.ifCond .eq 8, 3) := by decide +kernel
theorem dX3_kind_14 : decode cX3_kind 14 = .ok (.ldc 84, 2) := by decide +kernel
theorem dX3_kind_16 : decode cX3_kind 16 = .ok (.goto 12, 3) := by decide +kernel
theorem dX3_kind_19 : decode cX3_kind 19 = .ok (.aload_n 0, 1) := by decide +kernel
theorem dX3_kind_20 : decode cX3_kind 20 = .ok (.getfield 25, 3) := by decide +kernel
theorem dX3_kind_23 : decode cX3_kind 23 = .ok (.getfield 236, 3) := by decide +kernel
theorem dX3_kind_26 : decode cX3_kind 26 = .ok (.iload_n 1, 1) := by decide +kernel
theorem dX3_kind_27 : decode cX3_kind 27 = .ok (.iaload, 1) := by decide +kernel
theorem dX3_kind_28 : decode cX3_kind 28 = .ok (.ireturn, 1) := by decide +kernel
theorem dX3_as_0 : decode cX3_as 0 = .ok (.iload_n 1, 1) := by decide +kernel
theorem dX3_as_1 : decode cX3_as 1 = .ok (.aload_n 0, 1) := by decide +kernel
theorem dX3_as_2 : decode cX3_as 2 = .ok (.getfield 25, 3) := by decide +kernel
theorem dX3_as_5 : decode cX3_as 5 = .ok (.getfield 140, 3) := by decide +kernel
theorem dX3_as_8 : decode cX3_as 8 = .ok (.invokestatic 80, 3) := by decide +kernel
theorem dX3_as_11 : decode cX3_as 11 = .ok (.ifCond .ne 12, 3) := by decide +kernel
theorem dX3_as_14 : decode cX3_as 14 = .ok (.iload_n 2, 1) := by decide +kernel
theorem dX3_as_15 : decode cX3_as 15 = .ok (.bipush 6, 2) := by decide +kernel
theorem dX3_as_17 : decode cX3_as 17 = .ok (.invokestatic 80, 3) := by decide +kernel
theorem dX3_as_20 : decode cX3_as 20 = .ok (.ifCond .eq 6, 3) := by decide +kernel
theorem dX3_as_23 : decode cX3_as 23 = .ok (.ldc 84, 2) := by decide +kernel
theorem dX3_as_25 : decode cX3_as 25 = .ok (.ireturn, 1) := by decide +kernel
theorem dX3_as_26 : decode cX3_as 26 = .ok (.aload_n 0, 1) := by decide +kernel
theorem dX3_as_27 : decode cX3_as 27 = .ok (.getfield 25, 3) := by decide +kernel
theorem dX3_as_30 : decode cX3_as 30 = .ok (.getfield 236, 3) := by decide +kernel
theorem dX3_as_33 : decode cX3_as 33 = .ok (.iload_n 1, 1) := by decide +kernel
theorem dX3_as_34 : decode cX3_as 34 = .ok (.iaload, 1) := by decide +kernel
theorem dX3_as_35 : decode cX3_as 35 = .ok (.iload_n 2, 1) := by decide +kernel
theorem dX3_as_36 : decode cX3_as 36 = .ok (.invokestatic 239, 3) := by decide +kernel
theorem dX3_as_39 : decode cX3_as 39 = .ok (.ifCond .eq 11, 3) := by decide +kernel
theorem dX3_as_42 : decode cX3_as 42 = .ok (.aload_n 0, 1) := by decide +kernel
theorem dX3_as_43 : decode cX3_as 43 = .ok (.iload_n 1, 1) := by decide +kernel
theorem dX3_as_44 : decode cX3_as 44 = .ok (.invokevirtual 93, 3) := by decide +kernel
theorem dX3_as_47 : decode cX3_as 47 = .ok (.goto 8, 3) := by decide +kernel
theorem dX3_as_50 : decode cX3_as 50 = .ok (.aload_n 0, 1) := by decide +kernel
theorem dX3_as_51 : decode cX3_as 51 = .ok (.iconst 3, 1) := by decide +kernel
theorem dX3_as_52 : decode cX3_as 52 = .ok (.invokevirtual 85, 3) := by decide +kernel
theorem dX3_as_55 : decode cX3_as 55 = .ok (.ireturn, 1) := by decide +kernel
theorem dX3_ask_0 : decode cX3_ask 0 = .ok (.iload_n 1, 1) := by decide +kernel
theorem dX3_ask_1 : decode cX3_ask 1 = .ok (.aload_n 0, 1) := by decide +kernel
theorem dX3_ask_2 : decode cX3_ask 2 = .ok (.getfield 25, 3) := by decide +kernel
theorem dX3_ask_5 : decode cX3_ask 5 = .ok (.getfield 140, 3) := by decide +kernel
theorem dX3_ask_8 : decode cX3_ask 8 = .ok (.invokestatic 80, 3) := by decide +kernel
theorem dX3_ask_11 : decode cX3_ask 11 = .ok (.ifCond .ne 11, 3) := by decide +kernel
theorem dX3_ask_14 : decode cX3_ask 14 = .ok (.iload_n 2, 1) := by decide +kernel
theorem dX3_ask_15 : decode cX3_ask 15 = .ok (.iconst 2, 1) := by decide +kernel
theorem dX3_ask_16 : decode cX3_ask 16 = .ok (.invokestatic 80, 3) := by decide +kernel
theorem dX3_ask_19 : decode cX3_ask 19 = .ok (.ifCond .eq 6, 3) := by decide +kernel
theorem dX3_ask_22 : decode cX3_ask 22 = .ok (.ldc 84, 2) := by decide +kernel
theorem dX3_ask_24 : decode cX3_ask 24 = .ok (.ireturn, 1) := by decide +kernel
theorem dX3_ask_25 : decode cX3_ask 25 = .ok (.aload_n 0, 1) := by decide +kernel
theorem dX3_ask_26 : decode cX3_ask 26 = .ok (.iconst 0, 1) := by decide +kernel
theorem dX3_ask_27 : decode cX3_ask 27 = .ok (.putfield 70, 3) := by decide +kernel
theorem dX3_ask_30 : decode cX3_ask 30 = .ok (.aload_n 0, 1) := by decide +kernel
theorem dX3_ask_31 : decode cX3_ask 31 = .ok (.getfield 25, 3) := by decide +kernel
theorem dX3_ask_34 : decode cX3_ask 34 = .ok (.getfield 236, 3) := by decide +kernel
theorem dX3_ask_37 : decode cX3_ask 37 = .ok (.iload_n 1, 1) := by decide +kernel
theorem dX3_ask_38 : decode cX3_ask 38 = .ok (.iaload, 1) := by decide +kernel
theorem dX3_ask_39 : decode cX3_ask 39 = .ok (.iconst 1, 1) := by decide +kernel
theorem dX3_ask_40 : decode cX3_ask 40 = .ok (.invokestatic 239, 3) := by decide +kernel
theorem dX3_ask_43 : decode cX3_ask 43 = .ok (.istore_n 3, 1) := by decide +kernel
theorem dX3_ask_44 : decode cX3_ask 44 = .ok (.iload_n 2, 1) := by decide +kernel
theorem dX3_ask_45 : decode cX3_ask 45 = .ok (.ifCond .ne 21, 3) := by decide +kernel
theorem dX3_ask_48 : decode cX3_ask 48 = .ok (.iload_n 3, 1) := by decide +kernel
theorem dX3_ask_49 : decode cX3_ask 49 = .ok (.ifCond .eq 11, 3) := by decide +kernel
theorem dX3_ask_52 : decode cX3_ask 52 = .ok (.aload_n 0, 1) := by decide +kernel
theorem dX3_ask_53 : decode cX3_ask 53 = .ok (.iload_n 1, 1) := by decide +kernel
theorem dX3_ask_54 : decode cX3_ask 54 = .ok (.invokevirtual 242, 3) := by decide +kernel
theorem dX3_ask_57 : decode cX3_ask 57 = .ok (.goto 8, 3) := by decide +kernel
theorem dX3_ask_60 : decode cX3_ask 60 = .ok (.aload_n 0, 1) := by decide +kernel
theorem dX3_ask_61 : decode cX3_ask 61 = .ok (.iload_n 1, 1) := by decide +kernel
theorem dX3_ask_62 : decode cX3_ask 62 = .ok (.invokevirtual 245, 3) := by decide +kernel
theorem dX3_ask_65 : decode cX3_ask 65 = .ok (.ireturn, 1) := by decide +kernel
theorem dX3_ask_66 : decode cX3_ask 66 = .ok (.iload_n 3, 1) := by decide +kernel
theorem dX3_ask_67 : decode cX3_ask 67 = .ok (.ifCond .eq 11, 3) := by decide +kernel
theorem dX3_ask_70 : decode cX3_ask 70 = .ok (.aload_n 0, 1) := by decide +kernel
theorem dX3_ask_71 : decode cX3_ask 71 = .ok (.iload_n 1, 1) := by decide +kernel
theorem dX3_ask_72 : decode cX3_ask 72 = .ok (.invokevirtual 248, 3) := by decide +kernel
theorem dX3_ask_75 : decode cX3_ask 75 = .ok (.goto 8, 3) := by decide +kernel
theorem dX3_ask_78 : decode cX3_ask 78 = .ok (.aload_n 0, 1) := by decide +kernel
theorem dX3_ask_79 : decode cX3_ask 79 = .ok (.iload_n 1, 1) := by decide +kernel
theorem dX3_ask_80 : decode cX3_ask 80 = .ok (.invokevirtual 251, 3) := by decide +kernel
theorem dX3_ask_83 : decode cX3_ask 83 = .ok (.ireturn, 1) := by decide +kernel
theorem dX3_trace_0 : decode cX3_trace 0 = .ok (.iload_n 1, 1) := by decide +kernel
theorem dX3_trace_1 : decode cX3_trace 1 = .ok (.aload_n 0, 1) := by decide +kernel
theorem dX3_trace_2 : decode cX3_trace 2 = .ok (.getfield 70, 3) := by decide +kernel
theorem dX3_trace_5 : decode cX3_trace 5 = .ok (.invokestatic 80, 3) := by decide +kernel
theorem dX3_trace_8 : decode cX3_trace 8 = .ok (.ifCond .eq 8, 3) := by decide +kernel
theorem dX3_trace_11 : decode cX3_trace 11 = .ok (.ldc 221, 2) := by decide +kernel
theorem dX3_trace_13 : decode cX3_trace 13 = .ok (.goto 9, 3) := by decide +kernel
theorem dX3_trace_16 : decode cX3_trace 16 = .ok (.aload_n 0, 1) := by decide +kernel
theorem dX3_trace_17 : decode cX3_trace 17 = .ok (.getfield 67, 3) := by decide +kernel
theorem dX3_trace_20 : decode cX3_trace 20 = .ok (.iload_n 1, 1) := by decide +kernel
theorem dX3_trace_21 : decode cX3_trace 21 = .ok (.iaload, 1) := by decide +kernel
theorem dX3_trace_22 : decode cX3_trace 22 = .ok (.ireturn, 1) := by decide +kernel
theorem dX3_count_0 : decode cX3_count 0 = .ok (.iload_n 1, 1) := by decide +kernel
theorem dX3_count_1 : decode cX3_count 1 = .ok (.tableswitch 105 0 7 #[47, 52, 60, 68, 76, 84, 92, 97], 47) := by decide +kernel
theorem dX3_count_48 : decode cX3_count 48 = .ok (.aload_n 0, 1) := by decide +kernel
theorem dX3_count_49 : decode cX3_count 49 = .ok (.invokevirtual 254, 3) := by decide +kernel
theorem dX3_count_52 : decode cX3_count 52 = .ok (.ireturn, 1) := by decide +kernel
theorem dX3_count_53 : decode cX3_count 53 = .ok (.aload_n 0, 1) := by decide +kernel
theorem dX3_count_54 : decode cX3_count 54 = .ok (.getfield 25, 3) := by decide +kernel
theorem dX3_count_57 : decode cX3_count 57 = .ok (.getfield 147, 3) := by decide +kernel
theorem dX3_count_60 : decode cX3_count 60 = .ok (.ireturn, 1) := by decide +kernel
theorem dX3_count_61 : decode cX3_count 61 = .ok (.aload_n 0, 1) := by decide +kernel
theorem dX3_count_62 : decode cX3_count 62 = .ok (.getfield 25, 3) := by decide +kernel
theorem dX3_count_65 : decode cX3_count 65 = .ok (.getfield 140, 3) := by decide +kernel
theorem dX3_count_68 : decode cX3_count 68 = .ok (.ireturn, 1) := by decide +kernel
theorem dX3_count_69 : decode cX3_count 69 = .ok (.aload_n 0, 1) := by decide +kernel
theorem dX3_count_70 : decode cX3_count 70 = .ok (.getfield 25, 3) := by decide +kernel
theorem dX3_count_73 : decode cX3_count 73 = .ok (.getfield 257, 3) := by decide +kernel
theorem dX3_count_76 : decode cX3_count 76 = .ok (.ireturn, 1) := by decide +kernel
theorem dX3_count_77 : decode cX3_count 77 = .ok (.aload_n 0, 1) := by decide +kernel
theorem dX3_count_78 : decode cX3_count 78 = .ok (.getfield 25, 3) := by decide +kernel
theorem dX3_count_81 : decode cX3_count 81 = .ok (.getfield 260, 3) := by decide +kernel
theorem dX3_count_84 : decode cX3_count 84 = .ok (.ireturn, 1) := by decide +kernel
theorem dX3_count_85 : decode cX3_count 85 = .ok (.aload_n 0, 1) := by decide +kernel
theorem dX3_count_86 : decode cX3_count 86 = .ok (.getfield 25, 3) := by decide +kernel
theorem dX3_count_89 : decode cX3_count 89 = .ok (.invokevirtual 160, 3) := by decide +kernel
theorem dX3_count_92 : decode cX3_count 92 = .ok (.ireturn, 1) := by decide +kernel
theorem dX3_count_93 : decode cX3_count 93 = .ok (.aload_n 0, 1) := by decide +kernel
theorem dX3_count_94 : decode cX3_count 94 = .ok (.getfield 41, 3) := by decide +kernel
theorem dX3_count_97 : decode cX3_count 97 = .ok (.ireturn, 1) := by decide +kernel
theorem dX3_count_98 : decode cX3_count 98 = .ok (.aload_n 0, 1) := by decide +kernel
theorem dX3_count_99 : decode cX3_count 99 = .ok (.getfield 18, 3) := by decide +kernel
theorem dX3_count_102 : decode cX3_count 102 = .ok (.getfield 121, 3) := by decide +kernel
theorem dX3_count_105 : decode cX3_count 105 = .ok (.ireturn, 1) := by decide +kernel
theorem dX3_count_106 : decode cX3_count 106 = .ok (.ldc 84, 2) := by decide +kernel
theorem dX3_count_108 : decode cX3_count 108 = .ok (.ireturn, 1) := by decide +kernel
theorem dX3_status_0 : decode cX3_status 0 = .ok (.aload_n 0, 1) := by decide +kernel
theorem dX3_status_1 : decode cX3_status 1 = .ok (.getfield 76, 3) := by decide +kernel
theorem dX3_status_4 : decode cX3_status 4 = .ok (.ireturn, 1) := by decide +kernel
theorem dX3_isNot_0 : decode cX3_isNot 0 = .ok (.iload_n 0, 1) := by decide +kernel
theorem dX3_isNot_1 : decode cX3_isNot 1 = .ok (.ifCond .lt 8, 3) := by decide +kernel
theorem dX3_isNot_4 : decode cX3_isNot 4 = .ok (.iload_n 0, 1) := by decide +kernel
theorem dX3_isNot_5 : decode cX3_isNot 5 = .ok (.iload_n 1, 1) := by decide +kernel
theorem dX3_isNot_6 : decode cX3_isNot 6 = .ok (.if_icmp .lt 7, 3) := by decide +kernel
theorem dX3_isNot_9 : decode cX3_isNot 9 = .ok (.iconst 1, 1) := by decide +kernel
theorem dX3_isNot_10 : decode cX3_isNot 10 = .ok (.goto 4, 3) := by decide +kernel
theorem dX3_isNot_13 : decode cX3_isNot 13 = .ok (.iconst 0, 1) := by decide +kernel
theorem dX3_isNot_14 : decode cX3_isNot 14 = .ok (.ireturn, 1) := by decide +kernel
theorem dX3_found_0 : decode cX3_found 0 = .ok (.aload_n 0, 1) := by decide +kernel
theorem dX3_found_1 : decode cX3_found 1 = .ok (.iload_n 1, 1) := by decide +kernel
theorem dX3_found_2 : decode cX3_found 2 = .ok (.putfield 76, 3) := by decide +kernel
theorem dX3_found_5 : decode cX3_found 5 = .ok (.ldc_w 263, 3) := by decide +kernel
theorem dX3_found_8 : decode cX3_found 8 = .ok (.iload_n 1, 1) := by decide +kernel
theorem dX3_found_9 : decode cX3_found 9 = .ok (.isub, 1) := by decide +kernel
theorem dX3_found_10 : decode cX3_found 10 = .ok (.ireturn, 1) := by decide +kernel
theorem dX3_fine_0 : decode cX3_fine 0 = .ok (.aload_n 0, 1) := by decide +kernel
theorem dX3_fine_1 : decode cX3_fine 1 = .ok (.iconst 0, 1) := by decide +kernel
theorem dX3_fine_2 : decode cX3_fine 2 = .ok (.putfield 76, 3) := by decide +kernel
theorem dX3_fine_5 : decode cX3_fine 5 = .ok (.iload_n 1, 1) := by decide +kernel
theorem dX3_fine_6 : decode cX3_fine 6 = .ok (.ireturn, 1) := by decide +kernel
theorem dX3_rowsThere_0 : decode cX3_rowsThere 0 = .ok (.iconst 0, 1) := by decide +kernel
theorem dX3_rowsThere_1 : decode cX3_rowsThere 1 = .ok (.istore_n 1, 1) := by decide +kernel
theorem dX3_rowsThere_2 : decode cX3_rowsThere 2 = .ok (.iconst 0, 1) := by decide +kernel
theorem dX3_rowsThere_3 : decode cX3_rowsThere 3 = .ok (.istore_n 2, 1) := by decide +kernel
theorem dX3_rowsThere_4 : decode cX3_rowsThere 4 = .ok (.iload_n 2, 1) := by decide +kernel
theorem dX3_rowsThere_5 : decode cX3_rowsThere 5 = .ok (.bipush 8, 2) := by decide +kernel
theorem dX3_rowsThere_7 : decode cX3_rowsThere 7 = .ok (.if_icmp .ge 29, 3) := by decide +kernel
theorem dX3_rowsThere_10 : decode cX3_rowsThere 10 = .ok (.iload_n 1, 1) := by decide +kernel
theorem dX3_rowsThere_11 : decode cX3_rowsThere 11 = .ok (.aload_n 0, 1) := by decide +kernel
theorem dX3_rowsThere_12 : decode cX3_rowsThere 12 = .ok (.getfield 11, 3) := by decide +kernel
theorem dX3_rowsThere_15 : decode cX3_rowsThere 15 = .ok (.iload_n 2, 1) := by decide +kernel
theorem dX3_rowsThere_16 : decode cX3_rowsThere 16 = .ok (.aaload, 1) := by decide +kernel
theorem dX3_rowsThere_17 : decode cX3_rowsThere 17 = .ok (.getfield 96, 3) := by decide +kernel
theorem dX3_rowsThere_20 : decode cX3_rowsThere 20 = .ok (.ifCond .eq 7, 3) := by decide +kernel
theorem dX3_rowsThere_23 : decode cX3_rowsThere 23 = .ok (.iconst 1, 1) := by decide +kernel
theorem dX3_rowsThere_24 : decode cX3_rowsThere 24 = .ok (.goto 4, 3) := by decide +kernel
theorem dX3_rowsThere_27 : decode cX3_rowsThere 27 = .ok (.iconst 0, 1) := by decide +kernel
theorem dX3_rowsThere_28 : decode cX3_rowsThere 28 = .ok (.iadd, 1) := by decide +kernel
theorem dX3_rowsThere_29 : decode cX3_rowsThere 29 = .ok (.istore_n 1, 1) := by decide +kernel
theorem dX3_rowsThere_30 : decode cX3_rowsThere 30 = .ok (.iinc 2 1, 3) := by decide +kernel
theorem dX3_rowsThere_33 : decode cX3_rowsThere 33 = .ok (.goto (-29), 3) := by decide +kernel
theorem dX3_rowsThere_36 : decode cX3_rowsThere 36 = .ok (.iload_n 1, 1) := by decide +kernel
theorem dX3_rowsThere_37 : decode cX3_rowsThere 37 = .ok (.ireturn, 1) := by decide +kernel
theorem dX3_keepAct_0 : decode cX3_keepAct 0 = .ok (.aload_n 0, 1) := by decide +kernel
theorem dX3_keepAct_1 : decode cX3_keepAct 1 = .ok (.getfield 25, 3) := by decide +kernel
theorem dX3_keepAct_4 : decode cX3_keepAct 4 = .ok (.aload_n 0, 1) := by decide +kernel
theorem dX3_keepAct_5 : decode cX3_keepAct 5 = .ok (.getfield 38, 3) := by decide +kernel
theorem dX3_keepAct_8 : decode cX3_keepAct 8 = .ok (.aload_n 0, 1) := by decide +kernel
theorem dX3_keepAct_9 : decode cX3_keepAct 9 = .ok (.getfield 45, 3) := by decide +kernel
theorem dX3_keepAct_12 : decode cX3_keepAct 12 = .ok (.aaload, 1) := by decide +kernel
theorem dX3_keepAct_13 : decode cX3_keepAct 13 = .ok (.invokevirtual 264, 3) := by decide +kernel
theorem dX3_keepAct_16 : decode cX3_keepAct 16 = .ok (.aload_n 0, 1) := by decide +kernel
theorem dX3_keepAct_17 : decode cX3_keepAct 17 = .ok (.aload_n 0, 1) := by decide +kernel
theorem dX3_keepAct_18 : decode cX3_keepAct 18 = .ok (.getfield 45, 3) := by decide +kernel
theorem dX3_keepAct_21 : decode cX3_keepAct 21 = .ok (.bipush 23, 2) := by decide +kernel
theorem dX3_keepAct_23 : decode cX3_keepAct 23 = .ok (.if_icmp .ne 7, 3) := by decide +kernel
theorem dX3_keepAct_26 : decode cX3_keepAct 26 = .ok (.iconst 0, 1) := by decide +kernel
theorem dX3_keepAct_27 : decode cX3_keepAct 27 = .ok (.goto 9, 3) := by decide +kernel
theorem dX3_keepAct_30 : decode cX3_keepAct 30 = .ok (.aload_n 0, 1) := by decide +kernel
theorem dX3_keepAct_31 : decode cX3_keepAct 31 = .ok (.getfield 45, 3) := by decide +kernel
theorem dX3_keepAct_34 : decode cX3_keepAct 34 = .ok (.iconst 1, 1) := by decide +kernel
theorem dX3_keepAct_35 : decode cX3_keepAct 35 = .ok (.iadd, 1) := by decide +kernel
theorem dX3_keepAct_36 : decode cX3_keepAct 36 = .ok (.putfield 45, 3) := by decide +kernel
theorem dX3_keepAct_39 : decode cX3_keepAct 39 = .ok (.aload_n 0, 1) := by decide +kernel
theorem dX3_keepAct_40 : decode cX3_keepAct 40 = .ok (.aload_n 0, 1) := by decide +kernel
theorem dX3_keepAct_41 : decode cX3_keepAct 41 = .ok (.getfield 41, 3) := by decide +kernel
theorem dX3_keepAct_44 : decode cX3_keepAct 44 = .ok (.iconst 1, 1) := by decide +kernel
theorem dX3_keepAct_45 : decode cX3_keepAct 45 = .ok (.iadd, 1) := by decide +kernel
theorem dX3_keepAct_46 : decode cX3_keepAct 46 = .ok (.bipush 24, 2) := by decide +kernel
theorem dX3_keepAct_48 : decode cX3_keepAct 48 = .ok (.invokestatic 267, 3) := by decide +kernel
theorem dX3_keepAct_51 : decode cX3_keepAct 51 = .ok (.putfield 41, 3) := by decide +kernel
theorem dX3_keepAct_54 : decode cX3_keepAct 54 = .ok (.return_, 1) := by decide +kernel
theorem dX3_takeTune_0 : decode cX3_takeTune 0 = .ok (.aload_n 1, 1) := by decide +kernel
theorem dX3_takeTune_1 : decode cX3_takeTune 1 = .ok (.getfield 96, 3) := by decide +kernel
theorem dX3_takeTune_4 : decode cX3_takeTune 4 = .ok (.ifCond .ne 9, 3) := by decide +kernel
theorem dX3_takeTune_7 : decode cX3_takeTune 7 = .ok (.aload_n 0, 1) := by decide +kernel
theorem dX3_takeTune_8 : decode cX3_takeTune 8 = .ok (.iconst 1, 1) := by decide +kernel
theorem dX3_takeTune_9 : decode cX3_takeTune 9 = .ok (.invokevirtual 85, 3) := by decide +kernel
theorem dX3_takeTune_12 : decode cX3_takeTune 12 = .ok (.ireturn, 1) := by decide +kernel
theorem dX3_takeTune_13 : decode cX3_takeTune 13 = .ok (.aload_n 1, 1) := by decide +kernel
theorem dX3_takeTune_14 : decode cX3_takeTune 14 = .ok (.iload_n 2, 1) := by decide +kernel
theorem dX3_takeTune_15 : decode cX3_takeTune 15 = .ok (.iload_n 3, 1) := by decide +kernel
theorem dX3_takeTune_16 : decode cX3_takeTune 16 = .ok (.invokevirtual 100, 3) := by decide +kernel
theorem dX3_takeTune_19 : decode cX3_takeTune 19 = .ok (.ifCond .ne 9, 3) := by decide +kernel
theorem dX3_takeTune_22 : decode cX3_takeTune 22 = .ok (.aload_n 0, 1) := by decide +kernel
theorem dX3_takeTune_23 : decode cX3_takeTune 23 = .ok (.iconst 2, 1) := by decide +kernel
theorem dX3_takeTune_24 : decode cX3_takeTune 24 = .ok (.invokevirtual 85, 3) := by decide +kernel
theorem dX3_takeTune_27 : decode cX3_takeTune 27 = .ok (.ireturn, 1) := by decide +kernel
theorem dX3_takeTune_28 : decode cX3_takeTune 28 = .ok (.iconst 0, 1) := by decide +kernel
theorem dX3_takeTune_29 : decode cX3_takeTune 29 = .ok (.istore 4, 2) := by decide +kernel
theorem dX3_takeTune_31 : decode cX3_takeTune 31 = .ok (.iload 4, 2) := by decide +kernel
theorem dX3_takeTune_33 : decode cX3_takeTune 33 = .ok (.iload_n 3, 1) := by decide +kernel
theorem dX3_takeTune_34 : decode cX3_takeTune 34 = .ok (.if_icmp .ge 45, 3) := by decide +kernel
theorem dX3_takeTune_37 : decode cX3_takeTune 37 = .ok (.aload_n 1, 1) := by decide +kernel
theorem dX3_takeTune_38 : decode cX3_takeTune 38 = .ok (.getfield 103, 3) := by decide +kernel
theorem dX3_takeTune_41 : decode cX3_takeTune 41 = .ok (.iload_n 2, 1) := by decide +kernel
theorem dX3_takeTune_42 : decode cX3_takeTune 42 = .ok (.iload 4, 2) := by decide +kernel
theorem dX3_takeTune_44 : decode cX3_takeTune 44 = .ok (.iadd, 1) := by decide +kernel
theorem dX3_takeTune_45 : decode cX3_takeTune 45 = .ok (.iaload, 1) := by decide +kernel
theorem dX3_takeTune_46 : decode cX3_takeTune 46 = .ok (.bipush 8, 2) := by decide +kernel
theorem dX3_takeTune_48 : decode cX3_takeTune 48 = .ok (.invokestatic 80, 3) := by decide +kernel
theorem dX3_takeTune_51 : decode cX3_takeTune 51 = .ok (.ifCond .eq 6, 3) := by decide +kernel
theorem dX3_takeTune_54 : decode cX3_takeTune 54 = .ok (.ldc 84, 2) := by decide +kernel
theorem dX3_takeTune_56 : decode cX3_takeTune 56 = .ok (.ireturn, 1) := by decide +kernel
theorem dX3_takeTune_57 : decode cX3_takeTune 57 = .ok (.aload_n 0, 1) := by decide +kernel
theorem dX3_takeTune_58 : decode cX3_takeTune 58 = .ok (.getfield 52, 3) := by decide +kernel
theorem dX3_takeTune_61 : decode cX3_takeTune 61 = .ok (.iload 4, 2) := by decide +kernel
theorem dX3_takeTune_63 : decode cX3_takeTune 63 = .ok (.aload_n 1, 1) := by decide +kernel
theorem dX3_takeTune_64 : decode cX3_takeTune 64 = .ok (.getfield 103, 3) := by decide +kernel
theorem dX3_takeTune_67 : decode cX3_takeTune 67 = .ok (.iload_n 2, 1) := by decide +kernel
theorem dX3_takeTune_68 : decode cX3_takeTune 68 = .ok (.iload 4, 2) := by decide +kernel
theorem dX3_takeTune_70 : decode cX3_takeTune 70 = .ok (.iadd, 1) := by decide +kernel
theorem dX3_takeTune_71 : decode cX3_takeTune 71 = .ok (.iaload, 1) := by decide +kernel
theorem dX3_takeTune_72 : decode cX3_takeTune 72 = .ok (.iastore, 1) := by decide +kernel
theorem dX3_takeTune_73 : decode cX3_takeTune 73 = .ok (.iinc 4 1, 3) := by decide +kernel
theorem dX3_takeTune_76 : decode cX3_takeTune 76 = .ok (.goto (-45), 3) := by decide +kernel
theorem dX3_takeTune_79 : decode cX3_takeTune 79 = .ok (.iconst 0, 1) := by decide +kernel
theorem dX3_takeTune_80 : decode cX3_takeTune 80 = .ok (.ireturn, 1) := by decide +kernel
theorem dX3_trySolo_0 : decode cX3_trySolo 0 = .ok (.iconst 0, 1) := by decide +kernel
theorem dX3_trySolo_1 : decode cX3_trySolo 1 = .ok (.istore 4, 2) := by decide +kernel
theorem dX3_trySolo_3 : decode cX3_trySolo 3 = .ok (.iload 4, 2) := by decide +kernel
theorem dX3_trySolo_5 : decode cX3_trySolo 5 = .ok (.iload_n 2, 1) := by decide +kernel
theorem dX3_trySolo_6 : decode cX3_trySolo 6 = .ok (.if_icmp .ge 51, 3) := by decide +kernel
theorem dX3_trySolo_9 : decode cX3_trySolo 9 = .ok (.aload_n 0, 1) := by decide +kernel
theorem dX3_trySolo_10 : decode cX3_trySolo 10 = .ok (.getfield 48, 3) := by decide +kernel
theorem dX3_trySolo_13 : decode cX3_trySolo 13 = .ok (.bipush 7, 2) := by decide +kernel
theorem dX3_trySolo_15 : decode cX3_trySolo 15 = .ok (.invokestatic 272, 3) := by decide +kernel
theorem dX3_trySolo_18 : decode cX3_trySolo 18 = .ok (.iload_n 3, 1) := by decide +kernel
theorem dX3_trySolo_19 : decode cX3_trySolo 19 = .ok (.iload 4, 2) := by decide +kernel
theorem dX3_trySolo_21 : decode cX3_trySolo 21 = .ok (.ishr, 1) := by decide +kernel
theorem dX3_trySolo_22 : decode cX3_trySolo 22 = .ok (.iconst 1, 1) := by decide +kernel
theorem dX3_trySolo_23 : decode cX3_trySolo 23 = .ok (.iand, 1) := by decide +kernel
theorem dX3_trySolo_24 : decode cX3_trySolo 24 = .ok (.ifCond .ne 16, 3) := by decide +kernel
theorem dX3_trySolo_27 : decode cX3_trySolo 27 = .ok (.aload_n 0, 1) := by decide +kernel
theorem dX3_trySolo_28 : decode cX3_trySolo 28 = .ok (.getfield 48, 3) := by decide +kernel
theorem dX3_trySolo_31 : decode cX3_trySolo 31 = .ok (.iload_n 1, 1) := by decide +kernel
theorem dX3_trySolo_32 : decode cX3_trySolo 32 = .ok (.aload_n 0, 1) := by decide +kernel
theorem dX3_trySolo_33 : decode cX3_trySolo 33 = .ok (.getfield 52, 3) := by decide +kernel
theorem dX3_trySolo_36 : decode cX3_trySolo 36 = .ok (.iload 4, 2) := by decide +kernel
theorem dX3_trySolo_38 : decode cX3_trySolo 38 = .ok (.iaload, 1) := by decide +kernel
theorem dX3_trySolo_39 : decode cX3_trySolo 39 = .ok (.iastore, 1) := by decide +kernel
theorem dX3_trySolo_40 : decode cX3_trySolo 40 = .ok (.aload_n 0, 1) := by decide +kernel
theorem dX3_trySolo_41 : decode cX3_trySolo 41 = .ok (.getfield 29, 3) := by decide +kernel
theorem dX3_trySolo_44 : decode cX3_trySolo 44 = .ok (.aload_n 0, 1) := by decide +kernel
theorem dX3_trySolo_45 : decode cX3_trySolo 45 = .ok (.getfield 48, 3) := by decide +kernel
theorem dX3_trySolo_48 : decode cX3_trySolo 48 = .ok (.invokevirtual 278, 3) := by decide +kernel
theorem dX3_trySolo_51 : decode cX3_trySolo 51 = .ok (.iinc 4 1, 3) := by decide +kernel
theorem dX3_trySolo_54 : decode cX3_trySolo 54 = .ok (.goto (-51), 3) := by decide +kernel
theorem dX3_trySolo_57 : decode cX3_trySolo 57 = .ok (.return_, 1) := by decide +kernel
theorem dX3_tryRound_0 : decode cX3_tryRound 0 = .ok (.aload_n 0, 1) := by decide +kernel
theorem dX3_tryRound_1 : decode cX3_tryRound 1 = .ok (.getfield 29, 3) := by decide +kernel
theorem dX3_tryRound_4 : decode cX3_tryRound 4 = .ok (.getfield 147, 3) := by decide +kernel
theorem dX3_tryRound_7 : decode cX3_tryRound 7 = .ok (.ifCond .ne 7, 3) := by decide +kernel
theorem dX3_tryRound_10 : decode cX3_tryRound 10 = .ok (.iconst 0, 1) := by decide +kernel
theorem dX3_tryRound_11 : decode cX3_tryRound 11 = .ok (.goto 14, 3) := by decide +kernel
theorem dX3_tryRound_14 : decode cX3_tryRound 14 = .ok (.aload_n 0, 1) := by decide +kernel
theorem dX3_tryRound_15 : decode cX3_tryRound 15 = .ok (.getfield 29, 3) := by decide +kernel
theorem dX3_tryRound_18 : decode cX3_tryRound 18 = .ok (.getfield 147, 3) := by decide +kernel
theorem dX3_tryRound_21 : decode cX3_tryRound 21 = .ok (.iconst 1, 1) := by decide +kernel
theorem dX3_tryRound_22 : decode cX3_tryRound 22 = .ok (.isub, 1) := by decide +kernel
theorem dX3_tryRound_23 : decode cX3_tryRound 23 = .ok (.iload_n 1, 1) := by decide +kernel
theorem dX3_tryRound_24 : decode cX3_tryRound 24 = .ok (.imul, 1) := by decide +kernel
theorem dX3_tryRound_25 : decode cX3_tryRound 25 = .ok (.istore_n 3, 1) := by decide +kernel
theorem dX3_tryRound_26 : decode cX3_tryRound 26 = .ok (.iconst 0, 1) := by decide +kernel
theorem dX3_tryRound_27 : decode cX3_tryRound 27 = .ok (.istore 4, 2) := by decide +kernel
theorem dX3_tryRound_29 : decode cX3_tryRound 29 = .ok (.iload 4, 2) := by decide +kernel
theorem dX3_tryRound_31 : decode cX3_tryRound 31 = .ok (.iload_n 3, 1) := by decide +kernel
theorem dX3_tryRound_32 : decode cX3_tryRound 32 = .ok (.iload_n 2, 1) := by decide +kernel
theorem dX3_tryRound_33 : decode cX3_tryRound 33 = .ok (.iadd, 1) := by decide +kernel
theorem dX3_tryRound_34 : decode cX3_tryRound 34 = .ok (.if_icmp .ge 84, 3) := by decide +kernel
theorem dX3_tryRound_37 : decode cX3_tryRound 37 = .ok (.aload_n 0, 1) := by decide +kernel
theorem dX3_tryRound_38 : decode cX3_tryRound 38 = .ok (.getfield 48, 3) := by decide +kernel
theorem dX3_tryRound_41 : decode cX3_tryRound 41 = .ok (.bipush 7, 2) := by decide +kernel
theorem dX3_tryRound_43 : decode cX3_tryRound 43 = .ok (.invokestatic 272, 3) := by decide +kernel
theorem dX3_tryRound_46 : decode cX3_tryRound 46 = .ok (.iconst 0, 1) := by decide +kernel
theorem dX3_tryRound_47 : decode cX3_tryRound 47 = .ok (.istore 5, 2) := by decide +kernel
theorem dX3_tryRound_49 : decode cX3_tryRound 49 = .ok (.iload 5, 2) := by decide +kernel
theorem dX3_tryRound_51 : decode cX3_tryRound 51 = .ok (.aload_n 0, 1) := by decide +kernel
theorem dX3_tryRound_52 : decode cX3_tryRound 52 = .ok (.getfield 29, 3) := by decide +kernel
theorem dX3_tryRound_55 : decode cX3_tryRound 55 = .ok (.getfield 147, 3) := by decide +kernel
theorem dX3_tryRound_58 : decode cX3_tryRound 58 = .ok (.if_icmp .ge 43, 3) := by decide +kernel
theorem dX3_tryRound_61 : decode cX3_tryRound 61 = .ok (.iload 4, 2) := by decide +kernel
theorem dX3_tryRound_63 : decode cX3_tryRound 63 = .ok (.iload 5, 2) := by decide +kernel
theorem dX3_tryRound_65 : decode cX3_tryRound 65 = .ok (.iload_n 1, 1) := by decide +kernel
theorem dX3_tryRound_66 : decode cX3_tryRound 66 = .ok (.imul, 1) := by decide +kernel
theorem dX3_tryRound_67 : decode cX3_tryRound 67 = .ok (.isub, 1) := by decide +kernel
theorem dX3_tryRound_68 : decode cX3_tryRound 68 = .ok (.istore 6, 2) := by decide +kernel
theorem dX3_tryRound_70 : decode cX3_tryRound 70 = .ok (.iload 6, 2) := by decide +kernel
theorem dX3_tryRound_72 : decode cX3_tryRound 72 = .ok (.ifCond .lt 23, 3) := by decide +kernel
theorem dX3_tryRound_75 : decode cX3_tryRound 75 = .ok (.iload 6, 2) := by decide +kernel
theorem dX3_tryRound_77 : decode cX3_tryRound 77 = .ok (.iload_n 2, 1) := by decide +kernel
theorem dX3_tryRound_78 : decode cX3_tryRound 78 = .ok (.if_icmp .ge 17, 3) := by decide +kernel
theorem dX3_tryRound_81 : decode cX3_tryRound 81 = .ok (.aload_n 0, 1) := by decide +kernel
theorem dX3_tryRound_82 : decode cX3_tryRound 82 = .ok (.getfield 48, 3) := by decide +kernel
theorem dX3_tryRound_85 : decode cX3_tryRound 85 = .ok (.iload 5, 2) := by decide +kernel
theorem dX3_tryRound_87 : decode cX3_tryRound 87 = .ok (.aload_n 0, 1) := by decide +kernel
theorem dX3_tryRound_88 : decode cX3_tryRound 88 = .ok (.getfield 52, 3) := by decide +kernel
theorem dX3_tryRound_91 : decode cX3_tryRound 91 = .ok (.iload 6, 2) := by decide +kernel
theorem dX3_tryRound_93 : decode cX3_tryRound 93 = .ok (.iaload, 1) := by decide +kernel
theorem dX3_tryRound_94 : decode cX3_tryRound 94 = .ok (.iastore, 1) := by decide +kernel
theorem dX3_tryRound_95 : decode cX3_tryRound 95 = .ok (.iinc 5 1, 3) := by decide +kernel
theorem dX3_tryRound_98 : decode cX3_tryRound 98 = .ok (.goto (-49), 3) := by decide +kernel
theorem dX3_tryRound_101 : decode cX3_tryRound 101 = .ok (.aload_n 0, 1) := by decide +kernel
theorem dX3_tryRound_102 : decode cX3_tryRound 102 = .ok (.getfield 29, 3) := by decide +kernel
theorem dX3_tryRound_105 : decode cX3_tryRound 105 = .ok (.aload_n 0, 1) := by decide +kernel
theorem dX3_tryRound_106 : decode cX3_tryRound 106 = .ok (.getfield 48, 3) := by decide +kernel
theorem dX3_tryRound_109 : decode cX3_tryRound 109 = .ok (.invokevirtual 278, 3) := by decide +kernel
theorem dX3_tryRound_112 : decode cX3_tryRound 112 = .ok (.iinc 4 1, 3) := by decide +kernel
theorem dX3_tryRound_115 : decode cX3_tryRound 115 = .ok (.goto (-86), 3) := by decide +kernel
theorem dX3_tryRound_118 : decode cX3_tryRound 118 = .ok (.return_, 1) := by decide +kernel
theorem dX3_setsWithout_0 : decode cX3_setsWithout 0 = .ok (.aload_n 0, 1) := by decide +kernel
theorem dX3_setsWithout_1 : decode cX3_setsWithout 1 = .ok (.getfield 29, 3) := by decide +kernel
theorem dX3_setsWithout_4 : decode cX3_setsWithout 4 = .ok (.aload_n 0, 1) := by decide +kernel
theorem dX3_setsWithout_5 : decode cX3_setsWithout 5 = .ok (.getfield 25, 3) := by decide +kernel
theorem dX3_setsWithout_8 : decode cX3_setsWithout 8 = .ok (.invokevirtual 137, 3) := by decide +kernel
theorem dX3_setsWithout_11 : decode cX3_setsWithout 11 = .ok (.aload_n 0, 1) := by decide +kernel
theorem dX3_setsWithout_12 : decode cX3_setsWithout 12 = .ok (.getfield 29, 3) := by decide +kernel
theorem dX3_setsWithout_15 : decode cX3_setsWithout 15 = .ok (.getfield 164, 3) := by decide +kernel
theorem dX3_setsWithout_18 : decode cX3_setsWithout 18 = .ok (.iload_n 1, 1) := by decide +kernel
theorem dX3_setsWithout_19 : decode cX3_setsWithout 19 = .ok (.dup2, 1) := by decide +kernel
theorem dX3_setsWithout_20 : decode cX3_setsWithout 20 = .ok (.iaload, 1) := by decide +kernel
theorem dX3_setsWithout_21 : decode cX3_setsWithout 21 = .ok (.iload_n 2, 1) := by decide +kernel
theorem dX3_setsWithout_22 : decode cX3_setsWithout 22 = .ok (.iconst (-1), 1) := by decide +kernel
theorem dX3_setsWithout_23 : decode cX3_setsWithout 23 = .ok (.ixor, 1) := by decide +kernel
theorem dX3_setsWithout_24 : decode cX3_setsWithout 24 = .ok (.iand, 1) := by decide +kernel
theorem dX3_setsWithout_25 : decode cX3_setsWithout 25 = .ok (.iastore, 1) := by decide +kernel
theorem dX3_setsWithout_26 : decode cX3_setsWithout 26 = .ok (.aload_n 0, 1) := by decide +kernel
theorem dX3_setsWithout_27 : decode cX3_setsWithout 27 = .ok (.iload_n 3, 1) := by decide +kernel
theorem dX3_setsWithout_28 : decode cX3_setsWithout 28 = .ok (.iload 4, 2) := by decide +kernel
theorem dX3_setsWithout_30 : decode cX3_setsWithout 30 = .ok (.invokevirtual 206, 3) := by decide +kernel
theorem dX3_setsWithout_33 : decode cX3_setsWithout 33 = .ok (.aload_n 0, 1) := by decide +kernel
theorem dX3_setsWithout_34 : decode cX3_setsWithout 34 = .ok (.getfield 29, 3) := by decide +kernel
theorem dX3_setsWithout_37 : decode cX3_setsWithout 37 = .ok (.iload_n 1, 1) := by decide +kernel
theorem dX3_setsWithout_38 : decode cX3_setsWithout 38 = .ok (.invokevirtual 179, 3) := by decide +kernel
theorem dX3_setsWithout_41 : decode cX3_setsWithout 41 = .ok (.ireturn, 1) := by decide +kernel
theorem dX3_seekSong_0 : decode cX3_seekSong 0 = .ok (.aload_n 0, 1) := by decide +kernel
theorem dX3_seekSong_1 : decode cX3_seekSong 1 = .ok (.iconst (-1), 1) := by decide +kernel
theorem dX3_seekSong_2 : decode cX3_seekSong 2 = .ok (.putfield 61, 3) := by decide +kernel
theorem dX3_seekSong_5 : decode cX3_seekSong 5 = .ok (.aload_n 0, 1) := by decide +kernel
theorem dX3_seekSong_6 : decode cX3_seekSong 6 = .ok (.getfield 29, 3) := by decide +kernel
theorem dX3_seekSong_9 : decode cX3_seekSong 9 = .ok (.aload_n 0, 1) := by decide +kernel
theorem dX3_seekSong_10 : decode cX3_seekSong 10 = .ok (.getfield 25, 3) := by decide +kernel
theorem dX3_seekSong_13 : decode cX3_seekSong 13 = .ok (.invokevirtual 137, 3) := by decide +kernel
theorem dX3_seekSong_16 : decode cX3_seekSong 16 = .ok (.aload_n 0, 1) := by decide +kernel
theorem dX3_seekSong_17 : decode cX3_seekSong 17 = .ok (.getfield 29, 3) := by decide +kernel
theorem dX3_seekSong_20 : decode cX3_seekSong 20 = .ok (.aload_n 0, 1) := by decide +kernel
theorem dX3_seekSong_21 : decode cX3_seekSong 21 = .ok (.getfield 55, 3) := by decide +kernel
theorem dX3_seekSong_24 : decode cX3_seekSong 24 = .ok (.iconst 0, 1) := by decide +kernel
theorem dX3_seekSong_25 : decode cX3_seekSong 25 = .ok (.aaload, 1) := by decide +kernel
theorem dX3_seekSong_26 : decode cX3_seekSong 26 = .ok (.invokevirtual 264, 3) := by decide +kernel
theorem dX3_seekSong_29 : decode cX3_seekSong 29 = .ok (.iconst 0, 1) := by decide +kernel
theorem dX3_seekSong_30 : decode cX3_seekSong 30 = .ok (.istore_n 3, 1) := by decide +kernel
theorem dX3_seekSong_31 : decode cX3_seekSong 31 = .ok (.iload_n 3, 1) := by decide +kernel
theorem dX3_seekSong_32 : decode cX3_seekSong 32 = .ok (.iconst 1, 1) := by decide +kernel
theorem dX3_seekSong_33 : decode cX3_seekSong 33 = .ok (.iconst 3, 1) := by decide +kernel
theorem dX3_seekSong_34 : decode cX3_seekSong 34 = .ok (.iload_n 2, 1) := by decide +kernel
theorem dX3_seekSong_35 : decode cX3_seekSong 35 = .ok (.imul, 1) := by decide +kernel
theorem dX3_seekSong_36 : decode cX3_seekSong 36 = .ok (.ishl, 1) := by decide +kernel
theorem dX3_seekSong_37 : decode cX3_seekSong 37 = .ok (.if_icmp .ge 53, 3) := by decide +kernel
theorem dX3_seekSong_40 : decode cX3_seekSong 40 = .ok (.aload_n 0, 1) := by decide +kernel
theorem dX3_seekSong_41 : decode cX3_seekSong 41 = .ok (.iload_n 1, 1) := by decide +kernel
theorem dX3_seekSong_42 : decode cX3_seekSong 42 = .ok (.iload_n 2, 1) := by decide +kernel
theorem dX3_seekSong_43 : decode cX3_seekSong 43 = .ok (.iload_n 3, 1) := by decide +kernel
theorem dX3_seekSong_44 : decode cX3_seekSong 44 = .ok (.invokevirtual 281, 3) := by decide +kernel
theorem dX3_seekSong_47 : decode cX3_seekSong 47 = .ok (.istore 4, 2) := by decide +kernel
theorem dX3_seekSong_49 : decode cX3_seekSong 49 = .ok (.iload 4, 2) := by decide +kernel
theorem dX3_seekSong_51 : decode cX3_seekSong 51 = .ok (.iload_n 2, 1) := by decide +kernel
theorem dX3_seekSong_52 : decode cX3_seekSong 52 = .ok (.if_icmp .lt 15, 3) := by decide +kernel
theorem dX3_seekSong_55 : decode cX3_seekSong 55 = .ok (.aload_n 0, 1) := by decide +kernel
theorem dX3_seekSong_56 : decode cX3_seekSong 56 = .ok (.iload_n 3, 1) := by decide +kernel
theorem dX3_seekSong_57 : decode cX3_seekSong 57 = .ok (.iload_n 2, 1) := by decide +kernel
theorem dX3_seekSong_58 : decode cX3_seekSong 58 = .ok (.invokevirtual 284, 3) := by decide +kernel
theorem dX3_seekSong_61 : decode cX3_seekSong 61 = .ok (.iinc 3 1, 3) := by decide +kernel
theorem dX3_seekSong_64 : decode cX3_seekSong 64 = .ok (.goto 23, 3) := by decide +kernel
theorem dX3_seekSong_67 : decode cX3_seekSong 67 = .ok (.iconst 3, 1) := by decide +kernel
theorem dX3_seekSong_68 : decode cX3_seekSong 68 = .ok (.iload_n 2, 1) := by decide +kernel
theorem dX3_seekSong_69 : decode cX3_seekSong 69 = .ok (.iconst 1, 1) := by decide +kernel
theorem dX3_seekSong_70 : decode cX3_seekSong 70 = .ok (.isub, 1) := by decide +kernel
theorem dX3_seekSong_71 : decode cX3_seekSong 71 = .ok (.iload 4, 2) := by decide +kernel
theorem dX3_seekSong_73 : decode cX3_seekSong 73 = .ok (.isub, 1) := by decide +kernel
theorem dX3_seekSong_74 : decode cX3_seekSong 74 = .ok (.imul, 1) := by decide +kernel
theorem dX3_seekSong_75 : decode cX3_seekSong 75 = .ok (.istore 5, 2) := by decide +kernel
theorem dX3_seekSong_77 : decode cX3_seekSong 77 = .ok (.iload_n 3, 1) := by decide +kernel
theorem dX3_seekSong_78 : decode cX3_seekSong 78 = .ok (.iload 5, 2) := by decide +kernel
theorem dX3_seekSong_80 : decode cX3_seekSong 80 = .ok (.ishr, 1) := by decide +kernel
theorem dX3_seekSong_81 : decode cX3_seekSong 81 = .ok (.iconst 1, 1) := by decide +kernel
theorem dX3_seekSong_82 : decode cX3_seekSong 82 = .ok (.iadd, 1) := by decide +kernel
theorem dX3_seekSong_83 : decode cX3_seekSong 83 = .ok (.iload 5, 2) := by decide +kernel
theorem dX3_seekSong_85 : decode cX3_seekSong 85 = .ok (.ishl, 1) := by decide +kernel
theorem dX3_seekSong_86 : decode cX3_seekSong 86 = .ok (.istore_n 3, 1) := by decide +kernel
theorem dX3_seekSong_87 : decode cX3_seekSong 87 = .ok (.goto (-56), 3) := by decide +kernel
theorem dX3_seekSong_90 : decode cX3_seekSong 90 = .ok (.return_, 1) := by decide +kernel
theorem dX3_trySong_0 : decode cX3_trySong 0 = .ok (.iload_n 3, 1) := by decide +kernel
theorem dX3_trySong_1 : decode cX3_trySong 1 = .ok (.ifCond .ne 7, 3) := by decide +kernel
theorem dX3_trySong_4 : decode cX3_trySong 4 = .ok (.iconst 0, 1) := by decide +kernel
theorem dX3_trySong_5 : decode cX3_trySong 5 = .ok (.goto 13, 3) := by decide +kernel
theorem dX3_trySong_8 : decode cX3_trySong 8 = .ok (.iload_n 2, 1) := by decide +kernel
theorem dX3_trySong_9 : decode cX3_trySong 9 = .ok (.iconst 1, 1) := by decide +kernel
theorem dX3_trySong_10 : decode cX3_trySong 10 = .ok (.isub, 1) := by decide +kernel
theorem dX3_trySong_11 : decode cX3_trySong 11 = .ok (.iload_n 3, 1) := by decide +kernel
theorem dX3_trySong_12 : decode cX3_trySong 12 = .ok (.invokestatic 287, 3) := by decide +kernel
theorem dX3_trySong_15 : decode cX3_trySong 15 = .ok (.iconst 3, 1) := by decide +kernel
theorem dX3_trySong_16 : decode cX3_trySong 16 = .ok (.idiv, 1) := by decide +kernel
theorem dX3_trySong_17 : decode cX3_trySong 17 = .ok (.isub, 1) := by decide +kernel
theorem dX3_trySong_18 : decode cX3_trySong 18 = .ok (.istore 4, 2) := by decide +kernel
theorem dX3_trySong_20 : decode cX3_trySong 20 = .ok (.aload_n 0, 1) := by decide +kernel
theorem dX3_trySong_21 : decode cX3_trySong 21 = .ok (.getfield 29, 3) := by decide +kernel
theorem dX3_trySong_24 : decode cX3_trySong 24 = .ok (.aload_n 0, 1) := by decide +kernel
theorem dX3_trySong_25 : decode cX3_trySong 25 = .ok (.getfield 55, 3) := by decide +kernel
theorem dX3_trySong_28 : decode cX3_trySong 28 = .ok (.iload 4, 2) := by decide +kernel
theorem dX3_trySong_30 : decode cX3_trySong 30 = .ok (.aaload, 1) := by decide +kernel
theorem dX3_trySong_31 : decode cX3_trySong 31 = .ok (.invokevirtual 167, 3) := by decide +kernel
theorem dX3_trySong_34 : decode cX3_trySong 34 = .ok (.iload 4, 2) := by decide +kernel
theorem dX3_trySong_36 : decode cX3_trySong 36 = .ok (.istore 5, 2) := by decide +kernel
theorem dX3_trySong_38 : decode cX3_trySong 38 = .ok (.iload 5, 2) := by decide +kernel
theorem dX3_trySong_40 : decode cX3_trySong 40 = .ok (.iload_n 2, 1) := by decide +kernel
theorem dX3_trySong_41 : decode cX3_trySong 41 = .ok (.if_icmp .ge 76, 3) := by decide +kernel
theorem dX3_trySong_44 : decode cX3_trySong 44 = .ok (.aload_n 0, 1) := by decide +kernel
theorem dX3_trySong_45 : decode cX3_trySong 45 = .ok (.getfield 29, 3) := by decide +kernel
theorem dX3_trySong_48 : decode cX3_trySong 48 = .ok (.aload_n 0, 1) := by decide +kernel
theorem dX3_trySong_49 : decode cX3_trySong 49 = .ok (.getfield 55, 3) := by decide +kernel
theorem dX3_trySong_52 : decode cX3_trySong 52 = .ok (.iload 5, 2) := by decide +kernel
theorem dX3_trySong_54 : decode cX3_trySong 54 = .ok (.aaload, 1) := by decide +kernel
theorem dX3_trySong_55 : decode cX3_trySong 55 = .ok (.invokevirtual 264, 3) := by decide +kernel
theorem dX3_trySong_58 : decode cX3_trySong 58 = .ok (.iload_n 3, 1) := by decide +kernel
theorem dX3_trySong_59 : decode cX3_trySong 59 = .ok (.iload_n 2, 1) := by decide +kernel
theorem dX3_trySong_60 : decode cX3_trySong 60 = .ok (.iload 5, 2) := by decide +kernel
theorem dX3_trySong_62 : decode cX3_trySong 62 = .ok (.invokestatic 217, 3) := by decide +kernel
theorem dX3_trySong_65 : decode cX3_trySong 65 = .ok (.istore 6, 2) := by decide +kernel
theorem dX3_trySong_67 : decode cX3_trySong 67 = .ok (.aload_n 0, 1) := by decide +kernel
theorem dX3_trySong_68 : decode cX3_trySong 68 = .ok (.getfield 29, 3) := by decide +kernel
theorem dX3_trySong_71 : decode cX3_trySong 71 = .ok (.iload_n 1, 1) := by decide +kernel
theorem dX3_trySong_72 : decode cX3_trySong 72 = .ok (.iload 6, 2) := by decide +kernel
theorem dX3_trySong_74 : decode cX3_trySong 74 = .ok (.invokevirtual 150, 3) := by decide +kernel
theorem dX3_trySong_77 : decode cX3_trySong 77 = .ok (.ifCond .ne 6, 3) := by decide +kernel
theorem dX3_trySong_80 : decode cX3_trySong 80 = .ok (.iload 5, 2) := by decide +kernel
theorem dX3_trySong_82 : decode cX3_trySong 82 = .ok (.ireturn, 1) := by decide +kernel
theorem dX3_trySong_83 : decode cX3_trySong 83 = .ok (.aload_n 0, 1) := by decide +kernel
theorem dX3_trySong_84 : decode cX3_trySong 84 = .ok (.getfield 48, 3) := by decide +kernel
theorem dX3_trySong_87 : decode cX3_trySong 87 = .ok (.bipush 7, 2) := by decide +kernel
theorem dX3_trySong_89 : decode cX3_trySong 89 = .ok (.invokestatic 272, 3) := by decide +kernel
theorem dX3_trySong_92 : decode cX3_trySong 92 = .ok (.aload_n 0, 1) := by decide +kernel
theorem dX3_trySong_93 : decode cX3_trySong 93 = .ok (.getfield 48, 3) := by decide +kernel
theorem dX3_trySong_96 : decode cX3_trySong 96 = .ok (.iload_n 1, 1) := by decide +kernel
theorem dX3_trySong_97 : decode cX3_trySong 97 = .ok (.iload 6, 2) := by decide +kernel
theorem dX3_trySong_99 : decode cX3_trySong 99 = .ok (.iastore, 1) := by decide +kernel
theorem dX3_trySong_100 : decode cX3_trySong 100 = .ok (.aload_n 0, 1) := by decide +kernel
theorem dX3_trySong_101 : decode cX3_trySong 101 = .ok (.getfield 29, 3) := by decide +kernel
theorem dX3_trySong_104 : decode cX3_trySong 104 = .ok (.aload_n 0, 1) := by decide +kernel
theorem dX3_trySong_105 : decode cX3_trySong 105 = .ok (.getfield 48, 3) := by decide +kernel
theorem dX3_trySong_108 : decode cX3_trySong 108 = .ok (.invokevirtual 156, 3) := by decide +kernel
theorem dX3_trySong_111 : decode cX3_trySong 111 = .ok (.iinc 5 1, 3) := by decide +kernel
theorem dX3_trySong_114 : decode cX3_trySong 114 = .ok (.goto (-76), 3) := by decide +kernel
theorem dX3_trySong_117 : decode cX3_trySong 117 = .ok (.iload_n 2, 1) := by decide +kernel
theorem dX3_trySong_118 : decode cX3_trySong 118 = .ok (.ireturn, 1) := by decide +kernel
theorem dX3_weighSong_0 : decode cX3_weighSong 0 = .ok (.aload_n 0, 1) := by decide +kernel
theorem dX3_weighSong_1 : decode cX3_weighSong 1 = .ok (.getfield 29, 3) := by decide +kernel
theorem dX3_weighSong_4 : decode cX3_weighSong 4 = .ok (.invokevirtual 160, 3) := by decide +kernel
theorem dX3_weighSong_7 : decode cX3_weighSong 7 = .ok (.invokestatic 209, 3) := by decide +kernel
theorem dX3_weighSong_10 : decode cX3_weighSong 10 = .ok (.istore_n 3, 1) := by decide +kernel
theorem dX3_weighSong_11 : decode cX3_weighSong 11 = .ok (.iconst 0, 1) := by decide +kernel
theorem dX3_weighSong_12 : decode cX3_weighSong 12 = .ok (.istore 4, 2) := by decide +kernel
theorem dX3_weighSong_14 : decode cX3_weighSong 14 = .ok (.iconst 0, 1) := by decide +kernel
theorem dX3_weighSong_15 : decode cX3_weighSong 15 = .ok (.istore 5, 2) := by decide +kernel
theorem dX3_weighSong_17 : decode cX3_weighSong 17 = .ok (.iload 5, 2) := by decide +kernel
theorem dX3_weighSong_19 : decode cX3_weighSong 19 = .ok (.iload_n 2, 1) := by decide +kernel
theorem dX3_weighSong_20 : decode cX3_weighSong 20 = .ok (.if_icmp .ge 31, 3) := by decide +kernel
theorem dX3_weighSong_23 : decode cX3_weighSong 23 = .ok (.iload 4, 2) := by decide +kernel
theorem dX3_weighSong_25 : decode cX3_weighSong 25 = .ok (.iload_n 1, 1) := by decide +kernel
theorem dX3_weighSong_26 : decode cX3_weighSong 26 = .ok (.iload_n 2, 1) := by decide +kernel
theorem dX3_weighSong_27 : decode cX3_weighSong 27 = .ok (.iload 5, 2) := by decide +kernel
theorem dX3_weighSong_29 : decode cX3_weighSong 29 = .ok (.invokestatic 217, 3) := by decide +kernel
theorem dX3_weighSong_32 : decode cX3_weighSong 32 = .ok (.bipush 7, 2) := by decide +kernel
theorem dX3_weighSong_34 : decode cX3_weighSong 34 = .ok (.if_icmp .ne 7, 3) := by decide +kernel
theorem dX3_weighSong_37 : decode cX3_weighSong 37 = .ok (.iconst 0, 1) := by decide +kernel
theorem dX3_weighSong_38 : decode cX3_weighSong 38 = .ok (.goto 4, 3) := by decide +kernel
theorem dX3_weighSong_41 : decode cX3_weighSong 41 = .ok (.iconst 1, 1) := by decide +kernel
theorem dX3_weighSong_42 : decode cX3_weighSong 42 = .ok (.iadd, 1) := by decide +kernel
theorem dX3_weighSong_43 : decode cX3_weighSong 43 = .ok (.istore 4, 2) := by decide +kernel
theorem dX3_weighSong_45 : decode cX3_weighSong 45 = .ok (.iinc 5 1, 3) := by decide +kernel
theorem dX3_weighSong_48 : decode cX3_weighSong 48 = .ok (.goto (-31), 3) := by decide +kernel
theorem dX3_weighSong_51 : decode cX3_weighSong 51 = .ok (.iload_n 3, 1) := by decide +kernel
theorem dX3_weighSong_52 : decode cX3_weighSong 52 = .ok (.aload_n 0, 1) := by decide +kernel
theorem dX3_weighSong_53 : decode cX3_weighSong 53 = .ok (.getfield 61, 3) := by decide +kernel
theorem dX3_weighSong_56 : decode cX3_weighSong 56 = .ok (.if_icmp .gt 20, 3) := by decide +kernel
theorem dX3_weighSong_59 : decode cX3_weighSong 59 = .ok (.iload_n 3, 1) := by decide +kernel
theorem dX3_weighSong_60 : decode cX3_weighSong 60 = .ok (.aload_n 0, 1) := by decide +kernel
theorem dX3_weighSong_61 : decode cX3_weighSong 61 = .ok (.getfield 61, 3) := by decide +kernel
theorem dX3_weighSong_64 : decode cX3_weighSong 64 = .ok (.if_icmp .ne 28, 3) := by decide +kernel
theorem dX3_weighSong_67 : decode cX3_weighSong 67 = .ok (.iload 4, 2) := by decide +kernel
theorem dX3_weighSong_69 : decode cX3_weighSong 69 = .ok (.aload_n 0, 1) := by decide +kernel
theorem dX3_weighSong_70 : decode cX3_weighSong 70 = .ok (.getfield 64, 3) := by decide +kernel
theorem dX3_weighSong_73 : decode cX3_weighSong 73 = .ok (.if_icmp .ge 19, 3) := by decide +kernel
theorem dX3_weighSong_76 : decode cX3_weighSong 76 = .ok (.aload_n 0, 1) := by decide +kernel
theorem dX3_weighSong_77 : decode cX3_weighSong 77 = .ok (.iload_n 1, 1) := by decide +kernel
theorem dX3_weighSong_78 : decode cX3_weighSong 78 = .ok (.putfield 58, 3) := by decide +kernel
theorem dX3_weighSong_81 : decode cX3_weighSong 81 = .ok (.aload_n 0, 1) := by decide +kernel
theorem dX3_weighSong_82 : decode cX3_weighSong 82 = .ok (.iload_n 3, 1) := by decide +kernel
theorem dX3_weighSong_83 : decode cX3_weighSong 83 = .ok (.putfield 61, 3) := by decide +kernel
theorem dX3_weighSong_86 : decode cX3_weighSong 86 = .ok (.aload_n 0, 1) := by decide +kernel
theorem dX3_weighSong_87 : decode cX3_weighSong 87 = .ok (.iload 4, 2) := by decide +kernel
theorem dX3_weighSong_89 : decode cX3_weighSong 89 = .ok (.putfield 64, 3) := by decide +kernel
theorem dX3_weighSong_92 : decode cX3_weighSong 92 = .ok (.return_, 1) := by decide +kernel
theorem dX3_noteOf_0 : decode cX3_noteOf 0 = .ok (.iload_n 0, 1) := by decide +kernel
theorem dX3_noteOf_1 : decode cX3_noteOf 1 = .ok (.iconst 3, 1) := by decide +kernel
theorem dX3_noteOf_2 : decode cX3_noteOf 2 = .ok (.iload_n 1, 1) := by decide +kernel
theorem dX3_noteOf_3 : decode cX3_noteOf 3 = .ok (.iconst 1, 1) := by decide +kernel
theorem dX3_noteOf_4 : decode cX3_noteOf 4 = .ok (.isub, 1) := by decide +kernel
theorem dX3_noteOf_5 : decode cX3_noteOf 5 = .ok (.iload_n 2, 1) := by decide +kernel
theorem dX3_noteOf_6 : decode cX3_noteOf 6 = .ok (.isub, 1) := by decide +kernel
theorem dX3_noteOf_7 : decode cX3_noteOf 7 = .ok (.imul, 1) := by decide +kernel
theorem dX3_noteOf_8 : decode cX3_noteOf 8 = .ok (.ishr, 1) := by decide +kernel
theorem dX3_noteOf_9 : decode cX3_noteOf 9 = .ok (.bipush 7, 2) := by decide +kernel
theorem dX3_noteOf_11 : decode cX3_noteOf 11 = .ok (.iand, 1) := by decide +kernel
theorem dX3_noteOf_12 : decode cX3_noteOf 12 = .ok (.ireturn, 1) := by decide +kernel
theorem dX3_weightOf_0 : decode cX3_weightOf 0 = .ok (.iload_n 0, 1) := by decide +kernel
theorem dX3_weightOf_1 : decode cX3_weightOf 1 = .ok (.invokestatic 209, 3) := by decide +kernel
theorem dX3_weightOf_4 : decode cX3_weightOf 4 = .ok (.istore_n 3, 1) := by decide +kernel
theorem dX3_weightOf_5 : decode cX3_weightOf 5 = .ok (.iload_n 2, 1) := by decide +kernel
theorem dX3_weightOf_6 : decode cX3_weightOf 6 = .ok (.iload_n 3, 1) := by decide +kernel
theorem dX3_weightOf_7 : decode cX3_weightOf 7 = .ok (.invokestatic 229, 3) := by decide +kernel
theorem dX3_weightOf_10 : decode cX3_weightOf 10 = .ok (.bipush 10, 2) := by decide +kernel
theorem dX3_weightOf_12 : decode cX3_weightOf 12 = .ok (.iload_n 2, 1) := by decide +kernel
theorem dX3_weightOf_13 : decode cX3_weightOf 13 = .ok (.isub, 1) := by decide +kernel
theorem dX3_weightOf_14 : decode cX3_weightOf 14 = .ok (.iload_n 1, 1) := by decide +kernel
theorem dX3_weightOf_15 : decode cX3_weightOf 15 = .ok (.iload_n 3, 1) := by decide +kernel
theorem dX3_weightOf_16 : decode cX3_weightOf 16 = .ok (.isub, 1) := by decide +kernel
theorem dX3_weightOf_17 : decode cX3_weightOf 17 = .ok (.invokestatic 229, 3) := by decide +kernel
theorem dX3_weightOf_20 : decode cX3_weightOf 20 = .ok (.imul, 1) := by decide +kernel
theorem dX3_weightOf_21 : decode cX3_weightOf 21 = .ok (.ireturn, 1) := by decide +kernel
theorem dX3_power_0 : decode cX3_power 0 = .ok (.iconst 1, 1) := by decide +kernel
theorem dX3_power_1 : decode cX3_power 1 = .ok (.istore_n 2, 1) := by decide +kernel
theorem dX3_power_2 : decode cX3_power 2 = .ok (.iconst 0, 1) := by decide +kernel
theorem dX3_power_3 : decode cX3_power 3 = .ok (.istore_n 3, 1) := by decide +kernel
theorem dX3_power_4 : decode cX3_power 4 = .ok (.iload_n 3, 1) := by decide +kernel
theorem dX3_power_5 : decode cX3_power 5 = .ok (.iload_n 1, 1) := by decide +kernel
theorem dX3_power_6 : decode cX3_power 6 = .ok (.if_icmp .ge 13, 3) := by decide +kernel
theorem dX3_power_9 : decode cX3_power 9 = .ok (.iload_n 2, 1) := by decide +kernel
theorem dX3_power_10 : decode cX3_power 10 = .ok (.iload_n 0, 1) := by decide +kernel
theorem dX3_power_11 : decode cX3_power 11 = .ok (.imul, 1) := by decide +kernel
theorem dX3_power_12 : decode cX3_power 12 = .ok (.istore_n 2, 1) := by decide +kernel
theorem dX3_power_13 : decode cX3_power 13 = .ok (.iinc 3 1, 3) := by decide +kernel
theorem dX3_power_16 : decode cX3_power 16 = .ok (.goto (-12), 3) := by decide +kernel
theorem dX3_power_19 : decode cX3_power 19 = .ok (.iload_n 2, 1) := by decide +kernel
theorem dX3_power_20 : decode cX3_power 20 = .ok (.ireturn, 1) := by decide +kernel
theorem dX3_commonDivisor_0 : decode cX3_commonDivisor 0 = .ok (.iload_n 0, 1) := by decide +kernel
theorem dX3_commonDivisor_1 : decode cX3_commonDivisor 1 = .ok (.istore_n 2, 1) := by decide +kernel
theorem dX3_commonDivisor_2 : decode cX3_commonDivisor 2 = .ok (.iload_n 1, 1) := by decide +kernel
theorem dX3_commonDivisor_3 : decode cX3_commonDivisor 3 = .ok (.istore_n 3, 1) := by decide +kernel
theorem dX3_commonDivisor_4 : decode cX3_commonDivisor 4 = .ok (.iconst 0, 1) := by decide +kernel
theorem dX3_commonDivisor_5 : decode cX3_commonDivisor 5 = .ok (.istore 4, 2) := by decide +kernel
theorem dX3_commonDivisor_7 : decode cX3_commonDivisor 7 = .ok (.iload 4, 2) := by decide +kernel
theorem dX3_commonDivisor_9 : decode cX3_commonDivisor 9 = .ok (.bipush 100, 2) := by decide +kernel
theorem dX3_commonDivisor_11 : decode cX3_commonDivisor 11 = .ok (.if_icmp .ge 23, 3) := by decide +kernel
theorem dX3_commonDivisor_14 : decode cX3_commonDivisor 14 = .ok (.iload_n 3, 1) := by decide +kernel
theorem dX3_commonDivisor_15 : decode cX3_commonDivisor 15 = .ok (.ifCond .eq 19, 3) := by decide +kernel
theorem dX3_commonDivisor_18 : decode cX3_commonDivisor 18 = .ok (.iload_n 2, 1) := by decide +kernel
theorem dX3_commonDivisor_19 : decode cX3_commonDivisor 19 = .ok (.iload_n 3, 1) := by decide +kernel
theorem dX3_commonDivisor_20 : decode cX3_commonDivisor 20 = .ok (.irem, 1) := by decide +kernel
theorem dX3_commonDivisor_21 : decode cX3_commonDivisor 21 = .ok (.istore 5, 2) := by decide +kernel
theorem dX3_commonDivisor_23 : decode cX3_commonDivisor 23 = .ok (.iload_n 3, 1) := by decide +kernel
theorem dX3_commonDivisor_24 : decode cX3_commonDivisor 24 = .ok (.istore_n 2, 1) := by decide +kernel
theorem dX3_commonDivisor_25 : decode cX3_commonDivisor 25 = .ok (.iload 5, 2) := by decide +kernel
theorem dX3_commonDivisor_27 : decode cX3_commonDivisor 27 = .ok (.istore_n 3, 1) := by decide +kernel
theorem dX3_commonDivisor_28 : decode cX3_commonDivisor 28 = .ok (.iinc 4 1, 3) := by decide +kernel
theorem dX3_commonDivisor_31 : decode cX3_commonDivisor 31 = .ok (.goto (-24), 3) := by decide +kernel
theorem dX3_commonDivisor_34 : decode cX3_commonDivisor 34 = .ok (.iload_n 2, 1) := by decide +kernel
theorem dX3_commonDivisor_35 : decode cX3_commonDivisor 35 = .ok (.iconst 1, 1) := by decide +kernel
theorem dX3_commonDivisor_36 : decode cX3_commonDivisor 36 = .ok (.invokestatic 290, 3) := by decide +kernel
theorem dX3_commonDivisor_39 : decode cX3_commonDivisor 39 = .ok (.ireturn, 1) := by decide +kernel
theorem dX3_isOf_0 : decode cX3_isOf 0 = .ok (.iload_n 0, 1) := by decide +kernel
theorem dX3_isOf_1 : decode cX3_isOf 1 = .ok (.istore_n 2, 1) := by decide +kernel
theorem dX3_isOf_2 : decode cX3_isOf 2 = .ok (.iconst 0, 1) := by decide +kernel
theorem dX3_isOf_3 : decode cX3_isOf 3 = .ok (.istore_n 3, 1) := by decide +kernel
theorem dX3_isOf_4 : decode cX3_isOf 4 = .ok (.iload_n 3, 1) := by decide +kernel
theorem dX3_isOf_5 : decode cX3_isOf 5 = .ok (.getstatic 293, 3) := by decide +kernel
theorem dX3_isOf_8 : decode cX3_isOf 8 = .ok (.arraylength, 1) := by decide +kernel
theorem dX3_isOf_9 : decode cX3_isOf 9 = .ok (.if_icmp .ge 32, 3) := by decide +kernel
theorem dX3_isOf_12 : decode cX3_isOf 12 = .ok (.iload_n 2, 1) := by decide +kernel
theorem dX3_isOf_13 : decode cX3_isOf 13 = .ok (.ifCond .le 28, 3) := by decide +kernel
theorem dX3_isOf_16 : decode cX3_isOf 16 = .ok (.iload_n 2, 1) := by decide +kernel
theorem dX3_isOf_17 : decode cX3_isOf 17 = .ok (.getstatic 293, 3) := by decide +kernel
theorem dX3_isOf_20 : decode cX3_isOf 20 = .ok (.arraylength, 1) := by decide +kernel
theorem dX3_isOf_21 : decode cX3_isOf 21 = .ok (.if_icmp .ge 20, 3) := by decide +kernel
theorem dX3_isOf_24 : decode cX3_isOf 24 = .ok (.iload_n 2, 1) := by decide +kernel
theorem dX3_isOf_25 : decode cX3_isOf 25 = .ok (.iload_n 1, 1) := by decide +kernel
theorem dX3_isOf_26 : decode cX3_isOf 26 = .ok (.if_icmp .eq 15, 3) := by decide +kernel
theorem dX3_isOf_29 : decode cX3_isOf 29 = .ok (.getstatic 293, 3) := by decide +kernel
theorem dX3_isOf_32 : decode cX3_isOf 32 = .ok (.iload_n 2, 1) := by decide +kernel
theorem dX3_isOf_33 : decode cX3_isOf 33 = .ok (.iaload, 1) := by decide +kernel
theorem dX3_isOf_34 : decode cX3_isOf 34 = .ok (.istore_n 2, 1) := by decide +kernel
theorem dX3_isOf_35 : decode cX3_isOf 35 = .ok (.iinc 3 1, 3) := by decide +kernel
theorem dX3_isOf_38 : decode cX3_isOf 38 = .ok (.goto (-34), 3) := by decide +kernel
theorem dX3_isOf_41 : decode cX3_isOf 41 = .ok (.iload_n 2, 1) := by decide +kernel
theorem dX3_isOf_42 : decode cX3_isOf 42 = .ok (.iload_n 1, 1) := by decide +kernel
theorem dX3_isOf_43 : decode cX3_isOf 43 = .ok (.if_icmp .ne 7, 3) := by decide +kernel
theorem dX3_isOf_46 : decode cX3_isOf 46 = .ok (.iconst 1, 1) := by decide +kernel
theorem dX3_isOf_47 : decode cX3_isOf 47 = .ok (.goto 4, 3) := by decide +kernel
theorem dX3_isOf_50 : decode cX3_isOf 50 = .ok (.iconst 0, 1) := by decide +kernel
theorem dX3_isOf_51 : decode cX3_isOf 51 = .ok (.ireturn, 1) := by decide +kernel
theorem dX3_leave_0 : decode cX3_leave 0 = .ok (.aload_n 0, 1) := by decide +kernel
theorem dX3_leave_1 : decode cX3_leave 1 = .ok (.getfield 70, 3) := by decide +kernel
theorem dX3_leave_4 : decode cX3_leave 4 = .ok (.bipush 16, 2) := by decide +kernel
theorem dX3_leave_6 : decode cX3_leave 6 = .ok (.if_icmp .ge 23, 3) := by decide +kernel
theorem dX3_leave_9 : decode cX3_leave 9 = .ok (.aload_n 0, 1) := by decide +kernel
theorem dX3_leave_10 : decode cX3_leave 10 = .ok (.getfield 67, 3) := by decide +kernel
theorem dX3_leave_13 : decode cX3_leave 13 = .ok (.aload_n 0, 1) := by decide +kernel
theorem dX3_leave_14 : decode cX3_leave 14 = .ok (.getfield 70, 3) := by decide +kernel
theorem dX3_leave_17 : decode cX3_leave 17 = .ok (.iload_n 1, 1) := by decide +kernel
theorem dX3_leave_18 : decode cX3_leave 18 = .ok (.iastore, 1) := by decide +kernel
theorem dX3_leave_19 : decode cX3_leave 19 = .ok (.aload_n 0, 1) := by decide +kernel
theorem dX3_leave_20 : decode cX3_leave 20 = .ok (.dup, 1) := by decide +kernel
theorem dX3_leave_21 : decode cX3_leave 21 = .ok (.getfield 70, 3) := by decide +kernel
theorem dX3_leave_24 : decode cX3_leave 24 = .ok (.iconst 1, 1) := by decide +kernel
theorem dX3_leave_25 : decode cX3_leave 25 = .ok (.iadd, 1) := by decide +kernel
theorem dX3_leave_26 : decode cX3_leave 26 = .ok (.putfield 70, 3) := by decide +kernel
theorem dX3_leave_29 : decode cX3_leave 29 = .ok (.return_, 1) := by decide +kernel
theorem dX3_lentSize_0 : decode cX3_lentSize 0 = .ok (.aload_n 0, 1) := by decide +kernel
theorem dX3_lentSize_1 : decode cX3_lentSize 1 = .ok (.bipush 10, 2) := by decide +kernel
theorem dX3_lentSize_3 : decode cX3_lentSize 3 = .ok (.invokevirtual 296, 3) := by decide +kernel
theorem dX3_lentSize_6 : decode cX3_lentSize 6 = .ok (.aload_n 0, 1) := by decide +kernel
theorem dX3_lentSize_7 : decode cX3_lentSize 7 = .ok (.getfield 25, 3) := by decide +kernel
theorem dX3_lentSize_10 : decode cX3_lentSize 10 = .ok (.getfield 173, 3) := by decide +kernel
theorem dX3_lentSize_13 : decode cX3_lentSize 13 = .ok (.iload_n 1, 1) := by decide +kernel
theorem dX3_lentSize_14 : decode cX3_lentSize 14 = .ok (.iaload, 1) := by decide +kernel
theorem dX3_lentSize_15 : decode cX3_lentSize 15 = .ok (.ireturn, 1) := by decide +kernel
theorem dX3_sizeOfPlums_0 : decode cX3_sizeOfPlums 0 = .ok (.aload_n 0, 1) := by decide +kernel
theorem dX3_sizeOfPlums_1 : decode cX3_sizeOfPlums 1 = .ok (.getfield 25, 3) := by decide +kernel
theorem dX3_sizeOfPlums_4 : decode cX3_sizeOfPlums 4 = .ok (.getfield 236, 3) := by decide +kernel
theorem dX3_sizeOfPlums_7 : decode cX3_sizeOfPlums 7 = .ok (.iload_n 1, 1) := by decide +kernel
theorem dX3_sizeOfPlums_8 : decode cX3_sizeOfPlums 8 = .ok (.iaload, 1) := by decide +kernel
theorem dX3_sizeOfPlums_9 : decode cX3_sizeOfPlums 9 = .ok (.iconst 2, 1) := by decide +kernel
theorem dX3_sizeOfPlums_10 : decode cX3_sizeOfPlums 10 = .ok (.if_icmp .ne 16, 3) := by decide +kernel
theorem dX3_sizeOfPlums_13 : decode cX3_sizeOfPlums 13 = .ok (.aload_n 0, 1) := by decide +kernel
theorem dX3_sizeOfPlums_14 : decode cX3_sizeOfPlums 14 = .ok (.bipush 12, 2) := by decide +kernel
theorem dX3_sizeOfPlums_16 : decode cX3_sizeOfPlums 16 = .ok (.invokevirtual 296, 3) := by decide +kernel
theorem dX3_sizeOfPlums_19 : decode cX3_sizeOfPlums 19 = .ok (.aload_n 0, 1) := by decide +kernel
theorem dX3_sizeOfPlums_20 : decode cX3_sizeOfPlums 20 = .ok (.iload_n 1, 1) := by decide +kernel
theorem dX3_sizeOfPlums_21 : decode cX3_sizeOfPlums 21 = .ok (.invokevirtual 300, 3) := by decide +kernel
theorem dX3_sizeOfPlums_24 : decode cX3_sizeOfPlums 24 = .ok (.ineg, 1) := by decide +kernel
theorem dX3_sizeOfPlums_25 : decode cX3_sizeOfPlums 25 = .ok (.ireturn, 1) := by decide +kernel
theorem dX3_sizeOfPlums_26 : decode cX3_sizeOfPlums 26 = .ok (.aload_n 0, 1) := by decide +kernel
theorem dX3_sizeOfPlums_27 : decode cX3_sizeOfPlums 27 = .ok (.iload_n 1, 1) := by decide +kernel
theorem dX3_sizeOfPlums_28 : decode cX3_sizeOfPlums 28 = .ok (.invokevirtual 300, 3) := by decide +kernel
theorem dX3_sizeOfPlums_31 : decode cX3_sizeOfPlums 31 = .ok (.ireturn, 1) := by decide +kernel
theorem dX3_plumSize_0 : decode cX3_plumSize 0 = .ok (.aload_n 0, 1) := by decide +kernel
theorem dX3_plumSize_1 : decode cX3_plumSize 1 = .ok (.bipush 11, 2) := by decide +kernel
theorem dX3_plumSize_3 : decode cX3_plumSize 3 = .ok (.invokevirtual 296, 3) := by decide +kernel
theorem dX3_plumSize_6 : decode cX3_plumSize 6 = .ok (.aload_n 0, 1) := by decide +kernel
theorem dX3_plumSize_7 : decode cX3_plumSize 7 = .ok (.iload_n 1, 1) := by decide +kernel
theorem dX3_plumSize_8 : decode cX3_plumSize 8 = .ok (.invokevirtual 303, 3) := by decide +kernel
theorem dX3_plumSize_11 : decode cX3_plumSize 11 = .ok (.istore_n 2, 1) := by decide +kernel
theorem dX3_plumSize_12 : decode cX3_plumSize 12 = .ok (.iload_n 2, 1) := by decide +kernel
theorem dX3_plumSize_13 : decode cX3_plumSize 13 = .ok (.aload_n 0, 1) := by decide +kernel
theorem dX3_plumSize_14 : decode cX3_plumSize 14 = .ok (.iload_n 1, 1) := by decide +kernel
theorem dX3_plumSize_15 : decode cX3_plumSize 15 = .ok (.invokevirtual 248, 3) := by decide +kernel
theorem dX3_plumSize_18 : decode cX3_plumSize 18 = .ok (.iadd, 1) := by decide +kernel
theorem dX3_plumSize_19 : decode cX3_plumSize 19 = .ok (.ireturn, 1) := by decide +kernel
theorem dX3_sizeOfMarrows_0 : decode cX3_sizeOfMarrows 0 = .ok (.aload_n 0, 1) := by decide +kernel
theorem dX3_sizeOfMarrows_1 : decode cX3_sizeOfMarrows 1 = .ok (.getfield 25, 3) := by decide +kernel
theorem dX3_sizeOfMarrows_4 : decode cX3_sizeOfMarrows 4 = .ok (.getfield 236, 3) := by decide +kernel
theorem dX3_sizeOfMarrows_7 : decode cX3_sizeOfMarrows 7 = .ok (.iload_n 1, 1) := by decide +kernel
theorem dX3_sizeOfMarrows_8 : decode cX3_sizeOfMarrows 8 = .ok (.iaload, 1) := by decide +kernel
theorem dX3_sizeOfMarrows_9 : decode cX3_sizeOfMarrows 9 = .ok (.iconst 5, 1) := by decide +kernel
theorem dX3_sizeOfMarrows_10 : decode cX3_sizeOfMarrows 10 = .ok (.if_icmp .ne 17, 3) := by decide +kernel
theorem dX3_sizeOfMarrows_13 : decode cX3_sizeOfMarrows 13 = .ok (.aload_n 0, 1) := by decide +kernel
theorem dX3_sizeOfMarrows_14 : decode cX3_sizeOfMarrows 14 = .ok (.bipush 14, 2) := by decide +kernel
theorem dX3_sizeOfMarrows_16 : decode cX3_sizeOfMarrows 16 = .ok (.invokevirtual 296, 3) := by decide +kernel
theorem dX3_sizeOfMarrows_19 : decode cX3_sizeOfMarrows 19 = .ok (.iconst 2, 1) := by decide +kernel
theorem dX3_sizeOfMarrows_20 : decode cX3_sizeOfMarrows 20 = .ok (.aload_n 0, 1) := by decide +kernel
theorem dX3_sizeOfMarrows_21 : decode cX3_sizeOfMarrows 21 = .ok (.iload_n 1, 1) := by decide +kernel
theorem dX3_sizeOfMarrows_22 : decode cX3_sizeOfMarrows 22 = .ok (.invokevirtual 306, 3) := by decide +kernel
theorem dX3_sizeOfMarrows_25 : decode cX3_sizeOfMarrows 25 = .ok (.imul, 1) := by decide +kernel
theorem dX3_sizeOfMarrows_26 : decode cX3_sizeOfMarrows 26 = .ok (.ireturn, 1) := by decide +kernel
theorem dX3_sizeOfMarrows_27 : decode cX3_sizeOfMarrows 27 = .ok (.aload_n 0, 1) := by decide +kernel
theorem dX3_sizeOfMarrows_28 : decode cX3_sizeOfMarrows 28 = .ok (.iload_n 1, 1) := by decide +kernel
theorem dX3_sizeOfMarrows_29 : decode cX3_sizeOfMarrows 29 = .ok (.invokevirtual 306, 3) := by decide +kernel
theorem dX3_sizeOfMarrows_32 : decode cX3_sizeOfMarrows 32 = .ok (.ireturn, 1) := by decide +kernel
theorem dX3_marrowSize_0 : decode cX3_marrowSize 0 = .ok (.aload_n 0, 1) := by decide +kernel
theorem dX3_marrowSize_1 : decode cX3_marrowSize 1 = .ok (.bipush 13, 2) := by decide +kernel
theorem dX3_marrowSize_3 : decode cX3_marrowSize 3 = .ok (.invokevirtual 296, 3) := by decide +kernel
theorem dX3_marrowSize_6 : decode cX3_marrowSize 6 = .ok (.aload_n 0, 1) := by decide +kernel
theorem dX3_marrowSize_7 : decode cX3_marrowSize 7 = .ok (.iload_n 1, 1) := by decide +kernel
theorem dX3_marrowSize_8 : decode cX3_marrowSize 8 = .ok (.invokevirtual 303, 3) := by decide +kernel
theorem dX3_marrowSize_11 : decode cX3_marrowSize 11 = .ok (.bipush 100, 2) := by decide +kernel
theorem dX3_marrowSize_13 : decode cX3_marrowSize 13 = .ok (.isub, 1) := by decide +kernel
theorem dX3_marrowSize_14 : decode cX3_marrowSize 14 = .ok (.ireturn, 1) := by decide +kernel
theorem dX3_lentMark_0 : decode cX3_lentMark 0 = .ok (.aload_n 0, 1) := by decide +kernel
theorem dX3_lentMark_1 : decode cX3_lentMark 1 = .ok (.bipush 20, 2) := by decide +kernel
theorem dX3_lentMark_3 : decode cX3_lentMark 3 = .ok (.invokevirtual 296, 3) := by decide +kernel
theorem dX3_lentMark_6 : decode cX3_lentMark 6 = .ok (.iload_n 1, 1) := by decide +kernel
theorem dX3_lentMark_7 : decode cX3_lentMark 7 = .ok (.ireturn, 1) := by decide +kernel
theorem dX3_markOfPlums_0 : decode cX3_markOfPlums 0 = .ok (.aload_n 0, 1) := by decide +kernel
theorem dX3_markOfPlums_1 : decode cX3_markOfPlums 1 = .ok (.getfield 25, 3) := by decide +kernel
theorem dX3_markOfPlums_4 : decode cX3_markOfPlums 4 = .ok (.getfield 236, 3) := by decide +kernel
theorem dX3_markOfPlums_7 : decode cX3_markOfPlums 7 = .ok (.iload_n 1, 1) := by decide +kernel
theorem dX3_markOfPlums_8 : decode cX3_markOfPlums 8 = .ok (.iaload, 1) := by decide +kernel
theorem dX3_markOfPlums_9 : decode cX3_markOfPlums 9 = .ok (.iconst 3, 1) := by decide +kernel
theorem dX3_markOfPlums_10 : decode cX3_markOfPlums 10 = .ok (.if_icmp .ne 19, 3) := by decide +kernel
theorem dX3_markOfPlums_13 : decode cX3_markOfPlums 13 = .ok (.aload_n 0, 1) := by decide +kernel
theorem dX3_markOfPlums_14 : decode cX3_markOfPlums 14 = .ok (.bipush 22, 2) := by decide +kernel
theorem dX3_markOfPlums_16 : decode cX3_markOfPlums 16 = .ok (.invokevirtual 296, 3) := by decide +kernel
theorem dX3_markOfPlums_19 : decode cX3_markOfPlums 19 = .ok (.aload_n 0, 1) := by decide +kernel
theorem dX3_markOfPlums_20 : decode cX3_markOfPlums 20 = .ok (.iload_n 1, 1) := by decide +kernel
theorem dX3_markOfPlums_21 : decode cX3_markOfPlums 21 = .ok (.invokevirtual 309, 3) := by decide +kernel
theorem dX3_markOfPlums_24 : decode cX3_markOfPlums 24 = .ok (.sipush 1000, 3) := by decide +kernel
theorem dX3_markOfPlums_27 : decode cX3_markOfPlums 27 = .ok (.isub, 1) := by decide +kernel
theorem dX3_markOfPlums_28 : decode cX3_markOfPlums 28 = .ok (.ireturn, 1) := by decide +kernel
theorem dX3_markOfPlums_29 : decode cX3_markOfPlums 29 = .ok (.aload_n 0, 1) := by decide +kernel
theorem dX3_markOfPlums_30 : decode cX3_markOfPlums 30 = .ok (.getfield 25, 3) := by decide +kernel
theorem dX3_markOfPlums_33 : decode cX3_markOfPlums 33 = .ok (.getfield 236, 3) := by decide +kernel
theorem dX3_markOfPlums_36 : decode cX3_markOfPlums 36 = .ok (.iload_n 1, 1) := by decide +kernel
theorem dX3_markOfPlums_37 : decode cX3_markOfPlums 37 = .ok (.iaload, 1) := by decide +kernel
theorem dX3_markOfPlums_38 : decode cX3_markOfPlums 38 = .ok (.iconst 2, 1) := by decide +kernel
theorem dX3_markOfPlums_39 : decode cX3_markOfPlums 39 = .ok (.if_icmp .ne 17, 3) := by decide +kernel
theorem dX3_markOfPlums_42 : decode cX3_markOfPlums 42 = .ok (.aload_n 0, 1) := by decide +kernel
theorem dX3_markOfPlums_43 : decode cX3_markOfPlums 43 = .ok (.bipush 24, 2) := by decide +kernel
theorem dX3_markOfPlums_45 : decode cX3_markOfPlums 45 = .ok (.invokevirtual 296, 3) := by decide +kernel
theorem dX3_markOfPlums_48 : decode cX3_markOfPlums 48 = .ok (.iconst 2, 1) := by decide +kernel
theorem dX3_markOfPlums_49 : decode cX3_markOfPlums 49 = .ok (.aload_n 0, 1) := by decide +kernel
theorem dX3_markOfPlums_50 : decode cX3_markOfPlums 50 = .ok (.iload_n 1, 1) := by decide +kernel
theorem dX3_markOfPlums_51 : decode cX3_markOfPlums 51 = .ok (.invokevirtual 309, 3) := by decide +kernel
theorem dX3_markOfPlums_54 : decode cX3_markOfPlums 54 = .ok (.imul, 1) := by decide +kernel
theorem dX3_markOfPlums_55 : decode cX3_markOfPlums 55 = .ok (.ireturn, 1) := by decide +kernel
theorem dX3_markOfPlums_56 : decode cX3_markOfPlums 56 = .ok (.aload_n 0, 1) := by decide +kernel
theorem dX3_markOfPlums_57 : decode cX3_markOfPlums 57 = .ok (.iload_n 1, 1) := by decide +kernel
theorem dX3_markOfPlums_58 : decode cX3_markOfPlums 58 = .ok (.invokevirtual 309, 3) := by decide +kernel
theorem dX3_markOfPlums_61 : decode cX3_markOfPlums 61 = .ok (.ireturn, 1) := by decide +kernel
theorem dX3_plumMark_0 : decode cX3_plumMark 0 = .ok (.aload_n 0, 1) := by decide +kernel
theorem dX3_plumMark_1 : decode cX3_plumMark 1 = .ok (.bipush 21, 2) := by decide +kernel
theorem dX3_plumMark_3 : decode cX3_plumMark 3 = .ok (.invokevirtual 296, 3) := by decide +kernel
theorem dX3_plumMark_6 : decode cX3_plumMark 6 = .ok (.aload_n 0, 1) := by decide +kernel
theorem dX3_plumMark_7 : decode cX3_plumMark 7 = .ok (.iload_n 1, 1) := by decide +kernel
theorem dX3_plumMark_8 : decode cX3_plumMark 8 = .ok (.invokevirtual 312, 3) := by decide +kernel
theorem dX3_plumMark_11 : decode cX3_plumMark 11 = .ok (.aload_n 0, 1) := by decide +kernel
theorem dX3_plumMark_12 : decode cX3_plumMark 12 = .ok (.getfield 25, 3) := by decide +kernel
theorem dX3_plumMark_15 : decode cX3_plumMark 15 = .ok (.getfield 176, 3) := by decide +kernel
theorem dX3_plumMark_18 : decode cX3_plumMark 18 = .ok (.iload_n 1, 1) := by decide +kernel
theorem dX3_plumMark_19 : decode cX3_plumMark 19 = .ok (.iaload, 1) := by decide +kernel
theorem dX3_plumMark_20 : decode cX3_plumMark 20 = .ok (.iadd, 1) := by decide +kernel
theorem dX3_plumMark_21 : decode cX3_plumMark 21 = .ok (.ireturn, 1) := by decide +kernel
theorem dX3_markOfMarrows_0 : decode cX3_markOfMarrows 0 = .ok (.aload_n 0, 1) := by decide +kernel
theorem dX3_markOfMarrows_1 : decode cX3_markOfMarrows 1 = .ok (.bipush 23, 2) := by decide +kernel
theorem dX3_markOfMarrows_3 : decode cX3_markOfMarrows 3 = .ok (.invokevirtual 296, 3) := by decide +kernel
theorem dX3_markOfMarrows_6 : decode cX3_markOfMarrows 6 = .ok (.aload_n 0, 1) := by decide +kernel
theorem dX3_markOfMarrows_7 : decode cX3_markOfMarrows 7 = .ok (.iload_n 1, 1) := by decide +kernel
theorem dX3_markOfMarrows_8 : decode cX3_markOfMarrows 8 = .ok (.invokevirtual 312, 3) := by decide +kernel
theorem dX3_markOfMarrows_11 : decode cX3_markOfMarrows 11 = .ok (.istore_n 2, 1) := by decide +kernel
theorem dX3_markOfMarrows_12 : decode cX3_markOfMarrows 12 = .ok (.iload_n 2, 1) := by decide +kernel
theorem dX3_markOfMarrows_13 : decode cX3_markOfMarrows 13 = .ok (.aload_n 0, 1) := by decide +kernel
theorem dX3_markOfMarrows_14 : decode cX3_markOfMarrows 14 = .ok (.iload_n 1, 1) := by decide +kernel
theorem dX3_markOfMarrows_15 : decode cX3_markOfMarrows 15 = .ok (.invokevirtual 245, 3) := by decide +kernel
theorem dX3_markOfMarrows_18 : decode cX3_markOfMarrows 18 = .ok (.isub, 1) := by decide +kernel
theorem dX3_markOfMarrows_19 : decode cX3_markOfMarrows 19 = .ok (.ireturn, 1) := by decide +kernel
end
section
theorem dX4_init_0 : decode cX4_init 0 = .ok (.aload_n 0, 1) := by decide +kernel
theorem dX4_init_1 : decode cX4_init 1 = .ok (.invokespecial 1, 3) := by decide +kernel
theorem dX4_init_4 : decode cX4_init 4 = .ok (.aload_n 0, 1) := by decide +kernel
theorem dX4_init_5 : decode cX4_init 5 = .ok (.bipush 8, 2) := by decide +kernel
theorem dX4_init_7 : decode cX4_init 7 = .ok (.newarray .int, 2) := by decide +kernel
theorem dX4_init_9 : decode cX4_init 9 = .ok (.putfield 7, 3) := by decide +kernel
theorem dX4_init_12 : decode cX4_init 12 = .ok (.aload_n 0, 1) := by decide +kernel
theorem dX4_init_13 : decode cX4_init 13 = .ok (.bipush 8, 2) := by decide +kernel
theorem dX4_init_15 : decode cX4_init 15 = .ok (.newarray .int, 2) := by decide +kernel
theorem dX4_init_17 : decode cX4_init 17 = .ok (.putfield 13, 3) := by decide +kernel
theorem dX4_init_20 : decode cX4_init 20 = .ok (.aload_n 0, 1) := by decide +kernel
theorem dX4_init_21 : decode cX4_init 21 = .ok (.sipush 320, 3) := by decide +kernel
theorem dX4_init_24 : decode cX4_init 24 = .ok (.newarray .int, 2) := by decide +kernel
theorem dX4_init_26 : decode cX4_init 26 = .ok (.putfield 16, 3) := by decide +kernel
theorem dX4_init_29 : decode cX4_init 29 = .ok (.aload_n 0, 1) := by decide +kernel
theorem dX4_init_30 : decode cX4_init 30 = .ok (.bipush 51, 2) := by decide +kernel
theorem dX4_init_32 : decode cX4_init 32 = .ok (.newarray .int, 2) := by decide +kernel
theorem dX4_init_34 : decode cX4_init 34 = .ok (.putfield 19, 3) := by decide +kernel
theorem dX4_init_37 : decode cX4_init 37 = .ok (.aload_n 0, 1) := by decide +kernel
theorem dX4_init_38 : decode cX4_init 38 = .ok (.bipush 40, 2) := by decide +kernel
theorem dX4_init_40 : decode cX4_init 40 = .ok (.newarray .int, 2) := by decide +kernel
theorem dX4_init_42 : decode cX4_init 42 = .ok (.putfield 22, 3) := by decide +kernel
theorem dX4_init_45 : decode cX4_init 45 = .ok (.aload_n 0, 1) := by decide +kernel
theorem dX4_init_46 : decode cX4_init 46 = .ok (.bipush 120, 2) := by decide +kernel
theorem dX4_init_48 : decode cX4_init 48 = .ok (.newarray .int, 2) := by decide +kernel
theorem dX4_init_50 : decode cX4_init 50 = .ok (.putfield 25, 3) := by decide +kernel
theorem dX4_init_53 : decode cX4_init 53 = .ok (.aload_n 0, 1) := by decide +kernel
theorem dX4_init_54 : decode cX4_init 54 = .ok (.bipush 51, 2) := by decide +kernel
theorem dX4_init_56 : decode cX4_init 56 = .ok (.newarray .int, 2) := by decide +kernel
theorem dX4_init_58 : decode cX4_init 58 = .ok (.putfield 28, 3) := by decide +kernel
theorem dX4_init_61 : decode cX4_init 61 = .ok (.aload_n 0, 1) := by decide +kernel
theorem dX4_init_62 : decode cX4_init 62 = .ok (.iconst 3, 1) := by decide +kernel
theorem dX4_init_63 : decode cX4_init 63 = .ok (.newarray .int, 2) := by decide +kernel
theorem dX4_init_65 : decode cX4_init 65 = .ok (.putfield 31, 3) := by decide +kernel
theorem dX4_init_68 : decode cX4_init 68 = .ok (.aload_n 0, 1) := by decide +kernel
theorem dX4_init_69 : decode cX4_init 69 = .ok (.sipush 1224, 3) := by decide +kernel
theorem dX4_init_72 : decode cX4_init 72 = .ok (.newarray .int, 2) := by decide +kernel
theorem dX4_init_74 : decode cX4_init 74 = .ok (.putfield 34, 3) := by decide +kernel
theorem dX4_init_77 : decode cX4_init 77 = .ok (.aload_n 0, 1) := by decide +kernel
theorem dX4_init_78 : decode cX4_init 78 = .ok (.bipush 51, 2) := by decide +kernel
theorem dX4_init_80 : decode cX4_init 80 = .ok (.newarray .int, 2) := by decide +kernel
theorem dX4_init_82 : decode cX4_init 82 = .ok (.putfield 37, 3) := by decide +kernel
theorem dX4_init_85 : decode cX4_init 85 = .ok (.aload_n 0, 1) := by decide +kernel
theorem dX4_init_86 : decode cX4_init 86 = .ok (.iconst 4, 1) := by decide +kernel
theorem dX4_init_87 : decode cX4_init 87 = .ok (.newarray .int, 2) := by decide +kernel
theorem dX4_init_89 : decode cX4_init 89 = .ok (.putfield 40, 3) := by decide +kernel
theorem dX4_init_92 : decode cX4_init 92 = .ok (.aload_n 0, 1) := by decide +kernel
theorem dX4_init_93 : decode cX4_init 93 = .ok (.iconst 2, 1) := by decide +kernel
theorem dX4_init_94 : decode cX4_init 94 = .ok (.newarray .boolean, 2) := by decide +kernel
theorem dX4_init_96 : decode cX4_init 96 = .ok (.putfield 43, 3) := by decide +kernel
theorem dX4_init_99 : decode cX4_init 99 = .ok (.aload_n 0, 1) := by decide +kernel
theorem dX4_init_100 : decode cX4_init 100 = .ok (.bipush 102, 2) := by decide +kernel
theorem dX4_init_102 : decode cX4_init 102 = .ok (.newarray .int, 2) := by decide +kernel
theorem dX4_init_104 : decode cX4_init 104 = .ok (.putfield 47, 3) := by decide +kernel
theorem dX4_init_107 : decode cX4_init 107 = .ok (.aload_n 0, 1) := by decide +kernel
theorem dX4_init_108 : decode cX4_init 108 = .ok (.bipush 16, 2) := by decide +kernel
theorem dX4_init_110 : decode cX4_init 110 = .ok (.newarray .int, 2) := by decide +kernel
theorem dX4_init_112 : decode cX4_init 112 = .ok (.putfield 50, 3) := by decide +kernel
theorem dX4_init_115 : decode cX4_init 115 = .ok (.iconst 0, 1) := by decide +kernel
theorem dX4_init_116 : decode cX4_init 116 = .ok (.istore_n 1, 1) := by decide +kernel
theorem dX4_init_117 : decode cX4_init 117 = .ok (.iload_n 1, 1) := by decide +kernel
theorem dX4_init_118 : decode cX4_init 118 = .ok (.bipush 8, 2) := by decide +kernel
theorem dX4_init_120 : decode cX4_init 120 = .ok (.if_icmp .ge 16, 3) := by decide +kernel
theorem dX4_init_123 : decode cX4_init 123 = .ok (.aload_n 0, 1) := by decide +kernel
theorem dX4_init_124 : decode cX4_init 124 = .ok (.getfield 13, 3) := by decide +kernel
theorem dX4_init_127 : decode cX4_init 127 = .ok (.iload_n 1, 1) := by decide +kernel
theorem dX4_init_128 : decode cX4_init 128 = .ok (.iconst (-1), 1) := by decide +kernel
theorem dX4_init_129 : decode cX4_init 129 = .ok (.iastore, 1) := by decide +kernel
theorem dX4_init_130 : decode cX4_init 130 = .ok (.iinc 1 1, 3) := by decide +kernel
theorem dX4_init_133 : decode cX4_init 133 = .ok (.goto (-16), 3) := by decide +kernel
theorem dX4_init_136 : decode cX4_init 136 = .ok (.return_, 1) := by decide +kernel
theorem dX4_in_0 : decode cX4_in 0 = .ok (.lload_n 0, 1) := by decide +kernel
theorem dX4_in_1 : decode cX4_in 1 = .ok (.lload_n 2, 1) := by decide +kernel
theorem dX4_in_2 : decode cX4_in 2 = .ok (.lcmp, 1) := by decide +kernel
theorem dX4_in_3 : decode cX4_in 3 = .ok (.ifCond .lt 14, 3) := by decide +kernel
theorem dX4_in_6 : decode cX4_in 6 = .ok (.lload_n 0, 1) := by decide +kernel
theorem dX4_in_7 : decode cX4_in 7 = .ok (.lload 4, 2) := by decide +kernel
theorem dX4_in_9 : decode cX4_in 9 = .ok (.lcmp, 1) := by decide +kernel
theorem dX4_in_10 : decode cX4_in 10 = .ok (.ifCond .gt 7, 3) := by decide +kernel
theorem dX4_in_13 : decode cX4_in 13 = .ok (.iconst 1, 1) := by decide +kernel
theorem dX4_in_14 : decode cX4_in 14 = .ok (.goto 4, 3) := by decide +kernel
theorem dX4_in_17 : decode cX4_in 17 = .ok (.iconst 0, 1) := by decide +kernel
theorem dX4_in_18 : decode cX4_in 18 = .ok (.ireturn, 1) := by decide +kernel
theorem dX4_has_0 : decode cX4_has 0 = .ok (.iload_n 0, 1) := by decide +kernel
theorem dX4_has_1 : decode cX4_has 1 = .ok (.iload_n 1, 1) := by decide +kernel
theorem dX4_has_2 : decode cX4_has 2 = .ok (.ishr, 1) := by decide +kernel
theorem dX4_has_3 : decode cX4_has 3 = .ok (.iconst 1, 1) := by decide +kernel
theorem dX4_has_4 : decode cX4_has 4 = .ok (.iand, 1) := by decide +kernel
theorem dX4_has_5 : decode cX4_has 5 = .ok (.iconst 1, 1) := by decide +kernel
theorem dX4_has_6 : decode cX4_has 6 = .ok (.if_icmp .ne 7, 3) := by decide +kernel
theorem dX4_has_9 : decode cX4_has 9 = .ok (.iconst 1, 1) := by decide +kernel
theorem dX4_has_10 : decode cX4_has 10 = .ok (.goto 4, 3) := by decide +kernel
theorem dX4_has_13 : decode cX4_has 13 = .ok (.iconst 0, 1) := by decide +kernel
theorem dX4_has_14 : decode cX4_has 14 = .ok (.ireturn, 1) := by decide +kernel
theorem dX4_ones_0 : decode cX4_ones 0 = .ok (.iconst 0, 1) := by decide +kernel
theorem dX4_ones_1 : decode cX4_ones 1 = .ok (.istore_n 1, 1) := by decide +kernel
theorem dX4_ones_2 : decode cX4_ones 2 = .ok (.iload_n 0, 1) := by decide +kernel
theorem dX4_ones_3 : decode cX4_ones 3 = .ok (.istore_n 2, 1) := by decide +kernel
theorem dX4_ones_4 : decode cX4_ones 4 = .ok (.iload_n 2, 1) := by decide +kernel
theorem dX4_ones_5 : decode cX4_ones 5 = .ok (.ifCond .eq 15, 3) := by decide +kernel
theorem dX4_ones_8 : decode cX4_ones 8 = .ok (.iinc 1 1, 3) := by decide +kernel
theorem dX4_ones_11 : decode cX4_ones 11 = .ok (.iload_n 2, 1) := by decide +kernel
theorem dX4_ones_12 : decode cX4_ones 12 = .ok (.iload_n 2, 1) := by decide +kernel
theorem dX4_ones_13 : decode cX4_ones 13 = .ok (.iconst 1, 1) := by decide +kernel
theorem dX4_ones_14 : decode cX4_ones 14 = .ok (.isub, 1) := by decide +kernel
theorem dX4_ones_15 : decode cX4_ones 15 = .ok (.iand, 1) := by decide +kernel
theorem dX4_ones_16 : decode cX4_ones 16 = .ok (.istore_n 2, 1) := by decide +kernel
theorem dX4_ones_17 : decode cX4_ones 17 = .ok (.goto (-13), 3) := by decide +kernel
theorem dX4_ones_20 : decode cX4_ones 20 = .ok (.iload_n 1, 1) := by decide +kernel
theorem dX4_ones_21 : decode cX4_ones 21 = .ok (.ireturn, 1) := by decide +kernel
theorem dX4_find_0 : decode cX4_find 0 = .ok (.aload_n 0, 1) := by decide +kernel
theorem dX4_find_1 : decode cX4_find 1 = .ok (.iload_n 1, 1) := by decide +kernel
theorem dX4_find_2 : decode cX4_find 2 = .ok (.putfield 53, 3) := by decide +kernel
theorem dX4_find_5 : decode cX4_find 5 = .ok (.ldc 57, 2) := by decide +kernel
theorem dX4_find_7 : decode cX4_find 7 = .ok (.iload_n 1, 1) := by decide +kernel
theorem dX4_find_8 : decode cX4_find 8 = .ok (.isub, 1) := by decide +kernel
theorem dX4_find_9 : decode cX4_find 9 = .ok (.ireturn, 1) := by decide +kernel
theorem dX4_well_0 : decode cX4_well 0 = .ok (.aload_n 0, 1) := by decide +kernel
theorem dX4_well_1 : decode cX4_well 1 = .ok (.iconst 0, 1) := by decide +kernel
theorem dX4_well_2 : decode cX4_well 2 = .ok (.putfield 53, 3) := by decide +kernel
theorem dX4_well_5 : decode cX4_well 5 = .ok (.iload_n 1, 1) := by decide +kernel
theorem dX4_well_6 : decode cX4_well 6 = .ok (.ireturn, 1) := by decide +kernel
theorem dX4_isRow_0 : decode cX4_isRow 0 = .ok (.iload_n 0, 1) := by decide +kernel
theorem dX4_isRow_1 : decode cX4_isRow 1 = .ok (.i2l, 1) := by decide +kernel
theorem dX4_isRow_2 : decode cX4_isRow 2 = .ok (.lconst 0, 1) := by decide +kernel
theorem dX4_isRow_3 : decode cX4_isRow 3 = .ok (.ldc2_w 58, 3) := by decide +kernel
theorem dX4_isRow_6 : decode cX4_isRow 6 = .ok (.invokestatic 60, 3) := by decide +kernel
theorem dX4_isRow_9 : decode cX4_isRow 9 = .ok (.ireturn, 1) := by decide +kernel
theorem dX4_row_0 : decode cX4_row 0 = .ok (.iload_n 1, 1) := by decide +kernel
theorem dX4_row_1 : decode cX4_row 1 = .ok (.invokestatic 64, 3) := by decide +kernel
theorem dX4_row_4 : decode cX4_row 4 = .ok (.ifCond .eq 21, 3) := by decide +kernel
theorem dX4_row_7 : decode cX4_row 7 = .ok (.iload_n 2, 1) := by decide +kernel
theorem dX4_row_8 : decode cX4_row 8 = .ok (.i2l, 1) := by decide +kernel
theorem dX4_row_9 : decode cX4_row 9 = .ok (.lconst 0, 1) := by decide +kernel
theorem dX4_row_10 : decode cX4_row 10 = .ok (.ldc2_w 68, 3) := by decide +kernel
theorem dX4_row_13 : decode cX4_row 13 = .ok (.invokestatic 60, 3) := by decide +kernel
theorem dX4_row_16 : decode cX4_row 16 = .ok (.ifCond .eq 9, 3) := by decide +kernel
theorem dX4_row_19 : decode cX4_row 19 = .ok (.iload_n 3, 1) := by decide +kernel
theorem dX4_row_20 : decode cX4_row 20 = .ok (.bipush 40, 2) := by decide +kernel
theorem dX4_row_22 : decode cX4_row 22 = .ok (.if_icmp .le 6, 3) := by decide +kernel
theorem dX4_row_25 : decode cX4_row 25 = .ok (.ldc 70, 2) := by decide +kernel
theorem dX4_row_27 : decode cX4_row 27 = .ok (.ireturn, 1) := by decide +kernel
theorem dX4_row_28 : decode cX4_row 28 = .ok (.iload_n 3, 1) := by decide +kernel
theorem dX4_row_29 : decode cX4_row 29 = .ok (.ifCond .ge 9, 3) := by decide +kernel
theorem dX4_row_32 : decode cX4_row 32 = .ok (.aload_n 0, 1) := by decide +kernel
theorem dX4_row_33 : decode cX4_row 33 = .ok (.iconst 4, 1) := by decide +kernel
theorem dX4_row_34 : decode cX4_row 34 = .ok (.invokevirtual 71, 3) := by decide +kernel
theorem dX4_row_37 : decode cX4_row 37 = .ok (.ireturn, 1) := by decide +kernel
theorem dX4_row_38 : decode cX4_row 38 = .ok (.aload_n 0, 1) := by decide +kernel
theorem dX4_row_39 : decode cX4_row 39 = .ok (.getfield 7, 3) := by decide +kernel
theorem dX4_row_42 : decode cX4_row 42 = .ok (.iload_n 1, 1) := by decide +kernel
theorem dX4_row_43 : decode cX4_row 43 = .ok (.iload_n 2, 1) := by decide +kernel
theorem dX4_row_44 : decode cX4_row 44 = .ok (.iastore, 1) := by decide +kernel
theorem dX4_row_45 : decode cX4_row 45 = .ok (.aload_n 0, 1) := by decide +kernel
theorem dX4_row_46 : decode cX4_row 46 = .ok (.getfield 13, 3) := by decide +kernel
theorem dX4_row_49 : decode cX4_row 49 = .ok (.iload_n 1, 1) := by decide +kernel
theorem dX4_row_50 : decode cX4_row 50 = .ok (.iload_n 3, 1) := by decide +kernel
theorem dX4_row_51 : decode cX4_row 51 = .ok (.iastore, 1) := by decide +kernel
theorem dX4_row_52 : decode cX4_row 52 = .ok (.iconst 0, 1) := by decide +kernel
theorem dX4_row_53 : decode cX4_row 53 = .ok (.istore 4, 2) := by decide +kernel
theorem dX4_row_55 : decode cX4_row 55 = .ok (.iload 4, 2) := by decide +kernel
theorem dX4_row_57 : decode cX4_row 57 = .ok (.bipush 40, 2) := by decide +kernel
theorem dX4_row_59 : decode cX4_row 59 = .ok (.if_icmp .ge 22, 3) := by decide +kernel
theorem dX4_row_62 : decode cX4_row 62 = .ok (.aload_n 0, 1) := by decide +kernel
theorem dX4_row_63 : decode cX4_row 63 = .ok (.getfield 16, 3) := by decide +kernel
theorem dX4_row_66 : decode cX4_row 66 = .ok (.bipush 40, 2) := by decide +kernel
theorem dX4_row_68 : decode cX4_row 68 = .ok (.iload_n 1, 1) := by decide +kernel
theorem dX4_row_69 : decode cX4_row 69 = .ok (.imul, 1) := by decide +kernel
theorem dX4_row_70 : decode cX4_row 70 = .ok (.iload 4, 2) := by decide +kernel
theorem dX4_row_72 : decode cX4_row 72 = .ok (.iadd, 1) := by decide +kernel
theorem dX4_row_73 : decode cX4_row 73 = .ok (.iconst 0, 1) := by decide +kernel
theorem dX4_row_74 : decode cX4_row 74 = .ok (.iastore, 1) := by decide +kernel
theorem dX4_row_75 : decode cX4_row 75 = .ok (.iinc 4 1, 3) := by decide +kernel
theorem dX4_row_78 : decode cX4_row 78 = .ok (.goto (-23), 3) := by decide +kernel
theorem dX4_row_81 : decode cX4_row 81 = .ok (.aload_n 0, 1) := by decide +kernel
theorem dX4_row_82 : decode cX4_row 82 = .ok (.iload_n 3, 1) := by decide +kernel
theorem dX4_row_83 : decode cX4_row 83 = .ok (.invokevirtual 75, 3) := by decide +kernel
theorem dX4_row_86 : decode cX4_row 86 = .ok (.ireturn, 1) := by decide +kernel
theorem dX4_asLane_0 : decode cX4_asLane 0 = .ok (.iload_n 0, 1) := by decide +kernel
theorem dX4_asLane_1 : decode cX4_asLane 1 = .ok (.ifCond .ne 13, 3) := by decide +kernel
theorem dX4_asLane_4 : decode cX4_asLane 4 = .ok (.iload_n 1, 1) := by decide +kernel
theorem dX4_asLane_5 : decode cX4_asLane 5 = .ok (.bipush 24, 2) := by decide +kernel
theorem dX4_asLane_7 : decode cX4_asLane 7 = .ok (.ishl, 1) := by decide +kernel
theorem dX4_asLane_8 : decode cX4_asLane 8 = .ok (.bipush 24, 2) := by decide +kernel
theorem dX4_asLane_10 : decode cX4_asLane 10 = .ok (.ishr, 1) := by decide +kernel
theorem dX4_asLane_11 : decode cX4_asLane 11 = .ok (.goto 19, 3) := by decide +kernel
theorem dX4_asLane_14 : decode cX4_asLane 14 = .ok (.iload_n 0, 1) := by decide +kernel
theorem dX4_asLane_15 : decode cX4_asLane 15 = .ok (.iconst 1, 1) := by decide +kernel
theorem dX4_asLane_16 : decode cX4_asLane 16 = .ok (.if_icmp .ne 13, 3) := by decide +kernel
theorem dX4_asLane_19 : decode cX4_asLane 19 = .ok (.iload_n 1, 1) := by decide +kernel
theorem dX4_asLane_20 : decode cX4_asLane 20 = .ok (.bipush 16, 2) := by decide +kernel
theorem dX4_asLane_22 : decode cX4_asLane 22 = .ok (.ishl, 1) := by decide +kernel
theorem dX4_asLane_23 : decode cX4_asLane 23 = .ok (.bipush 16, 2) := by decide +kernel
theorem dX4_asLane_25 : decode cX4_asLane 25 = .ok (.ishr, 1) := by decide +kernel
theorem dX4_asLane_26 : decode cX4_asLane 26 = .ok (.goto 4, 3) := by decide +kernel
theorem dX4_asLane_29 : decode cX4_asLane 29 = .ok (.iload_n 1, 1) := by decide +kernel
theorem dX4_asLane_30 : decode cX4_asLane 30 = .ok (.ireturn, 1) := by decide +kernel
theorem dX4_set_0 : decode cX4_set 0 = .ok (.iload_n 1, 1) := by decide +kernel
theorem dX4_set_1 : decode cX4_set 1 = .ok (.invokestatic 64, 3) := by decide +kernel
theorem dX4_set_4 : decode cX4_set 4 = .ok (.ifCond .ne 6, 3) := by decide +kernel
theorem dX4_set_7 : decode cX4_set 7 = .ok (.ldc 70, 2) := by decide +kernel
theorem dX4_set_9 : decode cX4_set 9 = .ok (.ireturn, 1) := by decide +kernel
theorem dX4_set_10 : decode cX4_set 10 = .ok (.aload_n 0, 1) := by decide +kernel
theorem dX4_set_11 : decode cX4_set 11 = .ok (.getfield 13, 3) := by decide +kernel
theorem dX4_set_14 : decode cX4_set 14 = .ok (.iload_n 1, 1) := by decide +kernel
theorem dX4_set_15 : decode cX4_set 15 = .ok (.iaload, 1) := by decide +kernel
theorem dX4_set_16 : decode cX4_set 16 = .ok (.ifCond .ge 9, 3) := by decide +kernel
theorem dX4_set_19 : decode cX4_set 19 = .ok (.aload_n 0, 1) := by decide +kernel
theorem dX4_set_20 : decode cX4_set 20 = .ok (.iconst 1, 1) := by decide +kernel
theorem dX4_set_21 : decode cX4_set 21 = .ok (.invokevirtual 71, 3) := by decide +kernel
theorem dX4_set_24 : decode cX4_set 24 = .ok (.ireturn, 1) := by decide +kernel
theorem dX4_set_25 : decode cX4_set 25 = .ok (.iload_n 2, 1) := by decide +kernel
theorem dX4_set_26 : decode cX4_set 26 = .ok (.i2l, 1) := by decide +kernel
theorem dX4_set_27 : decode cX4_set 27 = .ok (.lconst 0, 1) := by decide +kernel
theorem dX4_set_28 : decode cX4_set 28 = .ok (.aload_n 0, 1) := by decide +kernel
theorem dX4_set_29 : decode cX4_set 29 = .ok (.getfield 13, 3) := by decide +kernel
theorem dX4_set_32 : decode cX4_set 32 = .ok (.iload_n 1, 1) := by decide +kernel
theorem dX4_set_33 : decode cX4_set 33 = .ok (.iaload, 1) := by decide +kernel
theorem dX4_set_34 : decode cX4_set 34 = .ok (.iconst 1, 1) := by decide +kernel
theorem dX4_set_35 : decode cX4_set 35 = .ok (.isub, 1) := by decide +kernel
theorem dX4_set_36 : decode cX4_set 36 = .ok (.i2l, 1) := by decide +kernel
theorem dX4_set_37 : decode cX4_set 37 = .ok (.invokestatic 60, 3) := by decide +kernel
theorem dX4_set_40 : decode cX4_set 40 = .ok (.ifCond .ne 9, 3) := by decide +kernel
theorem dX4_set_43 : decode cX4_set 43 = .ok (.aload_n 0, 1) := by decide +kernel
theorem dX4_set_44 : decode cX4_set 44 = .ok (.iconst 2, 1) := by decide +kernel
theorem dX4_set_45 : decode cX4_set 45 = .ok (.invokevirtual 71, 3) := by decide +kernel
theorem dX4_set_48 : decode cX4_set 48 = .ok (.ireturn, 1) := by decide +kernel
theorem dX4_set_49 : decode cX4_set 49 = .ok (.aload_n 0, 1) := by decide +kernel
theorem dX4_set_50 : decode cX4_set 50 = .ok (.getfield 16, 3) := by decide +kernel
theorem dX4_set_53 : decode cX4_set 53 = .ok (.bipush 40, 2) := by decide +kernel
theorem dX4_set_55 : decode cX4_set 55 = .ok (.iload_n 1, 1) := by decide +kernel
theorem dX4_set_56 : decode cX4_set 56 = .ok (.imul, 1) := by decide +kernel
theorem dX4_set_57 : decode cX4_set 57 = .ok (.iload_n 2, 1) := by decide +kernel
theorem dX4_set_58 : decode cX4_set 58 = .ok (.iadd, 1) := by decide +kernel
theorem dX4_set_59 : decode cX4_set 59 = .ok (.aload_n 0, 1) := by decide +kernel
theorem dX4_set_60 : decode cX4_set 60 = .ok (.getfield 7, 3) := by decide +kernel
theorem dX4_set_63 : decode cX4_set 63 = .ok (.iload_n 1, 1) := by decide +kernel
theorem dX4_set_64 : decode cX4_set 64 = .ok (.iaload, 1) := by decide +kernel
theorem dX4_set_65 : decode cX4_set 65 = .ok (.iload_n 3, 1) := by decide +kernel
theorem dX4_set_66 : decode cX4_set 66 = .ok (.invokestatic 78, 3) := by decide +kernel
theorem dX4_set_69 : decode cX4_set 69 = .ok (.iastore, 1) := by decide +kernel
theorem dX4_set_70 : decode cX4_set 70 = .ok (.aload_n 0, 1) := by decide +kernel
theorem dX4_set_71 : decode cX4_set 71 = .ok (.aload_n 0, 1) := by decide +kernel
theorem dX4_set_72 : decode cX4_set 72 = .ok (.getfield 16, 3) := by decide +kernel
theorem dX4_set_75 : decode cX4_set 75 = .ok (.bipush 40, 2) := by decide +kernel
theorem dX4_set_77 : decode cX4_set 77 = .ok (.iload_n 1, 1) := by decide +kernel
theorem dX4_set_78 : decode cX4_set 78 = .ok (.imul, 1) := by decide +kernel
theorem dX4_set_79 : decode cX4_set 79 = .ok (.iload_n 2, 1) := by decide +kernel
theorem dX4_set_80 : decode cX4_set 80 = .ok (.iadd, 1) := by decide +kernel
theorem dX4_set_81 : decode cX4_set 81 = .ok (.iaload, 1) := by decide +kernel
theorem dX4_set_82 : decode cX4_set 82 = .ok (.invokevirtual 75, 3) := by decide +kernel
theorem dX4_set_85 : decode cX4_set 85 = .ok (.ireturn, 1) := by decide +kernel
theorem dX4_copy_0 : decode cX4_copy 0 = .ok (.iload_n 1, 1) := by decide +kernel
theorem dX4_copy_1 : decode cX4_copy 1 = .ok (.invokestatic 64, 3) := by decide +kernel
theorem dX4_copy_4 : decode cX4_copy 4 = .ok (.ifCond .eq 10, 3) := by decide +kernel
theorem dX4_copy_7 : decode cX4_copy 7 = .ok (.iload_n 3, 1) := by decide +kernel
theorem dX4_copy_8 : decode cX4_copy 8 = .ok (.invokestatic 64, 3) := by decide +kernel
theorem dX4_copy_11 : decode cX4_copy 11 = .ok (.ifCond .ne 6, 3) := by decide +kernel
theorem dX4_copy_14 : decode cX4_copy 14 = .ok (.ldc 70, 2) := by decide +kernel
theorem dX4_copy_16 : decode cX4_copy 16 = .ok (.ireturn, 1) := by decide +kernel
theorem dX4_copy_17 : decode cX4_copy 17 = .ok (.aload_n 0, 1) := by decide +kernel
theorem dX4_copy_18 : decode cX4_copy 18 = .ok (.getfield 13, 3) := by decide +kernel
theorem dX4_copy_21 : decode cX4_copy 21 = .ok (.iload_n 1, 1) := by decide +kernel
theorem dX4_copy_22 : decode cX4_copy 22 = .ok (.iaload, 1) := by decide +kernel
theorem dX4_copy_23 : decode cX4_copy 23 = .ok (.ifCond .lt 12, 3) := by decide +kernel
theorem dX4_copy_26 : decode cX4_copy 26 = .ok (.aload_n 0, 1) := by decide +kernel
theorem dX4_copy_27 : decode cX4_copy 27 = .ok (.getfield 13, 3) := by decide +kernel
theorem dX4_copy_30 : decode cX4_copy 30 = .ok (.iload_n 3, 1) := by decide +kernel
theorem dX4_copy_31 : decode cX4_copy 31 = .ok (.iaload, 1) := by decide +kernel
theorem dX4_copy_32 : decode cX4_copy 32 = .ok (.ifCond .ge 9, 3) := by decide +kernel
theorem dX4_copy_35 : decode cX4_copy 35 = .ok (.aload_n 0, 1) := by decide +kernel
theorem dX4_copy_36 : decode cX4_copy 36 = .ok (.iconst 1, 1) := by decide +kernel
theorem dX4_copy_37 : decode cX4_copy 37 = .ok (.invokevirtual 71, 3) := by decide +kernel
theorem dX4_copy_40 : decode cX4_copy 40 = .ok (.ireturn, 1) := by decide +kernel
theorem dX4_copy_41 : decode cX4_copy 41 = .ok (.aload_n 0, 1) := by decide +kernel
theorem dX4_copy_42 : decode cX4_copy 42 = .ok (.getfield 7, 3) := by decide +kernel
theorem dX4_copy_45 : decode cX4_copy 45 = .ok (.iload_n 1, 1) := by decide +kernel
theorem dX4_copy_46 : decode cX4_copy 46 = .ok (.iaload, 1) := by decide +kernel
theorem dX4_copy_47 : decode cX4_copy 47 = .ok (.aload_n 0, 1) := by decide +kernel
theorem dX4_copy_48 : decode cX4_copy 48 = .ok (.getfield 7, 3) := by decide +kernel
theorem dX4_copy_51 : decode cX4_copy 51 = .ok (.iload_n 3, 1) := by decide +kernel
theorem dX4_copy_52 : decode cX4_copy 52 = .ok (.iaload, 1) := by decide +kernel
theorem dX4_copy_53 : decode cX4_copy 53 = .ok (.if_icmp .eq 9, 3) := by decide +kernel
theorem dX4_copy_56 : decode cX4_copy 56 = .ok (.aload_n 0, 1) := by decide +kernel
theorem dX4_copy_57 : decode cX4_copy 57 = .ok (.iconst 5, 1) := by decide +kernel
theorem dX4_copy_58 : decode cX4_copy 58 = .ok (.invokevirtual 71, 3) := by decide +kernel
theorem dX4_copy_61 : decode cX4_copy 61 = .ok (.ireturn, 1) := by decide +kernel
theorem dX4_copy_62 : decode cX4_copy 62 = .ok (.iload 5, 2) := by decide +kernel
theorem dX4_copy_64 : decode cX4_copy 64 = .ok (.ifCond .lt 44, 3) := by decide +kernel
theorem dX4_copy_67 : decode cX4_copy 67 = .ok (.iload_n 2, 1) := by decide +kernel
theorem dX4_copy_68 : decode cX4_copy 68 = .ok (.i2l, 1) := by decide +kernel
theorem dX4_copy_69 : decode cX4_copy 69 = .ok (.lconst 0, 1) := by decide +kernel
theorem dX4_copy_70 : decode cX4_copy 70 = .ok (.aload_n 0, 1) := by decide +kernel
theorem dX4_copy_71 : decode cX4_copy 71 = .ok (.getfield 13, 3) := by decide +kernel
theorem dX4_copy_74 : decode cX4_copy 74 = .ok (.iload_n 1, 1) := by decide +kernel
theorem dX4_copy_75 : decode cX4_copy 75 = .ok (.iaload, 1) := by decide +kernel
theorem dX4_copy_76 : decode cX4_copy 76 = .ok (.i2l, 1) := by decide +kernel
theorem dX4_copy_77 : decode cX4_copy 77 = .ok (.iload 5, 2) := by decide +kernel
theorem dX4_copy_79 : decode cX4_copy 79 = .ok (.i2l, 1) := by decide +kernel
theorem dX4_copy_80 : decode cX4_copy 80 = .ok (.lsub, 1) := by decide +kernel
theorem dX4_copy_81 : decode cX4_copy 81 = .ok (.invokestatic 60, 3) := by decide +kernel
theorem dX4_copy_84 : decode cX4_copy 84 = .ok (.ifCond .eq 24, 3) := by decide +kernel
theorem dX4_copy_87 : decode cX4_copy 87 = .ok (.iload 4, 2) := by decide +kernel
theorem dX4_copy_89 : decode cX4_copy 89 = .ok (.i2l, 1) := by decide +kernel
theorem dX4_copy_90 : decode cX4_copy 90 = .ok (.lconst 0, 1) := by decide +kernel
theorem dX4_copy_91 : decode cX4_copy 91 = .ok (.aload_n 0, 1) := by decide +kernel
theorem dX4_copy_92 : decode cX4_copy 92 = .ok (.getfield 13, 3) := by decide +kernel
theorem dX4_copy_95 : decode cX4_copy 95 = .ok (.iload_n 3, 1) := by decide +kernel
theorem dX4_copy_96 : decode cX4_copy 96 = .ok (.iaload, 1) := by decide +kernel
theorem dX4_copy_97 : decode cX4_copy 97 = .ok (.i2l, 1) := by decide +kernel
theorem dX4_copy_98 : decode cX4_copy 98 = .ok (.iload 5, 2) := by decide +kernel
theorem dX4_copy_100 : decode cX4_copy 100 = .ok (.i2l, 1) := by decide +kernel
theorem dX4_copy_101 : decode cX4_copy 101 = .ok (.lsub, 1) := by decide +kernel
theorem dX4_copy_102 : decode cX4_copy 102 = .ok (.invokestatic 60, 3) := by decide +kernel
theorem dX4_copy_105 : decode cX4_copy 105 = .ok (.ifCond .ne 9, 3) := by decide +kernel
theorem dX4_copy_108 : decode cX4_copy 108 = .ok (.aload_n 0, 1) := by decide +kernel
theorem dX4_copy_109 : decode cX4_copy 109 = .ok (.iconst 2, 1) := by decide +kernel
theorem dX4_copy_110 : decode cX4_copy 110 = .ok (.invokevirtual 71, 3) := by decide +kernel
theorem dX4_copy_113 : decode cX4_copy 113 = .ok (.ireturn, 1) := by decide +kernel
theorem dX4_copy_114 : decode cX4_copy 114 = .ok (.iconst 0, 1) := by decide +kernel
theorem dX4_copy_115 : decode cX4_copy 115 = .ok (.istore 6, 2) := by decide +kernel
theorem dX4_copy_117 : decode cX4_copy 117 = .ok (.iload 6, 2) := by decide +kernel
theorem dX4_copy_119 : decode cX4_copy 119 = .ok (.iload 5, 2) := by decide +kernel
theorem dX4_copy_121 : decode cX4_copy 121 = .ok (.if_icmp .ge 30, 3) := by decide +kernel
theorem dX4_copy_124 : decode cX4_copy 124 = .ok (.aload_n 0, 1) := by decide +kernel
theorem dX4_copy_125 : decode cX4_copy 125 = .ok (.getfield 22, 3) := by decide +kernel
theorem dX4_copy_128 : decode cX4_copy 128 = .ok (.iload 6, 2) := by decide +kernel
theorem dX4_copy_130 : decode cX4_copy 130 = .ok (.aload_n 0, 1) := by decide +kernel
theorem dX4_copy_131 : decode cX4_copy 131 = .ok (.getfield 16, 3) := by decide +kernel
theorem dX4_copy_134 : decode cX4_copy 134 = .ok (.bipush 40, 2) := by decide +kernel
theorem dX4_copy_136 : decode cX4_copy 136 = .ok (.iload_n 1, 1) := by decide +kernel
theorem dX4_copy_137 : decode cX4_copy 137 = .ok (.imul, 1) := by decide +kernel
theorem dX4_copy_138 : decode cX4_copy 138 = .ok (.iload_n 2, 1) := by decide +kernel
theorem dX4_copy_139 : decode cX4_copy 139 = .ok (.iadd, 1) := by decide +kernel
theorem dX4_copy_140 : decode cX4_copy 140 = .ok (.iload 6, 2) := by decide +kernel
theorem dX4_copy_142 : decode cX4_copy 142 = .ok (.iadd, 1) := by decide +kernel
theorem dX4_copy_143 : decode cX4_copy 143 = .ok (.iaload, 1) := by decide +kernel
theorem dX4_copy_144 : decode cX4_copy 144 = .ok (.iastore, 1) := by decide +kernel
theorem dX4_copy_145 : decode cX4_copy 145 = .ok (.iinc 6 1, 3) := by decide +kernel
theorem dX4_copy_148 : decode cX4_copy 148 = .ok (.goto (-31), 3) := by decide +kernel
theorem dX4_copy_151 : decode cX4_copy 151 = .ok (.iconst 0, 1) := by decide +kernel
theorem dX4_copy_152 : decode cX4_copy 152 = .ok (.istore 6, 2) := by decide +kernel
theorem dX4_copy_154 : decode cX4_copy 154 = .ok (.iload 6, 2) := by decide +kernel
theorem dX4_copy_156 : decode cX4_copy 156 = .ok (.iload 5, 2) := by decide +kernel
theorem dX4_copy_158 : decode cX4_copy 158 = .ok (.if_icmp .ge 31, 3) := by decide +kernel
theorem dX4_copy_161 : decode cX4_copy 161 = .ok (.aload_n 0, 1) := by decide +kernel
theorem dX4_copy_162 : decode cX4_copy 162 = .ok (.getfield 16, 3) := by decide +kernel
theorem dX4_copy_165 : decode cX4_copy 165 = .ok (.bipush 40, 2) := by decide +kernel
theorem dX4_copy_167 : decode cX4_copy 167 = .ok (.iload_n 3, 1) := by decide +kernel
theorem dX4_copy_168 : decode cX4_copy 168 = .ok (.imul, 1) := by decide +kernel
theorem dX4_copy_169 : decode cX4_copy 169 = .ok (.iload 4, 2) := by decide +kernel
theorem dX4_copy_171 : decode cX4_copy 171 = .ok (.iadd, 1) := by decide +kernel
theorem dX4_copy_172 : decode cX4_copy 172 = .ok (.iload 6, 2) := by decide +kernel
theorem dX4_copy_174 : decode cX4_copy 174 = .ok (.iadd, 1) := by decide +kernel
theorem dX4_copy_175 : decode cX4_copy 175 = .ok (.aload_n 0, 1) := by decide +kernel
theorem dX4_copy_176 : decode cX4_copy 176 = .ok (.getfield 22, 3) := by decide +kernel
theorem dX4_copy_179 : decode cX4_copy 179 = .ok (.iload 6, 2) := by decide +kernel
theorem dX4_copy_181 : decode cX4_copy 181 = .ok (.iaload, 1) := by decide +kernel
theorem dX4_copy_182 : decode cX4_copy 182 = .ok (.iastore, 1) := by decide +kernel
theorem dX4_copy_183 : decode cX4_copy 183 = .ok (.iinc 6 1, 3) := by decide +kernel
theorem dX4_copy_186 : decode cX4_copy 186 = .ok (.goto (-32), 3) := by decide +kernel
theorem dX4_copy_189 : decode cX4_copy 189 = .ok (.aload_n 0, 1) := by decide +kernel
theorem dX4_copy_190 : decode cX4_copy 190 = .ok (.iload 5, 2) := by decide +kernel
theorem dX4_copy_192 : decode cX4_copy 192 = .ok (.invokevirtual 75, 3) := by decide +kernel
theorem dX4_copy_195 : decode cX4_copy 195 = .ok (.ireturn, 1) := by decide +kernel
theorem dX4_drop_0 : decode cX4_drop 0 = .ok (.iload_n 1, 1) := by decide +kernel
theorem dX4_drop_1 : decode cX4_drop 1 = .ok (.invokestatic 64, 3) := by decide +kernel
theorem dX4_drop_4 : decode cX4_drop 4 = .ok (.ifCond .ne 6, 3) := by decide +kernel
theorem dX4_drop_7 : decode cX4_drop 7 = .ok (.ldc 70, 2) := by decide +kernel
theorem dX4_drop_9 : decode cX4_drop 9 = .ok (.ireturn, 1) := by decide +kernel
theorem dX4_drop_10 : decode cX4_drop 10 = .ok (.aload_n 0, 1) := by decide +kernel
theorem dX4_drop_11 : decode cX4_drop 11 = .ok (.getfield 13, 3) := by decide +kernel
theorem dX4_drop_14 : decode cX4_drop 14 = .ok (.iload_n 1, 1) := by decide +kernel
theorem dX4_drop_15 : decode cX4_drop 15 = .ok (.iaload, 1) := by decide +kernel
theorem dX4_drop_16 : decode cX4_drop 16 = .ok (.ifCond .ge 9, 3) := by decide +kernel
theorem dX4_drop_19 : decode cX4_drop 19 = .ok (.aload_n 0, 1) := by decide +kernel
theorem dX4_drop_20 : decode cX4_drop 20 = .ok (.iconst 1, 1) := by decide +kernel
theorem dX4_drop_21 : decode cX4_drop 21 = .ok (.invokevirtual 71, 3) := by decide +kernel
theorem dX4_drop_24 : decode cX4_drop 24 = .ok (.ireturn, 1) := by decide +kernel
theorem dX4_drop_25 : decode cX4_drop 25 = .ok (.aload_n 0, 1) := by decide +kernel
theorem dX4_drop_26 : decode cX4_drop 26 = .ok (.getfield 13, 3) := by decide +kernel
theorem dX4_drop_29 : decode cX4_drop 29 = .ok (.iload_n 1, 1) := by decide +kernel
theorem dX4_drop_30 : decode cX4_drop 30 = .ok (.iaload, 1) := by decide +kernel
theorem dX4_drop_31 : decode cX4_drop 31 = .ok (.istore_n 2, 1) := by decide +kernel
theorem dX4_drop_32 : decode cX4_drop 32 = .ok (.aload_n 0, 1) := by decide +kernel
theorem dX4_drop_33 : decode cX4_drop 33 = .ok (.getfield 13, 3) := by decide +kernel
theorem dX4_drop_36 : decode cX4_drop 36 = .ok (.iload_n 1, 1) := by decide +kernel
theorem dX4_drop_37 : decode cX4_drop 37 = .ok (.iconst (-1), 1) := by decide +kernel
theorem dX4_drop_38 : decode cX4_drop 38 = .ok (.iastore, 1) := by decide +kernel
theorem dX4_drop_39 : decode cX4_drop 39 = .ok (.aload_n 0, 1) := by decide +kernel
theorem dX4_drop_40 : decode cX4_drop 40 = .ok (.iload_n 2, 1) := by decide +kernel
theorem dX4_drop_41 : decode cX4_drop 41 = .ok (.invokevirtual 75, 3) := by decide +kernel
theorem dX4_drop_44 : decode cX4_drop 44 = .ok (.ireturn, 1) := by decide +kernel
theorem dX4_feed_0 : decode cX4_feed 0 = .ok (.iload_n 1, 1) := by decide +kernel
theorem dX4_feed_1 : decode cX4_feed 1 = .ok (.i2l, 1) := by decide +kernel
theorem dX4_feed_2 : decode cX4_feed 2 = .ok (.lconst 0, 1) := by decide +kernel
theorem dX4_feed_3 : decode cX4_feed 3 = .ok (.ldc2_w 82, 3) := by decide +kernel
theorem dX4_feed_6 : decode cX4_feed 6 = .ok (.invokestatic 60, 3) := by decide +kernel
theorem dX4_feed_9 : decode cX4_feed 9 = .ok (.ifCond .ne 6, 3) := by decide +kernel
theorem dX4_feed_12 : decode cX4_feed 12 = .ok (.ldc 70, 2) := by decide +kernel
theorem dX4_feed_14 : decode cX4_feed 14 = .ok (.ireturn, 1) := by decide +kernel
theorem dX4_feed_15 : decode cX4_feed 15 = .ok (.aload_n 0, 1) := by decide +kernel
theorem dX4_feed_16 : decode cX4_feed 16 = .ok (.getfield 84, 3) := by decide +kernel
theorem dX4_feed_19 : decode cX4_feed 19 = .ok (.bipush 120, 2) := by decide +kernel
theorem dX4_feed_21 : decode cX4_feed 21 = .ok (.if_icmp .ne 6, 3) := by decide +kernel
theorem dX4_feed_24 : decode cX4_feed 24 = .ok (.ldc 87, 2) := by decide +kernel
theorem dX4_feed_26 : decode cX4_feed 26 = .ok (.ireturn, 1) := by decide +kernel
theorem dX4_feed_27 : decode cX4_feed 27 = .ok (.aload_n 0, 1) := by decide +kernel
theorem dX4_feed_28 : decode cX4_feed 28 = .ok (.getfield 25, 3) := by decide +kernel
theorem dX4_feed_31 : decode cX4_feed 31 = .ok (.aload_n 0, 1) := by decide +kernel
theorem dX4_feed_32 : decode cX4_feed 32 = .ok (.getfield 84, 3) := by decide +kernel
theorem dX4_feed_35 : decode cX4_feed 35 = .ok (.iload_n 1, 1) := by decide +kernel
theorem dX4_feed_36 : decode cX4_feed 36 = .ok (.iastore, 1) := by decide +kernel
theorem dX4_feed_37 : decode cX4_feed 37 = .ok (.aload_n 0, 1) := by decide +kernel
theorem dX4_feed_38 : decode cX4_feed 38 = .ok (.dup, 1) := by decide +kernel
theorem dX4_feed_39 : decode cX4_feed 39 = .ok (.getfield 84, 3) := by decide +kernel
theorem dX4_feed_42 : decode cX4_feed 42 = .ok (.iconst 1, 1) := by decide +kernel
theorem dX4_feed_43 : decode cX4_feed 43 = .ok (.iadd, 1) := by decide +kernel
theorem dX4_feed_44 : decode cX4_feed 44 = .ok (.putfield 84, 3) := by decide +kernel
theorem dX4_feed_47 : decode cX4_feed 47 = .ok (.aload_n 0, 1) := by decide +kernel
theorem dX4_feed_48 : decode cX4_feed 48 = .ok (.getfield 84, 3) := by decide +kernel
theorem dX4_feed_51 : decode cX4_feed 51 = .ok (.ireturn, 1) := by decide +kernel
theorem dX4_nextToken_0 : decode cX4_nextToken 0 = .ok (.aload_n 0, 1) := by decide +kernel
theorem dX4_nextToken_1 : decode cX4_nextToken 1 = .ok (.aload_n 0, 1) := by decide +kernel
theorem dX4_nextToken_2 : decode cX4_nextToken 2 = .ok (.getfield 88, 3) := by decide +kernel
theorem dX4_nextToken_5 : decode cX4_nextToken 5 = .ok (.putfield 91, 3) := by decide +kernel
theorem dX4_nextToken_8 : decode cX4_nextToken 8 = .ok (.aload_n 0, 1) := by decide +kernel
theorem dX4_nextToken_9 : decode cX4_nextToken 9 = .ok (.aload_n 0, 1) := by decide +kernel
theorem dX4_nextToken_10 : decode cX4_nextToken 10 = .ok (.getfield 88, 3) := by decide +kernel
theorem dX4_nextToken_13 : decode cX4_nextToken 13 = .ok (.aload_n 0, 1) := by decide +kernel
theorem dX4_nextToken_14 : decode cX4_nextToken 14 = .ok (.getfield 84, 3) := by decide +kernel
theorem dX4_nextToken_17 : decode cX4_nextToken 17 = .ok (.if_icmp .ne 7, 3) := by decide +kernel
theorem dX4_nextToken_20 : decode cX4_nextToken 20 = .ok (.iconst 3, 1) := by decide +kernel
theorem dX4_nextToken_21 : decode cX4_nextToken 21 = .ok (.goto 4, 3) := by decide +kernel
theorem dX4_nextToken_24 : decode cX4_nextToken 24 = .ok (.iconst 0, 1) := by decide +kernel
theorem dX4_nextToken_25 : decode cX4_nextToken 25 = .ok (.putfield 94, 3) := by decide +kernel
theorem dX4_nextToken_28 : decode cX4_nextToken 28 = .ok (.aload_n 0, 1) := by decide +kernel
theorem dX4_nextToken_29 : decode cX4_nextToken 29 = .ok (.iconst 0, 1) := by decide +kernel
theorem dX4_nextToken_30 : decode cX4_nextToken 30 = .ok (.putfield 97, 3) := by decide +kernel
theorem dX4_nextToken_33 : decode cX4_nextToken 33 = .ok (.aload_n 0, 1) := by decide +kernel
theorem dX4_nextToken_34 : decode cX4_nextToken 34 = .ok (.getfield 88, 3) := by decide +kernel
theorem dX4_nextToken_37 : decode cX4_nextToken 37 = .ok (.aload_n 0, 1) := by decide +kernel
theorem dX4_nextToken_38 : decode cX4_nextToken 38 = .ok (.getfield 84, 3) := by decide +kernel
theorem dX4_nextToken_41 : decode cX4_nextToken 41 = .ok (.if_icmp .ge 79, 3) := by decide +kernel
theorem dX4_nextToken_44 : decode cX4_nextToken 44 = .ok (.aload_n 0, 1) := by decide +kernel
theorem dX4_nextToken_45 : decode cX4_nextToken 45 = .ok (.getfield 25, 3) := by decide +kernel
theorem dX4_nextToken_48 : decode cX4_nextToken 48 = .ok (.aload_n 0, 1) := by decide +kernel
theorem dX4_nextToken_49 : decode cX4_nextToken 49 = .ok (.getfield 88, 3) := by decide +kernel
theorem dX4_nextToken_52 : decode cX4_nextToken 52 = .ok (.iaload, 1) := by decide +kernel
theorem dX4_nextToken_53 : decode cX4_nextToken 53 = .ok (.i2l, 1) := by decide +kernel
theorem dX4_nextToken_54 : decode cX4_nextToken 54 = .ok (.ldc2_w 100, 3) := by decide +kernel
theorem dX4_nextToken_57 : decode cX4_nextToken 57 = .ok (.ldc2_w 102, 3) := by decide +kernel
theorem dX4_nextToken_60 : decode cX4_nextToken 60 = .ok (.invokestatic 60, 3) := by decide +kernel
theorem dX4_nextToken_63 : decode cX4_nextToken 63 = .ok (.ifCond .eq 57, 3) := by decide +kernel
theorem dX4_nextToken_66 : decode cX4_nextToken 66 = .ok (.aload_n 0, 1) := by decide +kernel
theorem dX4_nextToken_67 : decode cX4_nextToken 67 = .ok (.aload_n 0, 1) := by decide +kernel
theorem dX4_nextToken_68 : decode cX4_nextToken 68 = .ok (.getfield 97, 3) := by decide +kernel
theorem dX4_nextToken_71 : decode cX4_nextToken 71 = .ok (.sipush 999, 3) := by decide +kernel
theorem dX4_nextToken_74 : decode cX4_nextToken 74 = .ok (.if_icmp .le 10, 3) := by decide +kernel
theorem dX4_nextToken_77 : decode cX4_nextToken 77 = .ok (.aload_n 0, 1) := by decide +kernel
theorem dX4_nextToken_78 : decode cX4_nextToken 78 = .ok (.getfield 97, 3) := by decide +kernel
theorem dX4_nextToken_81 : decode cX4_nextToken 81 = .ok (.goto 23, 3) := by decide +kernel
theorem dX4_nextToken_84 : decode cX4_nextToken 84 = .ok (.bipush 10, 2) := by decide +kernel
theorem dX4_nextToken_86 : decode cX4_nextToken 86 = .ok (.aload_n 0, 1) := by decide +kernel
theorem dX4_nextToken_87 : decode cX4_nextToken 87 = .ok (.getfield 97, 3) := by decide +kernel
theorem dX4_nextToken_90 : decode cX4_nextToken 90 = .ok (.imul, 1) := by decide +kernel
theorem dX4_nextToken_91 : decode cX4_nextToken 91 = .ok (.aload_n 0, 1) := by decide +kernel
theorem dX4_nextToken_92 : decode cX4_nextToken 92 = .ok (.getfield 25, 3) := by decide +kernel
theorem dX4_nextToken_95 : decode cX4_nextToken 95 = .ok (.aload_n 0, 1) := by decide +kernel
theorem dX4_nextToken_96 : decode cX4_nextToken 96 = .ok (.getfield 88, 3) := by decide +kernel
theorem dX4_nextToken_99 : decode cX4_nextToken 99 = .ok (.iaload, 1) := by decide +kernel
theorem dX4_nextToken_100 : decode cX4_nextToken 100 = .ok (.iadd, 1) := by decide +kernel
theorem dX4_nextToken_101 : decode cX4_nextToken 101 = .ok (.bipush 48, 2) := by decide +kernel
theorem dX4_nextToken_103 : decode cX4_nextToken 103 = .ok (.isub, 1) := by decide +kernel
theorem dX4_nextToken_104 : decode cX4_nextToken 104 = .ok (.putfield 97, 3) := by decide +kernel
theorem dX4_nextToken_107 : decode cX4_nextToken 107 = .ok (.aload_n 0, 1) := by decide +kernel
theorem dX4_nextToken_108 : decode cX4_nextToken 108 = .ok (.dup, 1) := by decide +kernel
theorem dX4_nextToken_109 : decode cX4_nextToken 109 = .ok (.getfield 88, 3) := by decide +kernel
theorem dX4_nextToken_112 : decode cX4_nextToken 112 = .ok (.iconst 1, 1) := by decide +kernel
theorem dX4_nextToken_113 : decode cX4_nextToken 113 = .ok (.iadd, 1) := by decide +kernel
theorem dX4_nextToken_114 : decode cX4_nextToken 114 = .ok (.putfield 88, 3) := by decide +kernel
theorem dX4_nextToken_117 : decode cX4_nextToken 117 = .ok (.goto (-84), 3) := by decide +kernel
theorem dX4_nextToken_120 : decode cX4_nextToken 120 = .ok (.aload_n 0, 1) := by decide +kernel
theorem dX4_nextToken_121 : decode cX4_nextToken 121 = .ok (.getfield 88, 3) := by decide +kernel
theorem dX4_nextToken_124 : decode cX4_nextToken 124 = .ok (.aload_n 0, 1) := by decide +kernel
theorem dX4_nextToken_125 : decode cX4_nextToken 125 = .ok (.getfield 91, 3) := by decide +kernel
theorem dX4_nextToken_128 : decode cX4_nextToken 128 = .ok (.if_icmp .le 28, 3) := by decide +kernel
theorem dX4_nextToken_131 : decode cX4_nextToken 131 = .ok (.aload_n 0, 1) := by decide +kernel
theorem dX4_nextToken_132 : decode cX4_nextToken 132 = .ok (.aload_n 0, 1) := by decide +kernel
theorem dX4_nextToken_133 : decode cX4_nextToken 133 = .ok (.getfield 88, 3) := by decide +kernel
theorem dX4_nextToken_136 : decode cX4_nextToken 136 = .ok (.aload_n 0, 1) := by decide +kernel
theorem dX4_nextToken_137 : decode cX4_nextToken 137 = .ok (.getfield 91, 3) := by decide +kernel
theorem dX4_nextToken_140 : decode cX4_nextToken 140 = .ok (.isub, 1) := by decide +kernel
theorem dX4_nextToken_141 : decode cX4_nextToken 141 = .ok (.iconst 3, 1) := by decide +kernel
theorem dX4_nextToken_142 : decode cX4_nextToken 142 = .ok (.if_icmp .le 7, 3) := by decide +kernel
theorem dX4_nextToken_145 : decode cX4_nextToken 145 = .ok (.iconst 0, 1) := by decide +kernel
theorem dX4_nextToken_146 : decode cX4_nextToken 146 = .ok (.goto 4, 3) := by decide +kernel
theorem dX4_nextToken_149 : decode cX4_nextToken 149 = .ok (.iconst 2, 1) := by decide +kernel
theorem dX4_nextToken_150 : decode cX4_nextToken 150 = .ok (.putfield 94, 3) := by decide +kernel
theorem dX4_nextToken_153 : decode cX4_nextToken 153 = .ok (.goto 77, 3) := by decide +kernel
theorem dX4_nextToken_156 : decode cX4_nextToken 156 = .ok (.aload_n 0, 1) := by decide +kernel
theorem dX4_nextToken_157 : decode cX4_nextToken 157 = .ok (.getfield 94, 3) := by decide +kernel
theorem dX4_nextToken_160 : decode cX4_nextToken 160 = .ok (.ifCond .ne 70, 3) := by decide +kernel
theorem dX4_nextToken_163 : decode cX4_nextToken 163 = .ok (.aload_n 0, 1) := by decide +kernel
theorem dX4_nextToken_164 : decode cX4_nextToken 164 = .ok (.aload_n 0, 1) := by decide +kernel
theorem dX4_nextToken_165 : decode cX4_nextToken 165 = .ok (.getfield 25, 3) := by decide +kernel
theorem dX4_nextToken_168 : decode cX4_nextToken 168 = .ok (.aload_n 0, 1) := by decide +kernel
theorem dX4_nextToken_169 : decode cX4_nextToken 169 = .ok (.getfield 88, 3) := by decide +kernel
theorem dX4_nextToken_172 : decode cX4_nextToken 172 = .ok (.iaload, 1) := by decide +kernel
theorem dX4_nextToken_173 : decode cX4_nextToken 173 = .ok (.putfield 97, 3) := by decide +kernel
theorem dX4_nextToken_176 : decode cX4_nextToken 176 = .ok (.aload_n 0, 1) := by decide +kernel
theorem dX4_nextToken_177 : decode cX4_nextToken 177 = .ok (.aload_n 0, 1) := by decide +kernel
theorem dX4_nextToken_178 : decode cX4_nextToken 178 = .ok (.getfield 97, 3) := by decide +kernel
theorem dX4_nextToken_181 : decode cX4_nextToken 181 = .ok (.i2l, 1) := by decide +kernel
theorem dX4_nextToken_182 : decode cX4_nextToken 182 = .ok (.ldc2_w 104, 3) := by decide +kernel
theorem dX4_nextToken_185 : decode cX4_nextToken 185 = .ok (.ldc2_w 106, 3) := by decide +kernel
theorem dX4_nextToken_188 : decode cX4_nextToken 188 = .ok (.invokestatic 60, 3) := by decide +kernel
theorem dX4_nextToken_191 : decode cX4_nextToken 191 = .ok (.ifCond .ne 21, 3) := by decide +kernel
theorem dX4_nextToken_194 : decode cX4_nextToken 194 = .ok (.aload_n 0, 1) := by decide +kernel
theorem dX4_nextToken_195 : decode cX4_nextToken 195 = .ok (.getfield 97, 3) := by decide +kernel
theorem dX4_nextToken_198 : decode cX4_nextToken 198 = .ok (.bipush 44, 2) := by decide +kernel
theorem dX4_nextToken_200 : decode cX4_nextToken 200 = .ok (.if_icmp .eq 12, 3) := by decide +kernel
theorem dX4_nextToken_203 : decode cX4_nextToken 203 = .ok (.aload_n 0, 1) := by decide +kernel
theorem dX4_nextToken_204 : decode cX4_nextToken 204 = .ok (.getfield 97, 3) := by decide +kernel
theorem dX4_nextToken_207 : decode cX4_nextToken 207 = .ok (.bipush 59, 2) := by decide +kernel
theorem dX4_nextToken_209 : decode cX4_nextToken 209 = .ok (.if_icmp .ne 7, 3) := by decide +kernel
theorem dX4_nextToken_212 : decode cX4_nextToken 212 = .ok (.iconst 1, 1) := by decide +kernel
theorem dX4_nextToken_213 : decode cX4_nextToken 213 = .ok (.goto 4, 3) := by decide +kernel
theorem dX4_nextToken_216 : decode cX4_nextToken 216 = .ok (.iconst 0, 1) := by decide +kernel
theorem dX4_nextToken_217 : decode cX4_nextToken 217 = .ok (.putfield 94, 3) := by decide +kernel
theorem dX4_nextToken_220 : decode cX4_nextToken 220 = .ok (.aload_n 0, 1) := by decide +kernel
theorem dX4_nextToken_221 : decode cX4_nextToken 221 = .ok (.dup, 1) := by decide +kernel
theorem dX4_nextToken_222 : decode cX4_nextToken 222 = .ok (.getfield 88, 3) := by decide +kernel
theorem dX4_nextToken_225 : decode cX4_nextToken 225 = .ok (.iconst 1, 1) := by decide +kernel
theorem dX4_nextToken_226 : decode cX4_nextToken 226 = .ok (.iadd, 1) := by decide +kernel
theorem dX4_nextToken_227 : decode cX4_nextToken 227 = .ok (.putfield 88, 3) := by decide +kernel
theorem dX4_nextToken_230 : decode cX4_nextToken 230 = .ok (.return_, 1) := by decide +kernel
theorem dX4_faults_0 : decode cX4_faults 0 = .ok (.aload_n 0, 1) := by decide +kernel
theorem dX4_faults_1 : decode cX4_faults 1 = .ok (.iload_n 1, 1) := by decide +kernel
theorem dX4_faults_2 : decode cX4_faults 2 = .ok (.putfield 108, 3) := by decide +kernel
theorem dX4_faults_5 : decode cX4_faults 5 = .ok (.iconst 0, 1) := by decide +kernel
theorem dX4_faults_6 : decode cX4_faults 6 = .ok (.ireturn, 1) := by decide +kernel
theorem dX4_isLetter_0 : decode cX4_isLetter 0 = .ok (.aload_n 0, 1) := by decide +kernel
theorem dX4_isLetter_1 : decode cX4_isLetter 1 = .ok (.getfield 94, 3) := by decide +kernel
theorem dX4_isLetter_4 : decode cX4_isLetter 4 = .ok (.iconst 1, 1) := by decide +kernel
theorem dX4_isLetter_5 : decode cX4_isLetter 5 = .ok (.if_icmp .ne 15, 3) := by decide +kernel
theorem dX4_isLetter_8 : decode cX4_isLetter 8 = .ok (.aload_n 0, 1) := by decide +kernel
theorem dX4_isLetter_9 : decode cX4_isLetter 9 = .ok (.getfield 97, 3) := by decide +kernel
theorem dX4_isLetter_12 : decode cX4_isLetter 12 = .ok (.iload_n 1, 1) := by decide +kernel
theorem dX4_isLetter_13 : decode cX4_isLetter 13 = .ok (.if_icmp .ne 7, 3) := by decide +kernel
theorem dX4_isLetter_16 : decode cX4_isLetter 16 = .ok (.iconst 1, 1) := by decide +kernel
theorem dX4_isLetter_17 : decode cX4_isLetter 17 = .ok (.goto 4, 3) := by decide +kernel
theorem dX4_isLetter_20 : decode cX4_isLetter 20 = .ok (.iconst 0, 1) := by decide +kernel
theorem dX4_isLetter_21 : decode cX4_isLetter 21 = .ok (.ireturn, 1) := by decide +kernel
theorem dX4_takes_0 : decode cX4_takes 0 = .ok (.aload_n 0, 1) := by decide +kernel
theorem dX4_takes_1 : decode cX4_takes 1 = .ok (.iload_n 1, 1) := by decide +kernel
theorem dX4_takes_2 : decode cX4_takes 2 = .ok (.invokevirtual 111, 3) := by decide +kernel
theorem dX4_takes_5 : decode cX4_takes 5 = .ok (.ifCond .ne 9, 3) := by decide +kernel
theorem dX4_takes_8 : decode cX4_takes 8 = .ok (.aload_n 0, 1) := by decide +kernel
theorem dX4_takes_9 : decode cX4_takes 9 = .ok (.iconst 1, 1) := by decide +kernel
theorem dX4_takes_10 : decode cX4_takes 10 = .ok (.invokevirtual 114, 3) := by decide +kernel
theorem dX4_takes_13 : decode cX4_takes 13 = .ok (.ireturn, 1) := by decide +kernel
theorem dX4_takes_14 : decode cX4_takes 14 = .ok (.aload_n 0, 1) := by decide +kernel
theorem dX4_takes_15 : decode cX4_takes 15 = .ok (.invokevirtual 117, 3) := by decide +kernel
theorem dX4_takes_18 : decode cX4_takes 18 = .ok (.iconst 1, 1) := by decide +kernel
theorem dX4_takes_19 : decode cX4_takes 19 = .ok (.ireturn, 1) := by decide +kernel
theorem dX4_takesNumber_0 : decode cX4_takesNumber 0 = .ok (.aload_n 0, 1) := by decide +kernel
theorem dX4_takesNumber_1 : decode cX4_takesNumber 1 = .ok (.getfield 94, 3) := by decide +kernel
theorem dX4_takesNumber_4 : decode cX4_takesNumber 4 = .ok (.iconst 2, 1) := by decide +kernel
theorem dX4_takesNumber_5 : decode cX4_takesNumber 5 = .ok (.if_icmp .ne 18, 3) := by decide +kernel
theorem dX4_takesNumber_8 : decode cX4_takesNumber 8 = .ok (.aload_n 0, 1) := by decide +kernel
theorem dX4_takesNumber_9 : decode cX4_takesNumber 9 = .ok (.getfield 97, 3) := by decide +kernel
theorem dX4_takesNumber_12 : decode cX4_takesNumber 12 = .ok (.i2l, 1) := by decide +kernel
theorem dX4_takesNumber_13 : decode cX4_takesNumber 13 = .ok (.iload_n 1, 1) := by decide +kernel
theorem dX4_takesNumber_14 : decode cX4_takesNumber 14 = .ok (.i2l, 1) := by decide +kernel
theorem dX4_takesNumber_15 : decode cX4_takesNumber 15 = .ok (.iload_n 2, 1) := by decide +kernel
theorem dX4_takesNumber_16 : decode cX4_takesNumber 16 = .ok (.i2l, 1) := by decide +kernel
theorem dX4_takesNumber_17 : decode cX4_takesNumber 17 = .ok (.invokestatic 60, 3) := by decide +kernel
theorem dX4_takesNumber_20 : decode cX4_takesNumber 20 = .ok (.ifCond .ne 21, 3) := by decide +kernel
theorem dX4_takesNumber_23 : decode cX4_takesNumber 23 = .ok (.aload_n 0, 1) := by decide +kernel
theorem dX4_takesNumber_24 : decode cX4_takesNumber 24 = .ok (.aload_n 0, 1) := by decide +kernel
theorem dX4_takesNumber_25 : decode cX4_takesNumber 25 = .ok (.getfield 94, 3) := by decide +kernel
theorem dX4_takesNumber_28 : decode cX4_takesNumber 28 = .ok (.iconst 2, 1) := by decide +kernel
theorem dX4_takesNumber_29 : decode cX4_takesNumber 29 = .ok (.if_icmp .ne 7, 3) := by decide +kernel
theorem dX4_takesNumber_32 : decode cX4_takesNumber 32 = .ok (.iconst 2, 1) := by decide +kernel
theorem dX4_takesNumber_33 : decode cX4_takesNumber 33 = .ok (.goto 4, 3) := by decide +kernel
theorem dX4_takesNumber_36 : decode cX4_takesNumber 36 = .ok (.iconst 1, 1) := by decide +kernel
theorem dX4_takesNumber_37 : decode cX4_takesNumber 37 = .ok (.invokevirtual 114, 3) := by decide +kernel
theorem dX4_takesNumber_40 : decode cX4_takesNumber 40 = .ok (.ireturn, 1) := by decide +kernel
theorem dX4_takesNumber_41 : decode cX4_takesNumber 41 = .ok (.aload_n 0, 1) := by decide +kernel
theorem dX4_takesNumber_42 : decode cX4_takesNumber 42 = .ok (.getfield 28, 3) := by decide +kernel
theorem dX4_takesNumber_45 : decode cX4_takesNumber 45 = .ok (.iload_n 3, 1) := by decide +kernel
theorem dX4_takesNumber_46 : decode cX4_takesNumber 46 = .ok (.aload_n 0, 1) := by decide +kernel
theorem dX4_takesNumber_47 : decode cX4_takesNumber 47 = .ok (.getfield 97, 3) := by decide +kernel
theorem dX4_takesNumber_50 : decode cX4_takesNumber 50 = .ok (.iastore, 1) := by decide +kernel
theorem dX4_takesNumber_51 : decode cX4_takesNumber 51 = .ok (.aload_n 0, 1) := by decide +kernel
theorem dX4_takesNumber_52 : decode cX4_takesNumber 52 = .ok (.invokevirtual 117, 3) := by decide +kernel
theorem dX4_takesNumber_55 : decode cX4_takesNumber 55 = .ok (.aload_n 0, 1) := by decide +kernel
theorem dX4_takesNumber_56 : decode cX4_takesNumber 56 = .ok (.iload 4, 2) := by decide +kernel
theorem dX4_takesNumber_58 : decode cX4_takesNumber 58 = .ok (.invokevirtual 120, 3) := by decide +kernel
theorem dX4_takesNumber_61 : decode cX4_takesNumber 61 = .ok (.ireturn, 1) := by decide +kernel
theorem dX4_readSinger_0 : decode cX4_readSinger 0 = .ok (.aload_n 0, 1) := by decide +kernel
theorem dX4_readSinger_1 : decode cX4_readSinger 1 = .ok (.getfield 28, 3) := by decide +kernel
theorem dX4_readSinger_4 : decode cX4_readSinger 4 = .ok (.iconst 1, 1) := by decide +kernel
theorem dX4_readSinger_5 : decode cX4_readSinger 5 = .ok (.iaload, 1) := by decide +kernel
theorem dX4_readSinger_6 : decode cX4_readSinger 6 = .ok (.istore_n 1, 1) := by decide +kernel
theorem dX4_readSinger_7 : decode cX4_readSinger 7 = .ok (.iload_n 1, 1) := by decide +kernel
theorem dX4_readSinger_8 : decode cX4_readSinger 8 = .ok (.iconst 3, 1) := by decide +kernel
theorem dX4_readSinger_9 : decode cX4_readSinger 9 = .ok (.if_icmp .eq 12, 3) := by decide +kernel
theorem dX4_readSinger_12 : decode cX4_readSinger 12 = .ok (.aload_n 0, 1) := by decide +kernel
theorem dX4_readSinger_13 : decode cX4_readSinger 13 = .ok (.getfield 28, 3) := by decide +kernel
theorem dX4_readSinger_16 : decode cX4_readSinger 16 = .ok (.iconst 2, 1) := by decide +kernel
theorem dX4_readSinger_17 : decode cX4_readSinger 17 = .ok (.iaload, 1) := by decide +kernel
theorem dX4_readSinger_18 : decode cX4_readSinger 18 = .ok (.ifCond .le 22, 3) := by decide +kernel
theorem dX4_readSinger_21 : decode cX4_readSinger 21 = .ok (.aload_n 0, 1) := by decide +kernel
theorem dX4_readSinger_22 : decode cX4_readSinger 22 = .ok (.aload_n 0, 1) := by decide +kernel
theorem dX4_readSinger_23 : decode cX4_readSinger 23 = .ok (.getfield 28, 3) := by decide +kernel
theorem dX4_readSinger_26 : decode cX4_readSinger 26 = .ok (.iconst 2, 1) := by decide +kernel
theorem dX4_readSinger_27 : decode cX4_readSinger 27 = .ok (.iaload, 1) := by decide +kernel
theorem dX4_readSinger_28 : decode cX4_readSinger 28 = .ok (.ifCond .le 7, 3) := by decide +kernel
theorem dX4_readSinger_31 : decode cX4_readSinger 31 = .ok (.iconst 1, 1) := by decide +kernel
theorem dX4_readSinger_32 : decode cX4_readSinger 32 = .ok (.goto 4, 3) := by decide +kernel
theorem dX4_readSinger_35 : decode cX4_readSinger 35 = .ok (.iconst 3, 1) := by decide +kernel
theorem dX4_readSinger_36 : decode cX4_readSinger 36 = .ok (.invokevirtual 114, 3) := by decide +kernel
theorem dX4_readSinger_39 : decode cX4_readSinger 39 = .ok (.ireturn, 1) := by decide +kernel
theorem dX4_readSinger_40 : decode cX4_readSinger 40 = .ok (.aload_n 0, 1) := by decide +kernel
theorem dX4_readSinger_41 : decode cX4_readSinger 41 = .ok (.invokevirtual 117, 3) := by decide +kernel
theorem dX4_readSinger_44 : decode cX4_readSinger 44 = .ok (.aload_n 0, 1) := by decide +kernel
theorem dX4_readSinger_45 : decode cX4_readSinger 45 = .ok (.getfield 28, 3) := by decide +kernel
theorem dX4_readSinger_48 : decode cX4_readSinger 48 = .ok (.iconst 1, 1) := by decide +kernel
theorem dX4_readSinger_49 : decode cX4_readSinger 49 = .ok (.dup2, 1) := by decide +kernel
theorem dX4_readSinger_50 : decode cX4_readSinger 50 = .ok (.iaload, 1) := by decide +kernel
theorem dX4_readSinger_51 : decode cX4_readSinger 51 = .ok (.iconst 1, 1) := by decide +kernel
theorem dX4_readSinger_52 : decode cX4_readSinger 52 = .ok (.iadd, 1) := by decide +kernel
theorem dX4_readSinger_53 : decode cX4_readSinger 53 = .ok (.iastore, 1) := by decide +kernel
theorem dX4_readSinger_54 : decode cX4_readSinger 54 = .ok (.aload_n 0, 1) := by decide +kernel
theorem dX4_readSinger_55 : decode cX4_readSinger 55 = .ok (.iconst 0, 1) := by decide +kernel
theorem dX4_readSinger_56 : decode cX4_readSinger 56 = .ok (.bipush 6, 2) := by decide +kernel
theorem dX4_readSinger_58 : decode cX4_readSinger 58 = .ok (.iconst 4, 1) := by decide +kernel
theorem dX4_readSinger_59 : decode cX4_readSinger 59 = .ok (.iload_n 1, 1) := by decide +kernel
theorem dX4_readSinger_60 : decode cX4_readSinger 60 = .ok (.iadd, 1) := by decide +kernel
theorem dX4_readSinger_61 : decode cX4_readSinger 61 = .ok (.bipush 44, 2) := by decide +kernel
theorem dX4_readSinger_63 : decode cX4_readSinger 63 = .ok (.invokevirtual 123, 3) := by decide +kernel
theorem dX4_readSinger_66 : decode cX4_readSinger 66 = .ok (.ifCond .eq 46, 3) := by decide +kernel
theorem dX4_readSinger_69 : decode cX4_readSinger 69 = .ok (.aload_n 0, 1) := by decide +kernel
theorem dX4_readSinger_70 : decode cX4_readSinger 70 = .ok (.aload_n 0, 1) := by decide +kernel
theorem dX4_readSinger_71 : decode cX4_readSinger 71 = .ok (.getfield 28, 3) := by decide +kernel
theorem dX4_readSinger_74 : decode cX4_readSinger 74 = .ok (.iconst 4, 1) := by decide +kernel
theorem dX4_readSinger_75 : decode cX4_readSinger 75 = .ok (.iload_n 1, 1) := by decide +kernel
theorem dX4_readSinger_76 : decode cX4_readSinger 76 = .ok (.iadd, 1) := by decide +kernel
theorem dX4_readSinger_77 : decode cX4_readSinger 77 = .ok (.iaload, 1) := by decide +kernel
theorem dX4_readSinger_78 : decode cX4_readSinger 78 = .ok (.bipush 6, 2) := by decide +kernel
theorem dX4_readSinger_80 : decode cX4_readSinger 80 = .ok (.bipush 7, 2) := by decide +kernel
theorem dX4_readSinger_82 : decode cX4_readSinger 82 = .ok (.iload_n 1, 1) := by decide +kernel
theorem dX4_readSinger_83 : decode cX4_readSinger 83 = .ok (.iadd, 1) := by decide +kernel
theorem dX4_readSinger_84 : decode cX4_readSinger 84 = .ok (.bipush 44, 2) := by decide +kernel
theorem dX4_readSinger_86 : decode cX4_readSinger 86 = .ok (.invokevirtual 123, 3) := by decide +kernel
theorem dX4_readSinger_89 : decode cX4_readSinger 89 = .ok (.ifCond .eq 23, 3) := by decide +kernel
theorem dX4_readSinger_92 : decode cX4_readSinger 92 = .ok (.aload_n 0, 1) := by decide +kernel
theorem dX4_readSinger_93 : decode cX4_readSinger 93 = .ok (.iconst 1, 1) := by decide +kernel
theorem dX4_readSinger_94 : decode cX4_readSinger 94 = .ok (.bipush 9, 2) := by decide +kernel
theorem dX4_readSinger_96 : decode cX4_readSinger 96 = .ok (.bipush 10, 2) := by decide +kernel
theorem dX4_readSinger_98 : decode cX4_readSinger 98 = .ok (.iload_n 1, 1) := by decide +kernel
theorem dX4_readSinger_99 : decode cX4_readSinger 99 = .ok (.iadd, 1) := by decide +kernel
theorem dX4_readSinger_100 : decode cX4_readSinger 100 = .ok (.bipush 59, 2) := by decide +kernel
theorem dX4_readSinger_102 : decode cX4_readSinger 102 = .ok (.invokevirtual 123, 3) := by decide +kernel
theorem dX4_readSinger_105 : decode cX4_readSinger 105 = .ok (.ifCond .eq 7, 3) := by decide +kernel
theorem dX4_readSinger_108 : decode cX4_readSinger 108 = .ok (.iconst 1, 1) := by decide +kernel
theorem dX4_readSinger_109 : decode cX4_readSinger 109 = .ok (.goto 4, 3) := by decide +kernel
theorem dX4_readSinger_112 : decode cX4_readSinger 112 = .ok (.iconst 0, 1) := by decide +kernel
theorem dX4_readSinger_113 : decode cX4_readSinger 113 = .ok (.ireturn, 1) := by decide +kernel
theorem dX4_readPan_0 : decode cX4_readPan 0 = .ok (.aload_n 0, 1) := by decide +kernel
theorem dX4_readPan_1 : decode cX4_readPan 1 = .ok (.getfield 28, 3) := by decide +kernel
theorem dX4_readPan_4 : decode cX4_readPan 4 = .ok (.iconst 2, 1) := by decide +kernel
theorem dX4_readPan_5 : decode cX4_readPan 5 = .ok (.iaload, 1) := by decide +kernel
theorem dX4_readPan_6 : decode cX4_readPan 6 = .ok (.istore_n 2, 1) := by decide +kernel
theorem dX4_readPan_7 : decode cX4_readPan 7 = .ok (.iload_n 2, 1) := by decide +kernel
theorem dX4_readPan_8 : decode cX4_readPan 8 = .ok (.iconst 5, 1) := by decide +kernel
theorem dX4_readPan_9 : decode cX4_readPan 9 = .ok (.if_icmp .ne 9, 3) := by decide +kernel
theorem dX4_readPan_12 : decode cX4_readPan 12 = .ok (.aload_n 0, 1) := by decide +kernel
theorem dX4_readPan_13 : decode cX4_readPan 13 = .ok (.iconst 3, 1) := by decide +kernel
theorem dX4_readPan_14 : decode cX4_readPan 14 = .ok (.invokevirtual 114, 3) := by decide +kernel
theorem dX4_readPan_17 : decode cX4_readPan 17 = .ok (.ireturn, 1) := by decide +kernel
theorem dX4_readPan_18 : decode cX4_readPan 18 = .ok (.aload_n 0, 1) := by decide +kernel
theorem dX4_readPan_19 : decode cX4_readPan 19 = .ok (.invokevirtual 117, 3) := by decide +kernel
theorem dX4_readPan_22 : decode cX4_readPan 22 = .ok (.aload_n 0, 1) := by decide +kernel
theorem dX4_readPan_23 : decode cX4_readPan 23 = .ok (.getfield 28, 3) := by decide +kernel
theorem dX4_readPan_26 : decode cX4_readPan 26 = .ok (.bipush 16, 2) := by decide +kernel
theorem dX4_readPan_28 : decode cX4_readPan 28 = .ok (.iload_n 2, 1) := by decide +kernel
theorem dX4_readPan_29 : decode cX4_readPan 29 = .ok (.iadd, 1) := by decide +kernel
theorem dX4_readPan_30 : decode cX4_readPan 30 = .ok (.iload_n 1, 1) := by decide +kernel
theorem dX4_readPan_31 : decode cX4_readPan 31 = .ok (.iastore, 1) := by decide +kernel
theorem dX4_readPan_32 : decode cX4_readPan 32 = .ok (.aload_n 0, 1) := by decide +kernel
theorem dX4_readPan_33 : decode cX4_readPan 33 = .ok (.getfield 28, 3) := by decide +kernel
theorem dX4_readPan_36 : decode cX4_readPan 36 = .ok (.bipush 46, 2) := by decide +kernel
theorem dX4_readPan_38 : decode cX4_readPan 38 = .ok (.iload_n 2, 1) := by decide +kernel
theorem dX4_readPan_39 : decode cX4_readPan 39 = .ok (.iadd, 1) := by decide +kernel
theorem dX4_readPan_40 : decode cX4_readPan 40 = .ok (.ldc 127, 2) := by decide +kernel
theorem dX4_readPan_42 : decode cX4_readPan 42 = .ok (.iastore, 1) := by decide +kernel
theorem dX4_readPan_43 : decode cX4_readPan 43 = .ok (.aload_n 0, 1) := by decide +kernel
theorem dX4_readPan_44 : decode cX4_readPan 44 = .ok (.getfield 28, 3) := by decide +kernel
theorem dX4_readPan_47 : decode cX4_readPan 47 = .ok (.iconst 2, 1) := by decide +kernel
theorem dX4_readPan_48 : decode cX4_readPan 48 = .ok (.dup2, 1) := by decide +kernel
theorem dX4_readPan_49 : decode cX4_readPan 49 = .ok (.iaload, 1) := by decide +kernel
theorem dX4_readPan_50 : decode cX4_readPan 50 = .ok (.iconst 1, 1) := by decide +kernel
theorem dX4_readPan_51 : decode cX4_readPan 51 = .ok (.iadd, 1) := by decide +kernel
theorem dX4_readPan_52 : decode cX4_readPan 52 = .ok (.iastore, 1) := by decide +kernel
theorem dX4_readPan_53 : decode cX4_readPan 53 = .ok (.aload_n 0, 1) := by decide +kernel
theorem dX4_readPan_54 : decode cX4_readPan 54 = .ok (.iconst 0, 1) := by decide +kernel
theorem dX4_readPan_55 : decode cX4_readPan 55 = .ok (.bipush 127, 2) := by decide +kernel
theorem dX4_readPan_57 : decode cX4_readPan 57 = .ok (.bipush 21, 2) := by decide +kernel
theorem dX4_readPan_59 : decode cX4_readPan 59 = .ok (.iload_n 2, 1) := by decide +kernel
theorem dX4_readPan_60 : decode cX4_readPan 60 = .ok (.iadd, 1) := by decide +kernel
theorem dX4_readPan_61 : decode cX4_readPan 61 = .ok (.bipush 44, 2) := by decide +kernel
theorem dX4_readPan_63 : decode cX4_readPan 63 = .ok (.invokevirtual 123, 3) := by decide +kernel
theorem dX4_readPan_66 : decode cX4_readPan 66 = .ok (.ifCond .eq 47, 3) := by decide +kernel
theorem dX4_readPan_69 : decode cX4_readPan 69 = .ok (.aload_n 0, 1) := by decide +kernel
theorem dX4_readPan_70 : decode cX4_readPan 70 = .ok (.iconst 1, 1) := by decide +kernel
theorem dX4_readPan_71 : decode cX4_readPan 71 = .ok (.bipush 20, 2) := by decide +kernel
theorem dX4_readPan_73 : decode cX4_readPan 73 = .ok (.bipush 26, 2) := by decide +kernel
theorem dX4_readPan_75 : decode cX4_readPan 75 = .ok (.iload_n 2, 1) := by decide +kernel
theorem dX4_readPan_76 : decode cX4_readPan 76 = .ok (.iadd, 1) := by decide +kernel
theorem dX4_readPan_77 : decode cX4_readPan 77 = .ok (.bipush 44, 2) := by decide +kernel
theorem dX4_readPan_79 : decode cX4_readPan 79 = .ok (.invokevirtual 123, 3) := by decide +kernel
theorem dX4_readPan_82 : decode cX4_readPan 82 = .ok (.ifCond .eq 31, 3) := by decide +kernel
theorem dX4_readPan_85 : decode cX4_readPan 85 = .ok (.aload_n 0, 1) := by decide +kernel
theorem dX4_readPan_86 : decode cX4_readPan 86 = .ok (.iconst 0, 1) := by decide +kernel
theorem dX4_readPan_87 : decode cX4_readPan 87 = .ok (.iconst 1, 1) := by decide +kernel
theorem dX4_readPan_88 : decode cX4_readPan 88 = .ok (.aload_n 0, 1) := by decide +kernel
theorem dX4_readPan_89 : decode cX4_readPan 89 = .ok (.getfield 28, 3) := by decide +kernel
theorem dX4_readPan_92 : decode cX4_readPan 92 = .ok (.iconst 1, 1) := by decide +kernel
theorem dX4_readPan_93 : decode cX4_readPan 93 = .ok (.iaload, 1) := by decide +kernel
theorem dX4_readPan_94 : decode cX4_readPan 94 = .ok (.ishl, 1) := by decide +kernel
theorem dX4_readPan_95 : decode cX4_readPan 95 = .ok (.iconst 1, 1) := by decide +kernel
theorem dX4_readPan_96 : decode cX4_readPan 96 = .ok (.isub, 1) := by decide +kernel
theorem dX4_readPan_97 : decode cX4_readPan 97 = .ok (.bipush 31, 2) := by decide +kernel
theorem dX4_readPan_99 : decode cX4_readPan 99 = .ok (.iload_n 2, 1) := by decide +kernel
theorem dX4_readPan_100 : decode cX4_readPan 100 = .ok (.iadd, 1) := by decide +kernel
theorem dX4_readPan_101 : decode cX4_readPan 101 = .ok (.bipush 59, 2) := by decide +kernel
theorem dX4_readPan_103 : decode cX4_readPan 103 = .ok (.invokevirtual 123, 3) := by decide +kernel
theorem dX4_readPan_106 : decode cX4_readPan 106 = .ok (.ifCond .eq 7, 3) := by decide +kernel
theorem dX4_readPan_109 : decode cX4_readPan 109 = .ok (.iconst 1, 1) := by decide +kernel
theorem dX4_readPan_110 : decode cX4_readPan 110 = .ok (.goto 4, 3) := by decide +kernel
theorem dX4_readPan_113 : decode cX4_readPan 113 = .ok (.iconst 0, 1) := by decide +kernel
theorem dX4_readPan_114 : decode cX4_readPan 114 = .ok (.ireturn, 1) := by decide +kernel
theorem dX4_readKitchen_0 : decode cX4_readKitchen 0 = .ok (.aload_n 0, 1) := by decide +kernel
theorem dX4_readKitchen_1 : decode cX4_readKitchen 1 = .ok (.iconst 0, 1) := by decide +kernel
theorem dX4_readKitchen_2 : decode cX4_readKitchen 2 = .ok (.putfield 88, 3) := by decide +kernel
theorem dX4_readKitchen_5 : decode cX4_readKitchen 5 = .ok (.iconst 0, 1) := by decide +kernel
theorem dX4_readKitchen_6 : decode cX4_readKitchen 6 = .ok (.istore_n 1, 1) := by decide +kernel
theorem dX4_readKitchen_7 : decode cX4_readKitchen 7 = .ok (.iload_n 1, 1) := by decide +kernel
theorem dX4_readKitchen_8 : decode cX4_readKitchen 8 = .ok (.bipush 51, 2) := by decide +kernel
theorem dX4_readKitchen_10 : decode cX4_readKitchen 10 = .ok (.if_icmp .ge 16, 3) := by decide +kernel
theorem dX4_readKitchen_13 : decode cX4_readKitchen 13 = .ok (.aload_n 0, 1) := by decide +kernel
theorem dX4_readKitchen_14 : decode cX4_readKitchen 14 = .ok (.getfield 28, 3) := by decide +kernel
theorem dX4_readKitchen_17 : decode cX4_readKitchen 17 = .ok (.iload_n 1, 1) := by decide +kernel
theorem dX4_readKitchen_18 : decode cX4_readKitchen 18 = .ok (.iconst 0, 1) := by decide +kernel
theorem dX4_readKitchen_19 : decode cX4_readKitchen 19 = .ok (.iastore, 1) := by decide +kernel
theorem dX4_readKitchen_20 : decode cX4_readKitchen 20 = .ok (.iinc 1 1, 3) := by decide +kernel
theorem dX4_readKitchen_23 : decode cX4_readKitchen 23 = .ok (.goto (-16), 3) := by decide +kernel
theorem dX4_readKitchen_26 : decode cX4_readKitchen 26 = .ok (.aload_n 0, 1) := by decide +kernel
theorem dX4_readKitchen_27 : decode cX4_readKitchen 27 = .ok (.invokevirtual 117, 3) := by decide +kernel
theorem dX4_readKitchen_30 : decode cX4_readKitchen 30 = .ok (.aload_n 0, 1) := by decide +kernel
theorem dX4_readKitchen_31 : decode cX4_readKitchen 31 = .ok (.bipush 106, 2) := by decide +kernel
theorem dX4_readKitchen_33 : decode cX4_readKitchen 33 = .ok (.invokevirtual 120, 3) := by decide +kernel
theorem dX4_readKitchen_36 : decode cX4_readKitchen 36 = .ok (.ifCond .eq 16, 3) := by decide +kernel
theorem dX4_readKitchen_39 : decode cX4_readKitchen 39 = .ok (.aload_n 0, 1) := by decide +kernel
theorem dX4_readKitchen_40 : decode cX4_readKitchen 40 = .ok (.iconst 1, 1) := by decide +kernel
theorem dX4_readKitchen_41 : decode cX4_readKitchen 41 = .ok (.bipush 9, 2) := by decide +kernel
theorem dX4_readKitchen_43 : decode cX4_readKitchen 43 = .ok (.iconst 0, 1) := by decide +kernel
theorem dX4_readKitchen_44 : decode cX4_readKitchen 44 = .ok (.bipush 59, 2) := by decide +kernel
theorem dX4_readKitchen_46 : decode cX4_readKitchen 46 = .ok (.invokevirtual 123, 3) := by decide +kernel
theorem dX4_readKitchen_49 : decode cX4_readKitchen 49 = .ok (.ifCond .ne 5, 3) := by decide +kernel
theorem dX4_readKitchen_52 : decode cX4_readKitchen 52 = .ok (.iconst 0, 1) := by decide +kernel
theorem dX4_readKitchen_53 : decode cX4_readKitchen 53 = .ok (.ireturn, 1) := by decide +kernel
theorem dX4_readKitchen_54 : decode cX4_readKitchen 54 = .ok (.iconst 1, 1) := by decide +kernel
theorem dX4_readKitchen_55 : decode cX4_readKitchen 55 = .ok (.istore_n 1, 1) := by decide +kernel
theorem dX4_readKitchen_56 : decode cX4_readKitchen 56 = .ok (.iload_n 1, 1) := by decide +kernel
theorem dX4_readKitchen_57 : decode cX4_readKitchen 57 = .ok (.ifCond .eq 115, 3) := by decide +kernel
theorem dX4_readKitchen_60 : decode cX4_readKitchen 60 = .ok (.aload_n 0, 1) := by decide +kernel
theorem dX4_readKitchen_61 : decode cX4_readKitchen 61 = .ok (.getfield 94, 3) := by decide +kernel
theorem dX4_readKitchen_64 : decode cX4_readKitchen 64 = .ok (.iconst 3, 1) := by decide +kernel
theorem dX4_readKitchen_65 : decode cX4_readKitchen 65 = .ok (.if_icmp .eq 107, 3) := by decide +kernel
theorem dX4_readKitchen_68 : decode cX4_readKitchen 68 = .ok (.aload_n 0, 1) := by decide +kernel
theorem dX4_readKitchen_69 : decode cX4_readKitchen 69 = .ok (.bipush 112, 2) := by decide +kernel
theorem dX4_readKitchen_71 : decode cX4_readKitchen 71 = .ok (.invokevirtual 111, 3) := by decide +kernel
theorem dX4_readKitchen_74 : decode cX4_readKitchen 74 = .ok (.ifCond .eq 7, 3) := by decide +kernel
theorem dX4_readKitchen_77 : decode cX4_readKitchen 77 = .ok (.iconst 1, 1) := by decide +kernel
theorem dX4_readKitchen_78 : decode cX4_readKitchen 78 = .ok (.goto 56, 3) := by decide +kernel
theorem dX4_readKitchen_81 : decode cX4_readKitchen 81 = .ok (.aload_n 0, 1) := by decide +kernel
theorem dX4_readKitchen_82 : decode cX4_readKitchen 82 = .ok (.bipush 99, 2) := by decide +kernel
theorem dX4_readKitchen_84 : decode cX4_readKitchen 84 = .ok (.invokevirtual 111, 3) := by decide +kernel
theorem dX4_readKitchen_87 : decode cX4_readKitchen 87 = .ok (.ifCond .eq 7, 3) := by decide +kernel
theorem dX4_readKitchen_90 : decode cX4_readKitchen 90 = .ok (.iconst 2, 1) := by decide +kernel
theorem dX4_readKitchen_91 : decode cX4_readKitchen 91 = .ok (.goto 43, 3) := by decide +kernel
theorem dX4_readKitchen_94 : decode cX4_readKitchen 94 = .ok (.aload_n 0, 1) := by decide +kernel
theorem dX4_readKitchen_95 : decode cX4_readKitchen 95 = .ok (.bipush 113, 2) := by decide +kernel
theorem dX4_readKitchen_97 : decode cX4_readKitchen 97 = .ok (.invokevirtual 111, 3) := by decide +kernel
theorem dX4_readKitchen_100 : decode cX4_readKitchen 100 = .ok (.ifCond .eq 7, 3) := by decide +kernel
theorem dX4_readKitchen_103 : decode cX4_readKitchen 103 = .ok (.iconst 3, 1) := by decide +kernel
theorem dX4_readKitchen_104 : decode cX4_readKitchen 104 = .ok (.goto 30, 3) := by decide +kernel
theorem dX4_readKitchen_107 : decode cX4_readKitchen 107 = .ok (.aload_n 0, 1) := by decide +kernel
theorem dX4_readKitchen_108 : decode cX4_readKitchen 108 = .ok (.bipush 109, 2) := by decide +kernel
theorem dX4_readKitchen_110 : decode cX4_readKitchen 110 = .ok (.invokevirtual 111, 3) := by decide +kernel
theorem dX4_readKitchen_113 : decode cX4_readKitchen 113 = .ok (.ifCond .eq 7, 3) := by decide +kernel
theorem dX4_readKitchen_116 : decode cX4_readKitchen 116 = .ok (.iconst 4, 1) := by decide +kernel
theorem dX4_readKitchen_117 : decode cX4_readKitchen 117 = .ok (.goto 17, 3) := by decide +kernel
theorem dX4_readKitchen_120 : decode cX4_readKitchen 120 = .ok (.aload_n 0, 1) := by decide +kernel
theorem dX4_readKitchen_121 : decode cX4_readKitchen 121 = .ok (.bipush 100, 2) := by decide +kernel
theorem dX4_readKitchen_123 : decode cX4_readKitchen 123 = .ok (.invokevirtual 111, 3) := by decide +kernel
theorem dX4_readKitchen_126 : decode cX4_readKitchen 126 = .ok (.ifCond .eq 7, 3) := by decide +kernel
theorem dX4_readKitchen_129 : decode cX4_readKitchen 129 = .ok (.iconst 5, 1) := by decide +kernel
theorem dX4_readKitchen_130 : decode cX4_readKitchen 130 = .ok (.goto 4, 3) := by decide +kernel
theorem dX4_readKitchen_133 : decode cX4_readKitchen 133 = .ok (.iconst 0, 1) := by decide +kernel
theorem dX4_readKitchen_134 : decode cX4_readKitchen 134 = .ok (.istore_n 2, 1) := by decide +kernel
theorem dX4_readKitchen_135 : decode cX4_readKitchen 135 = .ok (.iload_n 2, 1) := by decide +kernel
theorem dX4_readKitchen_136 : decode cX4_readKitchen 136 = .ok (.ifCond .le 11, 3) := by decide +kernel
theorem dX4_readKitchen_139 : decode cX4_readKitchen 139 = .ok (.aload_n 0, 1) := by decide +kernel
theorem dX4_readKitchen_140 : decode cX4_readKitchen 140 = .ok (.iload_n 2, 1) := by decide +kernel
theorem dX4_readKitchen_141 : decode cX4_readKitchen 141 = .ok (.invokevirtual 128, 3) := by decide +kernel
theorem dX4_readKitchen_144 : decode cX4_readKitchen 144 = .ok (.goto 24, 3) := by decide +kernel
theorem dX4_readKitchen_147 : decode cX4_readKitchen 147 = .ok (.aload_n 0, 1) := by decide +kernel
theorem dX4_readKitchen_148 : decode cX4_readKitchen 148 = .ok (.bipush 115, 2) := by decide +kernel
theorem dX4_readKitchen_150 : decode cX4_readKitchen 150 = .ok (.invokevirtual 111, 3) := by decide +kernel
theorem dX4_readKitchen_153 : decode cX4_readKitchen 153 = .ok (.ifCond .eq 10, 3) := by decide +kernel
theorem dX4_readKitchen_156 : decode cX4_readKitchen 156 = .ok (.aload_n 0, 1) := by decide +kernel
theorem dX4_readKitchen_157 : decode cX4_readKitchen 157 = .ok (.invokevirtual 131, 3) := by decide +kernel
theorem dX4_readKitchen_160 : decode cX4_readKitchen 160 = .ok (.goto 8, 3) := by decide +kernel
theorem dX4_readKitchen_163 : decode cX4_readKitchen 163 = .ok (.aload_n 0, 1) := by decide +kernel
theorem dX4_readKitchen_164 : decode cX4_readKitchen 164 = .ok (.iconst 1, 1) := by decide +kernel
theorem dX4_readKitchen_165 : decode cX4_readKitchen 165 = .ok (.invokevirtual 114, 3) := by decide +kernel
theorem dX4_readKitchen_168 : decode cX4_readKitchen 168 = .ok (.istore_n 1, 1) := by decide +kernel
theorem dX4_readKitchen_169 : decode cX4_readKitchen 169 = .ok (.goto (-113), 3) := by decide +kernel
theorem dX4_readKitchen_172 : decode cX4_readKitchen 172 = .ok (.iload_n 1, 1) := by decide +kernel
theorem dX4_readKitchen_173 : decode cX4_readKitchen 173 = .ok (.ireturn, 1) := by decide +kernel
theorem dX4_kitchen_0 : decode cX4_kitchen 0 = .ok (.aload_n 0, 1) := by decide +kernel
theorem dX4_kitchen_1 : decode cX4_kitchen 1 = .ok (.invokevirtual 135, 3) := by decide +kernel
theorem dX4_kitchen_4 : decode cX4_kitchen 4 = .ok (.istore_n 1, 1) := by decide +kernel
theorem dX4_kitchen_5 : decode cX4_kitchen 5 = .ok (.aload_n 0, 1) := by decide +kernel
theorem dX4_kitchen_6 : decode cX4_kitchen 6 = .ok (.iconst 0, 1) := by decide +kernel
theorem dX4_kitchen_7 : decode cX4_kitchen 7 = .ok (.putfield 84, 3) := by decide +kernel
theorem dX4_kitchen_10 : decode cX4_kitchen 10 = .ok (.iload_n 1, 1) := by decide +kernel
theorem dX4_kitchen_11 : decode cX4_kitchen 11 = .ok (.ifCond .ne 19, 3) := by decide +kernel
theorem dX4_kitchen_14 : decode cX4_kitchen 14 = .ok (.aload_n 0, 1) := by decide +kernel
theorem dX4_kitchen_15 : decode cX4_kitchen 15 = .ok (.aload_n 0, 1) := by decide +kernel
theorem dX4_kitchen_16 : decode cX4_kitchen 16 = .ok (.getfield 108, 3) := by decide +kernel
theorem dX4_kitchen_19 : decode cX4_kitchen 19 = .ok (.putfield 138, 3) := by decide +kernel
theorem dX4_kitchen_22 : decode cX4_kitchen 22 = .ok (.ldc 141, 2) := by decide +kernel
theorem dX4_kitchen_24 : decode cX4_kitchen 24 = .ok (.aload_n 0, 1) := by decide +kernel
theorem dX4_kitchen_25 : decode cX4_kitchen 25 = .ok (.getfield 91, 3) := by decide +kernel
theorem dX4_kitchen_28 : decode cX4_kitchen 28 = .ok (.isub, 1) := by decide +kernel
theorem dX4_kitchen_29 : decode cX4_kitchen 29 = .ok (.ireturn, 1) := by decide +kernel
theorem dX4_kitchen_30 : decode cX4_kitchen 30 = .ok (.iconst 0, 1) := by decide +kernel
theorem dX4_kitchen_31 : decode cX4_kitchen 31 = .ok (.istore_n 2, 1) := by decide +kernel
theorem dX4_kitchen_32 : decode cX4_kitchen 32 = .ok (.iload_n 2, 1) := by decide +kernel
theorem dX4_kitchen_33 : decode cX4_kitchen 33 = .ok (.bipush 51, 2) := by decide +kernel
theorem dX4_kitchen_35 : decode cX4_kitchen 35 = .ok (.if_icmp .ge 21, 3) := by decide +kernel
theorem dX4_kitchen_38 : decode cX4_kitchen 38 = .ok (.aload_n 0, 1) := by decide +kernel
theorem dX4_kitchen_39 : decode cX4_kitchen 39 = .ok (.getfield 19, 3) := by decide +kernel
theorem dX4_kitchen_42 : decode cX4_kitchen 42 = .ok (.iload_n 2, 1) := by decide +kernel
theorem dX4_kitchen_43 : decode cX4_kitchen 43 = .ok (.aload_n 0, 1) := by decide +kernel
theorem dX4_kitchen_44 : decode cX4_kitchen 44 = .ok (.getfield 28, 3) := by decide +kernel
theorem dX4_kitchen_47 : decode cX4_kitchen 47 = .ok (.iload_n 2, 1) := by decide +kernel
theorem dX4_kitchen_48 : decode cX4_kitchen 48 = .ok (.iaload, 1) := by decide +kernel
theorem dX4_kitchen_49 : decode cX4_kitchen 49 = .ok (.iastore, 1) := by decide +kernel
theorem dX4_kitchen_50 : decode cX4_kitchen 50 = .ok (.iinc 2 1, 3) := by decide +kernel
theorem dX4_kitchen_53 : decode cX4_kitchen 53 = .ok (.goto (-21), 3) := by decide +kernel
theorem dX4_kitchen_56 : decode cX4_kitchen 56 = .ok (.aload_n 0, 1) := by decide +kernel
theorem dX4_kitchen_57 : decode cX4_kitchen 57 = .ok (.iconst 1, 1) := by decide +kernel
theorem dX4_kitchen_58 : decode cX4_kitchen 58 = .ok (.putfield 142, 3) := by decide +kernel
theorem dX4_kitchen_61 : decode cX4_kitchen 61 = .ok (.aload_n 0, 1) := by decide +kernel
theorem dX4_kitchen_62 : decode cX4_kitchen 62 = .ok (.iconst 0, 1) := by decide +kernel
theorem dX4_kitchen_63 : decode cX4_kitchen 63 = .ok (.putfield 146, 3) := by decide +kernel
theorem dX4_kitchen_66 : decode cX4_kitchen 66 = .ok (.aload_n 0, 1) := by decide +kernel
theorem dX4_kitchen_67 : decode cX4_kitchen 67 = .ok (.getfield 19, 3) := by decide +kernel
theorem dX4_kitchen_70 : decode cX4_kitchen 70 = .ok (.iconst 2, 1) := by decide +kernel
theorem dX4_kitchen_71 : decode cX4_kitchen 71 = .ok (.iaload, 1) := by decide +kernel
theorem dX4_kitchen_72 : decode cX4_kitchen 72 = .ok (.ireturn, 1) := by decide +kernel
theorem dX4_fault_0 : decode cX4_fault 0 = .ok (.aload_n 0, 1) := by decide +kernel
theorem dX4_fault_1 : decode cX4_fault 1 = .ok (.getfield 138, 3) := by decide +kernel
theorem dX4_fault_4 : decode cX4_fault 4 = .ok (.ireturn, 1) := by decide +kernel
theorem dX4_isPan_0 : decode cX4_isPan 0 = .ok (.iload_n 1, 1) := by decide +kernel
theorem dX4_isPan_1 : decode cX4_isPan 1 = .ok (.i2l, 1) := by decide +kernel
theorem dX4_isPan_2 : decode cX4_isPan 2 = .ok (.lconst 0, 1) := by decide +kernel
theorem dX4_isPan_3 : decode cX4_isPan 3 = .ok (.aload_n 0, 1) := by decide +kernel
theorem dX4_isPan_4 : decode cX4_isPan 4 = .ok (.getfield 19, 3) := by decide +kernel
theorem dX4_isPan_7 : decode cX4_isPan 7 = .ok (.iconst 2, 1) := by decide +kernel
theorem dX4_isPan_8 : decode cX4_isPan 8 = .ok (.iaload, 1) := by decide +kernel
theorem dX4_isPan_9 : decode cX4_isPan 9 = .ok (.iconst 1, 1) := by decide +kernel
theorem dX4_isPan_10 : decode cX4_isPan 10 = .ok (.isub, 1) := by decide +kernel
theorem dX4_isPan_11 : decode cX4_isPan 11 = .ok (.i2l, 1) := by decide +kernel
theorem dX4_isPan_12 : decode cX4_isPan 12 = .ok (.invokestatic 60, 3) := by decide +kernel
theorem dX4_isPan_15 : decode cX4_isPan 15 = .ok (.ireturn, 1) := by decide +kernel
theorem dX4_isSinger_0 : decode cX4_isSinger 0 = .ok (.iload_n 1, 1) := by decide +kernel
theorem dX4_isSinger_1 : decode cX4_isSinger 1 = .ok (.i2l, 1) := by decide +kernel
theorem dX4_isSinger_2 : decode cX4_isSinger 2 = .ok (.lconst 0, 1) := by decide +kernel
theorem dX4_isSinger_3 : decode cX4_isSinger 3 = .ok (.aload_n 0, 1) := by decide +kernel
theorem dX4_isSinger_4 : decode cX4_isSinger 4 = .ok (.getfield 19, 3) := by decide +kernel
theorem dX4_isSinger_7 : decode cX4_isSinger 7 = .ok (.iconst 1, 1) := by decide +kernel
theorem dX4_isSinger_8 : decode cX4_isSinger 8 = .ok (.iaload, 1) := by decide +kernel
theorem dX4_isSinger_9 : decode cX4_isSinger 9 = .ok (.iconst 1, 1) := by decide +kernel
theorem dX4_isSinger_10 : decode cX4_isSinger 10 = .ok (.isub, 1) := by decide +kernel
theorem dX4_isSinger_11 : decode cX4_isSinger 11 = .ok (.i2l, 1) := by decide +kernel
theorem dX4_isSinger_12 : decode cX4_isSinger 12 = .ok (.invokestatic 60, 3) := by decide +kernel
theorem dX4_isSinger_15 : decode cX4_isSinger 15 = .ok (.ireturn, 1) := by decide +kernel
theorem dX4_canSing_0 : decode cX4_canSing 0 = .ok (.iload_n 2, 1) := by decide +kernel
theorem dX4_canSing_1 : decode cX4_canSing 1 = .ok (.bipush 7, 2) := by decide +kernel
theorem dX4_canSing_3 : decode cX4_canSing 3 = .ok (.if_icmp .eq 51, 3) := by decide +kernel
theorem dX4_canSing_6 : decode cX4_canSing 6 = .ok (.iload_n 2, 1) := by decide +kernel
theorem dX4_canSing_7 : decode cX4_canSing 7 = .ok (.i2l, 1) := by decide +kernel
theorem dX4_canSing_8 : decode cX4_canSing 8 = .ok (.aload_n 0, 1) := by decide +kernel
theorem dX4_canSing_9 : decode cX4_canSing 9 = .ok (.getfield 19, 3) := by decide +kernel
theorem dX4_canSing_12 : decode cX4_canSing 12 = .ok (.iconst 4, 1) := by decide +kernel
theorem dX4_canSing_13 : decode cX4_canSing 13 = .ok (.iload_n 1, 1) := by decide +kernel
theorem dX4_canSing_14 : decode cX4_canSing 14 = .ok (.iadd, 1) := by decide +kernel
theorem dX4_canSing_15 : decode cX4_canSing 15 = .ok (.iaload, 1) := by decide +kernel
theorem dX4_canSing_16 : decode cX4_canSing 16 = .ok (.i2l, 1) := by decide +kernel
theorem dX4_canSing_17 : decode cX4_canSing 17 = .ok (.aload_n 0, 1) := by decide +kernel
theorem dX4_canSing_18 : decode cX4_canSing 18 = .ok (.getfield 19, 3) := by decide +kernel
theorem dX4_canSing_21 : decode cX4_canSing 21 = .ok (.bipush 7, 2) := by decide +kernel
theorem dX4_canSing_23 : decode cX4_canSing 23 = .ok (.iload_n 1, 1) := by decide +kernel
theorem dX4_canSing_24 : decode cX4_canSing 24 = .ok (.iadd, 1) := by decide +kernel
theorem dX4_canSing_25 : decode cX4_canSing 25 = .ok (.iaload, 1) := by decide +kernel
theorem dX4_canSing_26 : decode cX4_canSing 26 = .ok (.i2l, 1) := by decide +kernel
theorem dX4_canSing_27 : decode cX4_canSing 27 = .ok (.invokestatic 60, 3) := by decide +kernel
theorem dX4_canSing_30 : decode cX4_canSing 30 = .ok (.ifCond .eq 28, 3) := by decide +kernel
theorem dX4_canSing_33 : decode cX4_canSing 33 = .ok (.aload_n 0, 1) := by decide +kernel
theorem dX4_canSing_34 : decode cX4_canSing 34 = .ok (.getfield 19, 3) := by decide +kernel
theorem dX4_canSing_37 : decode cX4_canSing 37 = .ok (.bipush 13, 2) := by decide +kernel
theorem dX4_canSing_39 : decode cX4_canSing 39 = .ok (.iload_n 1, 1) := by decide +kernel
theorem dX4_canSing_40 : decode cX4_canSing 40 = .ok (.iadd, 1) := by decide +kernel
theorem dX4_canSing_41 : decode cX4_canSing 41 = .ok (.iaload, 1) := by decide +kernel
theorem dX4_canSing_42 : decode cX4_canSing 42 = .ok (.aload_n 0, 1) := by decide +kernel
theorem dX4_canSing_43 : decode cX4_canSing 43 = .ok (.getfield 19, 3) := by decide +kernel
theorem dX4_canSing_46 : decode cX4_canSing 46 = .ok (.bipush 10, 2) := by decide +kernel
theorem dX4_canSing_48 : decode cX4_canSing 48 = .ok (.iload_n 1, 1) := by decide +kernel
theorem dX4_canSing_49 : decode cX4_canSing 49 = .ok (.iadd, 1) := by decide +kernel
theorem dX4_canSing_50 : decode cX4_canSing 50 = .ok (.iaload, 1) := by decide +kernel
theorem dX4_canSing_51 : decode cX4_canSing 51 = .ok (.if_icmp .ge 7, 3) := by decide +kernel
theorem dX4_canSing_54 : decode cX4_canSing 54 = .ok (.iconst 1, 1) := by decide +kernel
theorem dX4_canSing_55 : decode cX4_canSing 55 = .ok (.goto 4, 3) := by decide +kernel
theorem dX4_canSing_58 : decode cX4_canSing 58 = .ok (.iconst 0, 1) := by decide +kernel
theorem dX4_canSing_59 : decode cX4_canSing 59 = .ok (.ireturn, 1) := by decide +kernel
theorem dX4_panHears_0 : decode cX4_panHears 0 = .ok (.ldc 127, 2) := by decide +kernel
theorem dX4_panHears_2 : decode cX4_panHears 2 = .ok (.istore_n 2, 1) := by decide +kernel
theorem dX4_panHears_3 : decode cX4_panHears 3 = .ok (.iconst 1, 1) := by decide +kernel
theorem dX4_panHears_4 : decode cX4_panHears 4 = .ok (.istore_n 3, 1) := by decide +kernel
theorem dX4_panHears_5 : decode cX4_panHears 5 = .ok (.iconst 0, 1) := by decide +kernel
theorem dX4_panHears_6 : decode cX4_panHears 6 = .ok (.istore 4, 2) := by decide +kernel
theorem dX4_panHears_8 : decode cX4_panHears 8 = .ok (.iload 4, 2) := by decide +kernel
theorem dX4_panHears_10 : decode cX4_panHears 10 = .ok (.aload_n 0, 1) := by decide +kernel
theorem dX4_panHears_11 : decode cX4_panHears 11 = .ok (.getfield 19, 3) := by decide +kernel
theorem dX4_panHears_14 : decode cX4_panHears 14 = .ok (.iconst 1, 1) := by decide +kernel
theorem dX4_panHears_15 : decode cX4_panHears 15 = .ok (.iaload, 1) := by decide +kernel
theorem dX4_panHears_16 : decode cX4_panHears 16 = .ok (.if_icmp .ge 97, 3) := by decide +kernel
theorem dX4_panHears_19 : decode cX4_panHears 19 = .ok (.aload_n 0, 1) := by decide +kernel
theorem dX4_panHears_20 : decode cX4_panHears 20 = .ok (.getfield 19, 3) := by decide +kernel
theorem dX4_panHears_23 : decode cX4_panHears 23 = .ok (.bipush 31, 2) := by decide +kernel
theorem dX4_panHears_25 : decode cX4_panHears 25 = .ok (.iload_n 1, 1) := by decide +kernel
theorem dX4_panHears_26 : decode cX4_panHears 26 = .ok (.iadd, 1) := by decide +kernel
theorem dX4_panHears_27 : decode cX4_panHears 27 = .ok (.iaload, 1) := by decide +kernel
theorem dX4_panHears_28 : decode cX4_panHears 28 = .ok (.iload 4, 2) := by decide +kernel
theorem dX4_panHears_30 : decode cX4_panHears 30 = .ok (.invokestatic 149, 3) := by decide +kernel
theorem dX4_panHears_33 : decode cX4_panHears 33 = .ok (.ifCond .eq 74, 3) := by decide +kernel
theorem dX4_panHears_36 : decode cX4_panHears 36 = .ok (.aload_n 0, 1) := by decide +kernel
theorem dX4_panHears_37 : decode cX4_panHears 37 = .ok (.getfield 31, 3) := by decide +kernel
theorem dX4_panHears_40 : decode cX4_panHears 40 = .ok (.iload 4, 2) := by decide +kernel
theorem dX4_panHears_42 : decode cX4_panHears 42 = .ok (.iaload, 1) := by decide +kernel
theorem dX4_panHears_43 : decode cX4_panHears 43 = .ok (.bipush 7, 2) := by decide +kernel
theorem dX4_panHears_45 : decode cX4_panHears 45 = .ok (.if_icmp .ge 62, 3) := by decide +kernel
theorem dX4_panHears_48 : decode cX4_panHears 48 = .ok (.iload_n 3, 1) := by decide +kernel
theorem dX4_panHears_49 : decode cX4_panHears 49 = .ok (.ifCond .eq 29, 3) := by decide +kernel
theorem dX4_panHears_52 : decode cX4_panHears 52 = .ok (.aload_n 0, 1) := by decide +kernel
theorem dX4_panHears_53 : decode cX4_panHears 53 = .ok (.getfield 19, 3) := by decide +kernel
theorem dX4_panHears_56 : decode cX4_panHears 56 = .ok (.bipush 21, 2) := by decide +kernel
theorem dX4_panHears_58 : decode cX4_panHears 58 = .ok (.iload_n 1, 1) := by decide +kernel
theorem dX4_panHears_59 : decode cX4_panHears 59 = .ok (.iadd, 1) := by decide +kernel
theorem dX4_panHears_60 : decode cX4_panHears 60 = .ok (.iaload, 1) := by decide +kernel
theorem dX4_panHears_61 : decode cX4_panHears 61 = .ok (.aload_n 0, 1) := by decide +kernel
theorem dX4_panHears_62 : decode cX4_panHears 62 = .ok (.getfield 31, 3) := by decide +kernel
theorem dX4_panHears_65 : decode cX4_panHears 65 = .ok (.iload 4, 2) := by decide +kernel
theorem dX4_panHears_67 : decode cX4_panHears 67 = .ok (.iaload, 1) := by decide +kernel
theorem dX4_panHears_68 : decode cX4_panHears 68 = .ok (.invokestatic 149, 3) := by decide +kernel
theorem dX4_panHears_71 : decode cX4_panHears 71 = .ok (.ifCond .eq 7, 3) := by decide +kernel
theorem dX4_panHears_74 : decode cX4_panHears 74 = .ok (.iconst 1, 1) := by decide +kernel
theorem dX4_panHears_75 : decode cX4_panHears 75 = .ok (.goto 4, 3) := by decide +kernel
theorem dX4_panHears_78 : decode cX4_panHears 78 = .ok (.iconst 0, 1) := by decide +kernel
theorem dX4_panHears_79 : decode cX4_panHears 79 = .ok (.istore_n 3, 1) := by decide +kernel
theorem dX4_panHears_80 : decode cX4_panHears 80 = .ok (.iload_n 2, 1) := by decide +kernel
theorem dX4_panHears_81 : decode cX4_panHears 81 = .ok (.ifCond .lt 14, 3) := by decide +kernel
theorem dX4_panHears_84 : decode cX4_panHears 84 = .ok (.aload_n 0, 1) := by decide +kernel
theorem dX4_panHears_85 : decode cX4_panHears 85 = .ok (.getfield 31, 3) := by decide +kernel
theorem dX4_panHears_88 : decode cX4_panHears 88 = .ok (.iload 4, 2) := by decide +kernel
theorem dX4_panHears_90 : decode cX4_panHears 90 = .ok (.iaload, 1) := by decide +kernel
theorem dX4_panHears_91 : decode cX4_panHears 91 = .ok (.iload_n 2, 1) := by decide +kernel
theorem dX4_panHears_92 : decode cX4_panHears 92 = .ok (.if_icmp .ge 13, 3) := by decide +kernel
theorem dX4_panHears_95 : decode cX4_panHears 95 = .ok (.aload_n 0, 1) := by decide +kernel
theorem dX4_panHears_96 : decode cX4_panHears 96 = .ok (.getfield 31, 3) := by decide +kernel
theorem dX4_panHears_99 : decode cX4_panHears 99 = .ok (.iload 4, 2) := by decide +kernel
theorem dX4_panHears_101 : decode cX4_panHears 101 = .ok (.iaload, 1) := by decide +kernel
theorem dX4_panHears_102 : decode cX4_panHears 102 = .ok (.goto 4, 3) := by decide +kernel
theorem dX4_panHears_105 : decode cX4_panHears 105 = .ok (.iload_n 2, 1) := by decide +kernel
theorem dX4_panHears_106 : decode cX4_panHears 106 = .ok (.istore_n 2, 1) := by decide +kernel
theorem dX4_panHears_107 : decode cX4_panHears 107 = .ok (.iinc 4 1, 3) := by decide +kernel
theorem dX4_panHears_110 : decode cX4_panHears 110 = .ok (.goto (-102), 3) := by decide +kernel
theorem dX4_panHears_113 : decode cX4_panHears 113 = .ok (.aload_n 0, 1) := by decide +kernel
theorem dX4_panHears_114 : decode cX4_panHears 114 = .ok (.getfield 19, 3) := by decide +kernel
theorem dX4_panHears_117 : decode cX4_panHears 117 = .ok (.bipush 16, 2) := by decide +kernel
theorem dX4_panHears_119 : decode cX4_panHears 119 = .ok (.iload_n 1, 1) := by decide +kernel
theorem dX4_panHears_120 : decode cX4_panHears 120 = .ok (.iadd, 1) := by decide +kernel
theorem dX4_panHears_121 : decode cX4_panHears 121 = .ok (.iaload, 1) := by decide +kernel
theorem dX4_panHears_122 : decode cX4_panHears 122 = .ok (.istore 4, 2) := by decide +kernel
theorem dX4_panHears_124 : decode cX4_panHears 124 = .ok (.aload_n 0, 1) := by decide +kernel
theorem dX4_panHears_125 : decode cX4_panHears 125 = .ok (.getfield 19, 3) := by decide +kernel
theorem dX4_panHears_128 : decode cX4_panHears 128 = .ok (.bipush 36, 2) := by decide +kernel
theorem dX4_panHears_130 : decode cX4_panHears 130 = .ok (.iload_n 1, 1) := by decide +kernel
theorem dX4_panHears_131 : decode cX4_panHears 131 = .ok (.iadd, 1) := by decide +kernel
theorem dX4_panHears_132 : decode cX4_panHears 132 = .ok (.iaload, 1) := by decide +kernel
theorem dX4_panHears_133 : decode cX4_panHears 133 = .ok (.istore 5, 2) := by decide +kernel
theorem dX4_panHears_135 : decode cX4_panHears 135 = .ok (.aload_n 0, 1) := by decide +kernel
theorem dX4_panHears_136 : decode cX4_panHears 136 = .ok (.getfield 19, 3) := by decide +kernel
theorem dX4_panHears_139 : decode cX4_panHears 139 = .ok (.bipush 46, 2) := by decide +kernel
theorem dX4_panHears_141 : decode cX4_panHears 141 = .ok (.iload_n 1, 1) := by decide +kernel
theorem dX4_panHears_142 : decode cX4_panHears 142 = .ok (.iadd, 1) := by decide +kernel
theorem dX4_panHears_143 : decode cX4_panHears 143 = .ok (.iaload, 1) := by decide +kernel
theorem dX4_panHears_144 : decode cX4_panHears 144 = .ok (.istore 6, 2) := by decide +kernel
theorem dX4_panHears_146 : decode cX4_panHears 146 = .ok (.iload 4, 2) := by decide +kernel
theorem dX4_panHears_148 : decode cX4_panHears 148 = .ok (.iconst 3, 1) := by decide +kernel
theorem dX4_panHears_149 : decode cX4_panHears 149 = .ok (.if_icmp .ne 34, 3) := by decide +kernel
theorem dX4_panHears_152 : decode cX4_panHears 152 = .ok (.iload_n 3, 1) := by decide +kernel
theorem dX4_panHears_153 : decode cX4_panHears 153 = .ok (.ifCond .eq 28, 3) := by decide +kernel
theorem dX4_panHears_156 : decode cX4_panHears 156 = .ok (.iload 6, 2) := by decide +kernel
theorem dX4_panHears_158 : decode cX4_panHears 158 = .ok (.ifCond .lt 23, 3) := by decide +kernel
theorem dX4_panHears_161 : decode cX4_panHears 161 = .ok (.iload_n 2, 1) := by decide +kernel
theorem dX4_panHears_162 : decode cX4_panHears 162 = .ok (.iload 6, 2) := by decide +kernel
theorem dX4_panHears_164 : decode cX4_panHears 164 = .ok (.iconst 2, 1) := by decide +kernel
theorem dX4_panHears_165 : decode cX4_panHears 165 = .ok (.iadd, 1) := by decide +kernel
theorem dX4_panHears_166 : decode cX4_panHears 166 = .ok (.if_icmp .eq 11, 3) := by decide +kernel
theorem dX4_panHears_169 : decode cX4_panHears 169 = .ok (.iload_n 2, 1) := by decide +kernel
theorem dX4_panHears_170 : decode cX4_panHears 170 = .ok (.iload 6, 2) := by decide +kernel
theorem dX4_panHears_172 : decode cX4_panHears 172 = .ok (.iconst 2, 1) := by decide +kernel
theorem dX4_panHears_173 : decode cX4_panHears 173 = .ok (.isub, 1) := by decide +kernel
theorem dX4_panHears_174 : decode cX4_panHears 174 = .ok (.if_icmp .ne 7, 3) := by decide +kernel
theorem dX4_panHears_177 : decode cX4_panHears 177 = .ok (.iconst 1, 1) := by decide +kernel
theorem dX4_panHears_178 : decode cX4_panHears 178 = .ok (.goto 4, 3) := by decide +kernel
theorem dX4_panHears_181 : decode cX4_panHears 181 = .ok (.iconst 0, 1) := by decide +kernel
theorem dX4_panHears_182 : decode cX4_panHears 182 = .ok (.istore_n 3, 1) := by decide +kernel
theorem dX4_panHears_183 : decode cX4_panHears 183 = .ok (.iload 4, 2) := by decide +kernel
theorem dX4_panHears_185 : decode cX4_panHears 185 = .ok (.iconst 5, 1) := by decide +kernel
theorem dX4_panHears_186 : decode cX4_panHears 186 = .ok (.if_icmp .ne 20, 3) := by decide +kernel
theorem dX4_panHears_189 : decode cX4_panHears 189 = .ok (.iload_n 2, 1) := by decide +kernel
theorem dX4_panHears_190 : decode cX4_panHears 190 = .ok (.ifCond .ge 10, 3) := by decide +kernel
theorem dX4_panHears_193 : decode cX4_panHears 193 = .ok (.iload 5, 2) := by decide +kernel
theorem dX4_panHears_195 : decode cX4_panHears 195 = .ok (.iconst 1, 1) := by decide +kernel
theorem dX4_panHears_196 : decode cX4_panHears 196 = .ok (.iadd, 1) := by decide +kernel
theorem dX4_panHears_197 : decode cX4_panHears 197 = .ok (.goto 4, 3) := by decide +kernel
theorem dX4_panHears_200 : decode cX4_panHears 200 = .ok (.iconst 0, 1) := by decide +kernel
theorem dX4_panHears_201 : decode cX4_panHears 201 = .ok (.istore 5, 2) := by decide +kernel
theorem dX4_panHears_203 : decode cX4_panHears 203 = .ok (.goto 56, 3) := by decide +kernel
theorem dX4_panHears_206 : decode cX4_panHears 206 = .ok (.iload 4, 2) := by decide +kernel
theorem dX4_panHears_208 : decode cX4_panHears 208 = .ok (.iconst 4, 1) := by decide +kernel
theorem dX4_panHears_209 : decode cX4_panHears 209 = .ok (.if_icmp .eq 50, 3) := by decide +kernel
theorem dX4_panHears_212 : decode cX4_panHears 212 = .ok (.iload_n 2, 1) := by decide +kernel
theorem dX4_panHears_213 : decode cX4_panHears 213 = .ok (.ifCond .lt 46, 3) := by decide +kernel
theorem dX4_panHears_216 : decode cX4_panHears 216 = .ok (.iload_n 3, 1) := by decide +kernel
theorem dX4_panHears_217 : decode cX4_panHears 217 = .ok (.ifCond .eq 10, 3) := by decide +kernel
theorem dX4_panHears_220 : decode cX4_panHears 220 = .ok (.iload 5, 2) := by decide +kernel
theorem dX4_panHears_222 : decode cX4_panHears 222 = .ok (.iconst 1, 1) := by decide +kernel
theorem dX4_panHears_223 : decode cX4_panHears 223 = .ok (.iadd, 1) := by decide +kernel
theorem dX4_panHears_224 : decode cX4_panHears 224 = .ok (.goto 33, 3) := by decide +kernel
theorem dX4_panHears_227 : decode cX4_panHears 227 = .ok (.iload 4, 2) := by decide +kernel
theorem dX4_panHears_229 : decode cX4_panHears 229 = .ok (.iconst 2, 1) := by decide +kernel
theorem dX4_panHears_230 : decode cX4_panHears 230 = .ok (.if_icmp .eq 14, 3) := by decide +kernel
theorem dX4_panHears_233 : decode cX4_panHears 233 = .ok (.iload 5, 2) := by decide +kernel
theorem dX4_panHears_235 : decode cX4_panHears 235 = .ok (.aload_n 0, 1) := by decide +kernel
theorem dX4_panHears_236 : decode cX4_panHears 236 = .ok (.getfield 19, 3) := by decide +kernel
theorem dX4_panHears_239 : decode cX4_panHears 239 = .ok (.iconst 0, 1) := by decide +kernel
theorem dX4_panHears_240 : decode cX4_panHears 240 = .ok (.iaload, 1) := by decide +kernel
theorem dX4_panHears_241 : decode cX4_panHears 241 = .ok (.if_icmp .ge 7, 3) := by decide +kernel
theorem dX4_panHears_244 : decode cX4_panHears 244 = .ok (.iconst 0, 1) := by decide +kernel
theorem dX4_panHears_245 : decode cX4_panHears 245 = .ok (.goto 12, 3) := by decide +kernel
theorem dX4_panHears_248 : decode cX4_panHears 248 = .ok (.iload 5, 2) := by decide +kernel
theorem dX4_panHears_250 : decode cX4_panHears 250 = .ok (.aload_n 0, 1) := by decide +kernel
theorem dX4_panHears_251 : decode cX4_panHears 251 = .ok (.getfield 19, 3) := by decide +kernel
theorem dX4_panHears_254 : decode cX4_panHears 254 = .ok (.iconst 0, 1) := by decide +kernel
theorem dX4_panHears_255 : decode cX4_panHears 255 = .ok (.iaload, 1) := by decide +kernel
theorem dX4_panHears_256 : decode cX4_panHears 256 = .ok (.isub, 1) := by decide +kernel
theorem dX4_panHears_257 : decode cX4_panHears 257 = .ok (.istore 5, 2) := by decide +kernel
theorem dX4_panHears_259 : decode cX4_panHears 259 = .ok (.aload_n 0, 1) := by decide +kernel
theorem dX4_panHears_260 : decode cX4_panHears 260 = .ok (.getfield 19, 3) := by decide +kernel
theorem dX4_panHears_263 : decode cX4_panHears 263 = .ok (.bipush 36, 2) := by decide +kernel
theorem dX4_panHears_265 : decode cX4_panHears 265 = .ok (.iload_n 1, 1) := by decide +kernel
theorem dX4_panHears_266 : decode cX4_panHears 266 = .ok (.iadd, 1) := by decide +kernel
theorem dX4_panHears_267 : decode cX4_panHears 267 = .ok (.iload 5, 2) := by decide +kernel
theorem dX4_panHears_269 : decode cX4_panHears 269 = .ok (.iastore, 1) := by decide +kernel
theorem dX4_panHears_270 : decode cX4_panHears 270 = .ok (.aload_n 0, 1) := by decide +kernel
theorem dX4_panHears_271 : decode cX4_panHears 271 = .ok (.getfield 19, 3) := by decide +kernel
theorem dX4_panHears_274 : decode cX4_panHears 274 = .ok (.bipush 41, 2) := by decide +kernel
theorem dX4_panHears_276 : decode cX4_panHears 276 = .ok (.iload_n 1, 1) := by decide +kernel
theorem dX4_panHears_277 : decode cX4_panHears 277 = .ok (.iadd, 1) := by decide +kernel
theorem dX4_panHears_278 : decode cX4_panHears 278 = .ok (.iload 5, 2) := by decide +kernel
theorem dX4_panHears_280 : decode cX4_panHears 280 = .ok (.aload_n 0, 1) := by decide +kernel
theorem dX4_panHears_281 : decode cX4_panHears 281 = .ok (.getfield 19, 3) := by decide +kernel
theorem dX4_panHears_284 : decode cX4_panHears 284 = .ok (.bipush 26, 2) := by decide +kernel
theorem dX4_panHears_286 : decode cX4_panHears 286 = .ok (.iload_n 1, 1) := by decide +kernel
theorem dX4_panHears_287 : decode cX4_panHears 287 = .ok (.iadd, 1) := by decide +kernel
theorem dX4_panHears_288 : decode cX4_panHears 288 = .ok (.iaload, 1) := by decide +kernel
theorem dX4_panHears_289 : decode cX4_panHears 289 = .ok (.if_icmp .lt 7, 3) := by decide +kernel
theorem dX4_panHears_292 : decode cX4_panHears 292 = .ok (.iconst 1, 1) := by decide +kernel
theorem dX4_panHears_293 : decode cX4_panHears 293 = .ok (.goto 4, 3) := by decide +kernel
theorem dX4_panHears_296 : decode cX4_panHears 296 = .ok (.iconst 0, 1) := by decide +kernel
theorem dX4_panHears_297 : decode cX4_panHears 297 = .ok (.iastore, 1) := by decide +kernel
theorem dX4_panHears_298 : decode cX4_panHears 298 = .ok (.aload_n 0, 1) := by decide +kernel
theorem dX4_panHears_299 : decode cX4_panHears 299 = .ok (.getfield 19, 3) := by decide +kernel
theorem dX4_panHears_302 : decode cX4_panHears 302 = .ok (.bipush 46, 2) := by decide +kernel
theorem dX4_panHears_304 : decode cX4_panHears 304 = .ok (.iload_n 1, 1) := by decide +kernel
theorem dX4_panHears_305 : decode cX4_panHears 305 = .ok (.iadd, 1) := by decide +kernel
theorem dX4_panHears_306 : decode cX4_panHears 306 = .ok (.aload_n 0, 1) := by decide +kernel
theorem dX4_panHears_307 : decode cX4_panHears 307 = .ok (.getfield 19, 3) := by decide +kernel
theorem dX4_panHears_310 : decode cX4_panHears 310 = .ok (.bipush 41, 2) := by decide +kernel
theorem dX4_panHears_312 : decode cX4_panHears 312 = .ok (.iload_n 1, 1) := by decide +kernel
theorem dX4_panHears_313 : decode cX4_panHears 313 = .ok (.iadd, 1) := by decide +kernel
theorem dX4_panHears_314 : decode cX4_panHears 314 = .ok (.iaload, 1) := by decide +kernel
theorem dX4_panHears_315 : decode cX4_panHears 315 = .ok (.iconst 1, 1) := by decide +kernel
theorem dX4_panHears_316 : decode cX4_panHears 316 = .ok (.if_icmp .ne 8, 3) := by decide +kernel
theorem dX4_panHears_319 : decode cX4_panHears 319 = .ok (.ldc 127, 2) := by decide +kernel
theorem dX4_panHears_321 : decode cX4_panHears 321 = .ok (.goto 4, 3) := by decide +kernel
theorem dX4_panHears_324 : decode cX4_panHears 324 = .ok (.iload_n 2, 1) := by decide +kernel
theorem dX4_panHears_325 : decode cX4_panHears 325 = .ok (.iastore, 1) := by decide +kernel
theorem dX4_panHears_326 : decode cX4_panHears 326 = .ok (.return_, 1) := by decide +kernel
theorem dX4_oneBar_0 : decode cX4_oneBar 0 = .ok (.iconst 0, 1) := by decide +kernel
theorem dX4_oneBar_1 : decode cX4_oneBar 1 = .ok (.istore_n 1, 1) := by decide +kernel
theorem dX4_oneBar_2 : decode cX4_oneBar 2 = .ok (.iload_n 1, 1) := by decide +kernel
theorem dX4_oneBar_3 : decode cX4_oneBar 3 = .ok (.aload_n 0, 1) := by decide +kernel
theorem dX4_oneBar_4 : decode cX4_oneBar 4 = .ok (.getfield 19, 3) := by decide +kernel
theorem dX4_oneBar_7 : decode cX4_oneBar 7 = .ok (.iconst 2, 1) := by decide +kernel
theorem dX4_oneBar_8 : decode cX4_oneBar 8 = .ok (.iaload, 1) := by decide +kernel
theorem dX4_oneBar_9 : decode cX4_oneBar 9 = .ok (.if_icmp .ge 41, 3) := by decide +kernel
theorem dX4_oneBar_12 : decode cX4_oneBar 12 = .ok (.aload_n 0, 1) := by decide +kernel
theorem dX4_oneBar_13 : decode cX4_oneBar 13 = .ok (.getfield 19, 3) := by decide +kernel
theorem dX4_oneBar_16 : decode cX4_oneBar 16 = .ok (.bipush 41, 2) := by decide +kernel
theorem dX4_oneBar_18 : decode cX4_oneBar 18 = .ok (.iload_n 1, 1) := by decide +kernel
theorem dX4_oneBar_19 : decode cX4_oneBar 19 = .ok (.iadd, 1) := by decide +kernel
theorem dX4_oneBar_20 : decode cX4_oneBar 20 = .ok (.iaload, 1) := by decide +kernel
theorem dX4_oneBar_21 : decode cX4_oneBar 21 = .ok (.iconst 1, 1) := by decide +kernel
theorem dX4_oneBar_22 : decode cX4_oneBar 22 = .ok (.if_icmp .ne 17, 3) := by decide +kernel
theorem dX4_oneBar_25 : decode cX4_oneBar 25 = .ok (.aload_n 0, 1) := by decide +kernel
theorem dX4_oneBar_26 : decode cX4_oneBar 26 = .ok (.getfield 19, 3) := by decide +kernel
theorem dX4_oneBar_29 : decode cX4_oneBar 29 = .ok (.bipush 46, 2) := by decide +kernel
theorem dX4_oneBar_31 : decode cX4_oneBar 31 = .ok (.iload_n 1, 1) := by decide +kernel
theorem dX4_oneBar_32 : decode cX4_oneBar 32 = .ok (.iadd, 1) := by decide +kernel
theorem dX4_oneBar_33 : decode cX4_oneBar 33 = .ok (.ldc 127, 2) := by decide +kernel
theorem dX4_oneBar_35 : decode cX4_oneBar 35 = .ok (.iastore, 1) := by decide +kernel
theorem dX4_oneBar_36 : decode cX4_oneBar 36 = .ok (.goto 8, 3) := by decide +kernel
theorem dX4_oneBar_39 : decode cX4_oneBar 39 = .ok (.aload_n 0, 1) := by decide +kernel
theorem dX4_oneBar_40 : decode cX4_oneBar 40 = .ok (.iload_n 1, 1) := by decide +kernel
theorem dX4_oneBar_41 : decode cX4_oneBar 41 = .ok (.invokevirtual 153, 3) := by decide +kernel
theorem dX4_oneBar_44 : decode cX4_oneBar 44 = .ok (.iinc 1 1, 3) := by decide +kernel
theorem dX4_oneBar_47 : decode cX4_oneBar 47 = .ok (.goto (-45), 3) := by decide +kernel
theorem dX4_oneBar_50 : decode cX4_oneBar 50 = .ok (.iconst 0, 1) := by decide +kernel
theorem dX4_oneBar_51 : decode cX4_oneBar 51 = .ok (.istore_n 1, 1) := by decide +kernel
theorem dX4_oneBar_52 : decode cX4_oneBar 52 = .ok (.iload_n 1, 1) := by decide +kernel
theorem dX4_oneBar_53 : decode cX4_oneBar 53 = .ok (.aload_n 0, 1) := by decide +kernel
theorem dX4_oneBar_54 : decode cX4_oneBar 54 = .ok (.getfield 19, 3) := by decide +kernel
theorem dX4_oneBar_57 : decode cX4_oneBar 57 = .ok (.iconst 1, 1) := by decide +kernel
theorem dX4_oneBar_58 : decode cX4_oneBar 58 = .ok (.iaload, 1) := by decide +kernel
theorem dX4_oneBar_59 : decode cX4_oneBar 59 = .ok (.if_icmp .ge 44, 3) := by decide +kernel
theorem dX4_oneBar_62 : decode cX4_oneBar 62 = .ok (.aload_n 0, 1) := by decide +kernel
theorem dX4_oneBar_63 : decode cX4_oneBar 63 = .ok (.getfield 19, 3) := by decide +kernel
theorem dX4_oneBar_66 : decode cX4_oneBar 66 = .ok (.bipush 13, 2) := by decide +kernel
theorem dX4_oneBar_68 : decode cX4_oneBar 68 = .ok (.iload_n 1, 1) := by decide +kernel
theorem dX4_oneBar_69 : decode cX4_oneBar 69 = .ok (.iadd, 1) := by decide +kernel
theorem dX4_oneBar_70 : decode cX4_oneBar 70 = .ok (.aload_n 0, 1) := by decide +kernel
theorem dX4_oneBar_71 : decode cX4_oneBar 71 = .ok (.getfield 31, 3) := by decide +kernel
theorem dX4_oneBar_74 : decode cX4_oneBar 74 = .ok (.iload_n 1, 1) := by decide +kernel
theorem dX4_oneBar_75 : decode cX4_oneBar 75 = .ok (.iaload, 1) := by decide +kernel
theorem dX4_oneBar_76 : decode cX4_oneBar 76 = .ok (.bipush 7, 2) := by decide +kernel
theorem dX4_oneBar_78 : decode cX4_oneBar 78 = .ok (.if_icmp .ge 17, 3) := by decide +kernel
theorem dX4_oneBar_81 : decode cX4_oneBar 81 = .ok (.aload_n 0, 1) := by decide +kernel
theorem dX4_oneBar_82 : decode cX4_oneBar 82 = .ok (.getfield 19, 3) := by decide +kernel
theorem dX4_oneBar_85 : decode cX4_oneBar 85 = .ok (.bipush 13, 2) := by decide +kernel
theorem dX4_oneBar_87 : decode cX4_oneBar 87 = .ok (.iload_n 1, 1) := by decide +kernel
theorem dX4_oneBar_88 : decode cX4_oneBar 88 = .ok (.iadd, 1) := by decide +kernel
theorem dX4_oneBar_89 : decode cX4_oneBar 89 = .ok (.iaload, 1) := by decide +kernel
theorem dX4_oneBar_90 : decode cX4_oneBar 90 = .ok (.iconst 1, 1) := by decide +kernel
theorem dX4_oneBar_91 : decode cX4_oneBar 91 = .ok (.iadd, 1) := by decide +kernel
theorem dX4_oneBar_92 : decode cX4_oneBar 92 = .ok (.goto 4, 3) := by decide +kernel
theorem dX4_oneBar_95 : decode cX4_oneBar 95 = .ok (.iconst 0, 1) := by decide +kernel
theorem dX4_oneBar_96 : decode cX4_oneBar 96 = .ok (.iastore, 1) := by decide +kernel
theorem dX4_oneBar_97 : decode cX4_oneBar 97 = .ok (.iinc 1 1, 3) := by decide +kernel
theorem dX4_oneBar_100 : decode cX4_oneBar 100 = .ok (.goto (-48), 3) := by decide +kernel
theorem dX4_oneBar_103 : decode cX4_oneBar 103 = .ok (.aload_n 0, 1) := by decide +kernel
theorem dX4_oneBar_104 : decode cX4_oneBar 104 = .ok (.getfield 19, 3) := by decide +kernel
theorem dX4_oneBar_107 : decode cX4_oneBar 107 = .ok (.iconst 3, 1) := by decide +kernel
theorem dX4_oneBar_108 : decode cX4_oneBar 108 = .ok (.dup2, 1) := by decide +kernel
theorem dX4_oneBar_109 : decode cX4_oneBar 109 = .ok (.iaload, 1) := by decide +kernel
theorem dX4_oneBar_110 : decode cX4_oneBar 110 = .ok (.iconst 1, 1) := by decide +kernel
theorem dX4_oneBar_111 : decode cX4_oneBar 111 = .ok (.iadd, 1) := by decide +kernel
theorem dX4_oneBar_112 : decode cX4_oneBar 112 = .ok (.iastore, 1) := by decide +kernel
theorem dX4_oneBar_113 : decode cX4_oneBar 113 = .ok (.return_, 1) := by decide +kernel
theorem dX4_setPans_0 : decode cX4_setPans 0 = .ok (.iconst 0, 1) := by decide +kernel
theorem dX4_setPans_1 : decode cX4_setPans 1 = .ok (.istore_n 1, 1) := by decide +kernel
theorem dX4_setPans_2 : decode cX4_setPans 2 = .ok (.iconst 0, 1) := by decide +kernel
theorem dX4_setPans_3 : decode cX4_setPans 3 = .ok (.istore_n 2, 1) := by decide +kernel
theorem dX4_setPans_4 : decode cX4_setPans 4 = .ok (.iload_n 2, 1) := by decide +kernel
theorem dX4_setPans_5 : decode cX4_setPans 5 = .ok (.aload_n 0, 1) := by decide +kernel
theorem dX4_setPans_6 : decode cX4_setPans 6 = .ok (.getfield 19, 3) := by decide +kernel
theorem dX4_setPans_9 : decode cX4_setPans 9 = .ok (.iconst 2, 1) := by decide +kernel
theorem dX4_setPans_10 : decode cX4_setPans 10 = .ok (.iaload, 1) := by decide +kernel
theorem dX4_setPans_11 : decode cX4_setPans 11 = .ok (.if_icmp .ge 23, 3) := by decide +kernel
theorem dX4_setPans_14 : decode cX4_setPans 14 = .ok (.iload_n 1, 1) := by decide +kernel
theorem dX4_setPans_15 : decode cX4_setPans 15 = .ok (.aload_n 0, 1) := by decide +kernel
theorem dX4_setPans_16 : decode cX4_setPans 16 = .ok (.getfield 19, 3) := by decide +kernel
theorem dX4_setPans_19 : decode cX4_setPans 19 = .ok (.bipush 41, 2) := by decide +kernel
theorem dX4_setPans_21 : decode cX4_setPans 21 = .ok (.iload_n 2, 1) := by decide +kernel
theorem dX4_setPans_22 : decode cX4_setPans 22 = .ok (.iadd, 1) := by decide +kernel
theorem dX4_setPans_23 : decode cX4_setPans 23 = .ok (.iaload, 1) := by decide +kernel
theorem dX4_setPans_24 : decode cX4_setPans 24 = .ok (.iload_n 2, 1) := by decide +kernel
theorem dX4_setPans_25 : decode cX4_setPans 25 = .ok (.ishl, 1) := by decide +kernel
theorem dX4_setPans_26 : decode cX4_setPans 26 = .ok (.ior, 1) := by decide +kernel
theorem dX4_setPans_27 : decode cX4_setPans 27 = .ok (.istore_n 1, 1) := by decide +kernel
theorem dX4_setPans_28 : decode cX4_setPans 28 = .ok (.iinc 2 1, 3) := by decide +kernel
theorem dX4_setPans_31 : decode cX4_setPans 31 = .ok (.goto (-27), 3) := by decide +kernel
theorem dX4_setPans_34 : decode cX4_setPans 34 = .ok (.iload_n 1, 1) := by decide +kernel
theorem dX4_setPans_35 : decode cX4_setPans 35 = .ok (.ireturn, 1) := by decide +kernel
theorem dX4_note_0 : decode cX4_note 0 = .ok (.aload_n 0, 1) := by decide +kernel
theorem dX4_note_1 : decode cX4_note 1 = .ok (.getfield 146, 3) := by decide +kernel
theorem dX4_note_4 : decode cX4_note 4 = .ok (.bipush 24, 2) := by decide +kernel
theorem dX4_note_6 : decode cX4_note 6 = .ok (.if_icmp .ne 43, 3) := by decide +kernel
theorem dX4_note_9 : decode cX4_note 9 = .ok (.iconst 0, 1) := by decide +kernel
theorem dX4_note_10 : decode cX4_note 10 = .ok (.istore_n 1, 1) := by decide +kernel
theorem dX4_note_11 : decode cX4_note 11 = .ok (.iload_n 1, 1) := by decide +kernel
theorem dX4_note_12 : decode cX4_note 12 = .ok (.sipush 1173, 3) := by decide +kernel
theorem dX4_note_15 : decode cX4_note 15 = .ok (.if_icmp .ge 24, 3) := by decide +kernel
theorem dX4_note_18 : decode cX4_note 18 = .ok (.aload_n 0, 1) := by decide +kernel
theorem dX4_note_19 : decode cX4_note 19 = .ok (.getfield 34, 3) := by decide +kernel
theorem dX4_note_22 : decode cX4_note 22 = .ok (.iload_n 1, 1) := by decide +kernel
theorem dX4_note_23 : decode cX4_note 23 = .ok (.aload_n 0, 1) := by decide +kernel
theorem dX4_note_24 : decode cX4_note 24 = .ok (.getfield 34, 3) := by decide +kernel
theorem dX4_note_27 : decode cX4_note 27 = .ok (.iload_n 1, 1) := by decide +kernel
theorem dX4_note_28 : decode cX4_note 28 = .ok (.bipush 51, 2) := by decide +kernel
theorem dX4_note_30 : decode cX4_note 30 = .ok (.iadd, 1) := by decide +kernel
theorem dX4_note_31 : decode cX4_note 31 = .ok (.iaload, 1) := by decide +kernel
theorem dX4_note_32 : decode cX4_note 32 = .ok (.iastore, 1) := by decide +kernel
theorem dX4_note_33 : decode cX4_note 33 = .ok (.iinc 1 1, 3) := by decide +kernel
theorem dX4_note_36 : decode cX4_note 36 = .ok (.goto (-25), 3) := by decide +kernel
theorem dX4_note_39 : decode cX4_note 39 = .ok (.aload_n 0, 1) := by decide +kernel
theorem dX4_note_40 : decode cX4_note 40 = .ok (.dup, 1) := by decide +kernel
theorem dX4_note_41 : decode cX4_note 41 = .ok (.getfield 146, 3) := by decide +kernel
theorem dX4_note_44 : decode cX4_note 44 = .ok (.iconst 1, 1) := by decide +kernel
theorem dX4_note_45 : decode cX4_note 45 = .ok (.isub, 1) := by decide +kernel
theorem dX4_note_46 : decode cX4_note 46 = .ok (.putfield 146, 3) := by decide +kernel
theorem dX4_note_49 : decode cX4_note 49 = .ok (.iconst 0, 1) := by decide +kernel
theorem dX4_note_50 : decode cX4_note 50 = .ok (.istore_n 1, 1) := by decide +kernel
theorem dX4_note_51 : decode cX4_note 51 = .ok (.iload_n 1, 1) := by decide +kernel
theorem dX4_note_52 : decode cX4_note 52 = .ok (.bipush 51, 2) := by decide +kernel
theorem dX4_note_54 : decode cX4_note 54 = .ok (.if_icmp .ge 29, 3) := by decide +kernel
theorem dX4_note_57 : decode cX4_note 57 = .ok (.aload_n 0, 1) := by decide +kernel
theorem dX4_note_58 : decode cX4_note 58 = .ok (.getfield 34, 3) := by decide +kernel
theorem dX4_note_61 : decode cX4_note 61 = .ok (.bipush 51, 2) := by decide +kernel
theorem dX4_note_63 : decode cX4_note 63 = .ok (.aload_n 0, 1) := by decide +kernel
theorem dX4_note_64 : decode cX4_note 64 = .ok (.getfield 146, 3) := by decide +kernel
theorem dX4_note_67 : decode cX4_note 67 = .ok (.imul, 1) := by decide +kernel
theorem dX4_note_68 : decode cX4_note 68 = .ok (.iload_n 1, 1) := by decide +kernel
theorem dX4_note_69 : decode cX4_note 69 = .ok (.iadd, 1) := by decide +kernel
theorem dX4_note_70 : decode cX4_note 70 = .ok (.aload_n 0, 1) := by decide +kernel
theorem dX4_note_71 : decode cX4_note 71 = .ok (.getfield 19, 3) := by decide +kernel
theorem dX4_note_74 : decode cX4_note 74 = .ok (.iload_n 1, 1) := by decide +kernel
theorem dX4_note_75 : decode cX4_note 75 = .ok (.iaload, 1) := by decide +kernel
theorem dX4_note_76 : decode cX4_note 76 = .ok (.iastore, 1) := by decide +kernel
theorem dX4_note_77 : decode cX4_note 77 = .ok (.iinc 1 1, 3) := by decide +kernel
theorem dX4_note_80 : decode cX4_note 80 = .ok (.goto (-29), 3) := by decide +kernel
theorem dX4_note_83 : decode cX4_note 83 = .ok (.aload_n 0, 1) := by decide +kernel
theorem dX4_note_84 : decode cX4_note 84 = .ok (.dup, 1) := by decide +kernel
theorem dX4_note_85 : decode cX4_note 85 = .ok (.getfield 146, 3) := by decide +kernel
theorem dX4_note_88 : decode cX4_note 88 = .ok (.iconst 1, 1) := by decide +kernel
theorem dX4_note_89 : decode cX4_note 89 = .ok (.iadd, 1) := by decide +kernel
theorem dX4_note_90 : decode cX4_note 90 = .ok (.putfield 146, 3) := by decide +kernel
theorem dX4_note_93 : decode cX4_note 93 = .ok (.return_, 1) := by decide +kernel
theorem dX4_bar_0 : decode cX4_bar 0 = .ok (.aload_n 0, 1) := by decide +kernel
theorem dX4_bar_1 : decode cX4_bar 1 = .ok (.getfield 142, 3) := by decide +kernel
theorem dX4_bar_4 : decode cX4_bar 4 = .ok (.ifCond .ne 6, 3) := by decide +kernel
theorem dX4_bar_7 : decode cX4_bar 7 = .ok (.ldc 157, 2) := by decide +kernel
theorem dX4_bar_9 : decode cX4_bar 9 = .ok (.ireturn, 1) := by decide +kernel
theorem dX4_bar_10 : decode cX4_bar 10 = .ok (.aload_n 0, 1) := by decide +kernel
theorem dX4_bar_11 : decode cX4_bar 11 = .ok (.getfield 31, 3) := by decide +kernel
theorem dX4_bar_14 : decode cX4_bar 14 = .ok (.iconst 0, 1) := by decide +kernel
theorem dX4_bar_15 : decode cX4_bar 15 = .ok (.iload_n 1, 1) := by decide +kernel
theorem dX4_bar_16 : decode cX4_bar 16 = .ok (.iastore, 1) := by decide +kernel
theorem dX4_bar_17 : decode cX4_bar 17 = .ok (.aload_n 0, 1) := by decide +kernel
theorem dX4_bar_18 : decode cX4_bar 18 = .ok (.getfield 31, 3) := by decide +kernel
theorem dX4_bar_21 : decode cX4_bar 21 = .ok (.iconst 1, 1) := by decide +kernel
theorem dX4_bar_22 : decode cX4_bar 22 = .ok (.iload_n 2, 1) := by decide +kernel
theorem dX4_bar_23 : decode cX4_bar 23 = .ok (.iastore, 1) := by decide +kernel
theorem dX4_bar_24 : decode cX4_bar 24 = .ok (.aload_n 0, 1) := by decide +kernel
theorem dX4_bar_25 : decode cX4_bar 25 = .ok (.getfield 31, 3) := by decide +kernel
theorem dX4_bar_28 : decode cX4_bar 28 = .ok (.iconst 2, 1) := by decide +kernel
theorem dX4_bar_29 : decode cX4_bar 29 = .ok (.iload_n 3, 1) := by decide +kernel
theorem dX4_bar_30 : decode cX4_bar 30 = .ok (.iastore, 1) := by decide +kernel
theorem dX4_bar_31 : decode cX4_bar 31 = .ok (.iconst 1, 1) := by decide +kernel
theorem dX4_bar_32 : decode cX4_bar 32 = .ok (.istore 4, 2) := by decide +kernel
theorem dX4_bar_34 : decode cX4_bar 34 = .ok (.iconst 0, 1) := by decide +kernel
theorem dX4_bar_35 : decode cX4_bar 35 = .ok (.istore 5, 2) := by decide +kernel
theorem dX4_bar_37 : decode cX4_bar 37 = .ok (.iload 5, 2) := by decide +kernel
theorem dX4_bar_39 : decode cX4_bar 39 = .ok (.iconst 3, 1) := by decide +kernel
theorem dX4_bar_40 : decode cX4_bar 40 = .ok (.if_icmp .ge 92, 3) := by decide +kernel
theorem dX4_bar_43 : decode cX4_bar 43 = .ok (.aload_n 0, 1) := by decide +kernel
theorem dX4_bar_44 : decode cX4_bar 44 = .ok (.getfield 31, 3) := by decide +kernel
theorem dX4_bar_47 : decode cX4_bar 47 = .ok (.iload 5, 2) := by decide +kernel
theorem dX4_bar_49 : decode cX4_bar 49 = .ok (.iaload, 1) := by decide +kernel
theorem dX4_bar_50 : decode cX4_bar 50 = .ok (.i2l, 1) := by decide +kernel
theorem dX4_bar_51 : decode cX4_bar 51 = .ok (.lconst 0, 1) := by decide +kernel
theorem dX4_bar_52 : decode cX4_bar 52 = .ok (.ldc2_w 58, 3) := by decide +kernel
theorem dX4_bar_55 : decode cX4_bar 55 = .ok (.invokestatic 60, 3) := by decide +kernel
theorem dX4_bar_58 : decode cX4_bar 58 = .ok (.ifCond .eq 26, 3) := by decide +kernel
theorem dX4_bar_61 : decode cX4_bar 61 = .ok (.iload 5, 2) := by decide +kernel
theorem dX4_bar_63 : decode cX4_bar 63 = .ok (.aload_n 0, 1) := by decide +kernel
theorem dX4_bar_64 : decode cX4_bar 64 = .ok (.getfield 19, 3) := by decide +kernel
theorem dX4_bar_67 : decode cX4_bar 67 = .ok (.iconst 1, 1) := by decide +kernel
theorem dX4_bar_68 : decode cX4_bar 68 = .ok (.iaload, 1) := by decide +kernel
theorem dX4_bar_69 : decode cX4_bar 69 = .ok (.if_icmp .lt 18, 3) := by decide +kernel
theorem dX4_bar_72 : decode cX4_bar 72 = .ok (.aload_n 0, 1) := by decide +kernel
theorem dX4_bar_73 : decode cX4_bar 73 = .ok (.getfield 31, 3) := by decide +kernel
theorem dX4_bar_76 : decode cX4_bar 76 = .ok (.iload 5, 2) := by decide +kernel
theorem dX4_bar_78 : decode cX4_bar 78 = .ok (.iaload, 1) := by decide +kernel
theorem dX4_bar_79 : decode cX4_bar 79 = .ok (.bipush 7, 2) := by decide +kernel
theorem dX4_bar_81 : decode cX4_bar 81 = .ok (.if_icmp .ge 6, 3) := by decide +kernel
theorem dX4_bar_84 : decode cX4_bar 84 = .ok (.ldc 70, 2) := by decide +kernel
theorem dX4_bar_86 : decode cX4_bar 86 = .ok (.ireturn, 1) := by decide +kernel
theorem dX4_bar_87 : decode cX4_bar 87 = .ok (.iload 4, 2) := by decide +kernel
theorem dX4_bar_89 : decode cX4_bar 89 = .ok (.ifCond .eq 34, 3) := by decide +kernel
theorem dX4_bar_92 : decode cX4_bar 92 = .ok (.iload 5, 2) := by decide +kernel
theorem dX4_bar_94 : decode cX4_bar 94 = .ok (.aload_n 0, 1) := by decide +kernel
theorem dX4_bar_95 : decode cX4_bar 95 = .ok (.getfield 19, 3) := by decide +kernel
theorem dX4_bar_98 : decode cX4_bar 98 = .ok (.iconst 1, 1) := by decide +kernel
theorem dX4_bar_99 : decode cX4_bar 99 = .ok (.iaload, 1) := by decide +kernel
theorem dX4_bar_100 : decode cX4_bar 100 = .ok (.if_icmp .ge 19, 3) := by decide +kernel
theorem dX4_bar_103 : decode cX4_bar 103 = .ok (.aload_n 0, 1) := by decide +kernel
theorem dX4_bar_104 : decode cX4_bar 104 = .ok (.iload 5, 2) := by decide +kernel
theorem dX4_bar_106 : decode cX4_bar 106 = .ok (.aload_n 0, 1) := by decide +kernel
theorem dX4_bar_107 : decode cX4_bar 107 = .ok (.getfield 31, 3) := by decide +kernel
theorem dX4_bar_110 : decode cX4_bar 110 = .ok (.iload 5, 2) := by decide +kernel
theorem dX4_bar_112 : decode cX4_bar 112 = .ok (.iaload, 1) := by decide +kernel
theorem dX4_bar_113 : decode cX4_bar 113 = .ok (.invokevirtual 158, 3) := by decide +kernel
theorem dX4_bar_116 : decode cX4_bar 116 = .ok (.ifCond .eq 7, 3) := by decide +kernel
theorem dX4_bar_119 : decode cX4_bar 119 = .ok (.iconst 1, 1) := by decide +kernel
theorem dX4_bar_120 : decode cX4_bar 120 = .ok (.goto 4, 3) := by decide +kernel
theorem dX4_bar_123 : decode cX4_bar 123 = .ok (.iconst 0, 1) := by decide +kernel
theorem dX4_bar_124 : decode cX4_bar 124 = .ok (.istore 4, 2) := by decide +kernel
theorem dX4_bar_126 : decode cX4_bar 126 = .ok (.iinc 5 1, 3) := by decide +kernel
theorem dX4_bar_129 : decode cX4_bar 129 = .ok (.goto (-92), 3) := by decide +kernel
theorem dX4_bar_132 : decode cX4_bar 132 = .ok (.iload 4, 2) := by decide +kernel
theorem dX4_bar_134 : decode cX4_bar 134 = .ok (.ifCond .ne 6, 3) := by decide +kernel
theorem dX4_bar_137 : decode cX4_bar 137 = .ok (.ldc 157, 2) := by decide +kernel
theorem dX4_bar_139 : decode cX4_bar 139 = .ok (.ireturn, 1) := by decide +kernel
theorem dX4_bar_140 : decode cX4_bar 140 = .ok (.aload_n 0, 1) := by decide +kernel
theorem dX4_bar_141 : decode cX4_bar 141 = .ok (.invokevirtual 161, 3) := by decide +kernel
theorem dX4_bar_144 : decode cX4_bar 144 = .ok (.aload_n 0, 1) := by decide +kernel
theorem dX4_bar_145 : decode cX4_bar 145 = .ok (.invokevirtual 164, 3) := by decide +kernel
theorem dX4_bar_148 : decode cX4_bar 148 = .ok (.aload_n 0, 1) := by decide +kernel
theorem dX4_bar_149 : decode cX4_bar 149 = .ok (.invokevirtual 167, 3) := by decide +kernel
theorem dX4_bar_152 : decode cX4_bar 152 = .ok (.ireturn, 1) := by decide +kernel
theorem dX4_window_0 : decode cX4_window 0 = .ok (.aload_n 0, 1) := by decide +kernel
theorem dX4_window_1 : decode cX4_window 1 = .ok (.iload_n 1, 1) := by decide +kernel
theorem dX4_window_2 : decode cX4_window 2 = .ok (.invokevirtual 171, 3) := by decide +kernel
theorem dX4_window_5 : decode cX4_window 5 = .ok (.ifCond .eq 21, 3) := by decide +kernel
theorem dX4_window_8 : decode cX4_window 8 = .ok (.aload_n 0, 1) := by decide +kernel
theorem dX4_window_9 : decode cX4_window 9 = .ok (.iload_n 2, 1) := by decide +kernel
theorem dX4_window_10 : decode cX4_window 10 = .ok (.invokevirtual 174, 3) := by decide +kernel
theorem dX4_window_13 : decode cX4_window 13 = .ok (.ifCond .eq 13, 3) := by decide +kernel
theorem dX4_window_16 : decode cX4_window 16 = .ok (.iload_n 3, 1) := by decide +kernel
theorem dX4_window_17 : decode cX4_window 17 = .ok (.i2l, 1) := by decide +kernel
theorem dX4_window_18 : decode cX4_window 18 = .ok (.lconst 0, 1) := by decide +kernel
theorem dX4_window_19 : decode cX4_window 19 = .ok (.lconst 1, 1) := by decide +kernel
theorem dX4_window_20 : decode cX4_window 20 = .ok (.invokestatic 60, 3) := by decide +kernel
theorem dX4_window_23 : decode cX4_window 23 = .ok (.ifCond .ne 6, 3) := by decide +kernel
theorem dX4_window_26 : decode cX4_window 26 = .ok (.ldc 70, 2) := by decide +kernel
theorem dX4_window_28 : decode cX4_window 28 = .ok (.ireturn, 1) := by decide +kernel
theorem dX4_window_29 : decode cX4_window 29 = .ok (.aload_n 0, 1) := by decide +kernel
theorem dX4_window_30 : decode cX4_window 30 = .ok (.getfield 19, 3) := by decide +kernel
theorem dX4_window_33 : decode cX4_window 33 = .ok (.bipush 31, 2) := by decide +kernel
theorem dX4_window_35 : decode cX4_window 35 = .ok (.iload_n 1, 1) := by decide +kernel
theorem dX4_window_36 : decode cX4_window 36 = .ok (.iadd, 1) := by decide +kernel
theorem dX4_window_37 : decode cX4_window 37 = .ok (.iaload, 1) := by decide +kernel
theorem dX4_window_38 : decode cX4_window 38 = .ok (.iload_n 2, 1) := by decide +kernel
theorem dX4_window_39 : decode cX4_window 39 = .ok (.ishr, 1) := by decide +kernel
theorem dX4_window_40 : decode cX4_window 40 = .ok (.iconst 1, 1) := by decide +kernel
theorem dX4_window_41 : decode cX4_window 41 = .ok (.iand, 1) := by decide +kernel
theorem dX4_window_42 : decode cX4_window 42 = .ok (.iload_n 3, 1) := by decide +kernel
theorem dX4_window_43 : decode cX4_window 43 = .ok (.if_icmp .ne 6, 3) := by decide +kernel
theorem dX4_window_46 : decode cX4_window 46 = .ok (.ldc 157, 2) := by decide +kernel
theorem dX4_window_48 : decode cX4_window 48 = .ok (.ireturn, 1) := by decide +kernel
theorem dX4_window_49 : decode cX4_window 49 = .ok (.aload_n 0, 1) := by decide +kernel
theorem dX4_window_50 : decode cX4_window 50 = .ok (.invokevirtual 161, 3) := by decide +kernel
theorem dX4_window_53 : decode cX4_window 53 = .ok (.aload_n 0, 1) := by decide +kernel
theorem dX4_window_54 : decode cX4_window 54 = .ok (.getfield 19, 3) := by decide +kernel
theorem dX4_window_57 : decode cX4_window 57 = .ok (.bipush 31, 2) := by decide +kernel
theorem dX4_window_59 : decode cX4_window 59 = .ok (.iload_n 1, 1) := by decide +kernel
theorem dX4_window_60 : decode cX4_window 60 = .ok (.iadd, 1) := by decide +kernel
theorem dX4_window_61 : decode cX4_window 61 = .ok (.dup2, 1) := by decide +kernel
theorem dX4_window_62 : decode cX4_window 62 = .ok (.iaload, 1) := by decide +kernel
theorem dX4_window_63 : decode cX4_window 63 = .ok (.iconst 1, 1) := by decide +kernel
theorem dX4_window_64 : decode cX4_window 64 = .ok (.iload_n 2, 1) := by decide +kernel
theorem dX4_window_65 : decode cX4_window 65 = .ok (.ishl, 1) := by decide +kernel
theorem dX4_window_66 : decode cX4_window 66 = .ok (.ixor, 1) := by decide +kernel
theorem dX4_window_67 : decode cX4_window 67 = .ok (.iastore, 1) := by decide +kernel
theorem dX4_window_68 : decode cX4_window 68 = .ok (.iconst 1, 1) := by decide +kernel
theorem dX4_window_69 : decode cX4_window 69 = .ok (.ireturn, 1) := by decide +kernel
theorem dX4_undo_0 : decode cX4_undo 0 = .ok (.aload_n 0, 1) := by decide +kernel
theorem dX4_undo_1 : decode cX4_undo 1 = .ok (.getfield 146, 3) := by decide +kernel
theorem dX4_undo_4 : decode cX4_undo 4 = .ok (.ifCond .ne 6, 3) := by decide +kernel
theorem dX4_undo_7 : decode cX4_undo 7 = .ok (.ldc 157, 2) := by decide +kernel
theorem dX4_undo_9 : decode cX4_undo 9 = .ok (.ireturn, 1) := by decide +kernel
theorem dX4_undo_10 : decode cX4_undo 10 = .ok (.aload_n 0, 1) := by decide +kernel
theorem dX4_undo_11 : decode cX4_undo 11 = .ok (.dup, 1) := by decide +kernel
theorem dX4_undo_12 : decode cX4_undo 12 = .ok (.getfield 146, 3) := by decide +kernel
theorem dX4_undo_15 : decode cX4_undo 15 = .ok (.iconst 1, 1) := by decide +kernel
theorem dX4_undo_16 : decode cX4_undo 16 = .ok (.isub, 1) := by decide +kernel
theorem dX4_undo_17 : decode cX4_undo 17 = .ok (.putfield 146, 3) := by decide +kernel
theorem dX4_undo_20 : decode cX4_undo 20 = .ok (.iconst 0, 1) := by decide +kernel
theorem dX4_undo_21 : decode cX4_undo 21 = .ok (.istore_n 1, 1) := by decide +kernel
theorem dX4_undo_22 : decode cX4_undo 22 = .ok (.iload_n 1, 1) := by decide +kernel
theorem dX4_undo_23 : decode cX4_undo 23 = .ok (.bipush 51, 2) := by decide +kernel
theorem dX4_undo_25 : decode cX4_undo 25 = .ok (.if_icmp .ge 29, 3) := by decide +kernel
theorem dX4_undo_28 : decode cX4_undo 28 = .ok (.aload_n 0, 1) := by decide +kernel
theorem dX4_undo_29 : decode cX4_undo 29 = .ok (.getfield 19, 3) := by decide +kernel
theorem dX4_undo_32 : decode cX4_undo 32 = .ok (.iload_n 1, 1) := by decide +kernel
theorem dX4_undo_33 : decode cX4_undo 33 = .ok (.aload_n 0, 1) := by decide +kernel
theorem dX4_undo_34 : decode cX4_undo 34 = .ok (.getfield 34, 3) := by decide +kernel
theorem dX4_undo_37 : decode cX4_undo 37 = .ok (.bipush 51, 2) := by decide +kernel
theorem dX4_undo_39 : decode cX4_undo 39 = .ok (.aload_n 0, 1) := by decide +kernel
theorem dX4_undo_40 : decode cX4_undo 40 = .ok (.getfield 146, 3) := by decide +kernel
theorem dX4_undo_43 : decode cX4_undo 43 = .ok (.imul, 1) := by decide +kernel
theorem dX4_undo_44 : decode cX4_undo 44 = .ok (.iload_n 1, 1) := by decide +kernel
theorem dX4_undo_45 : decode cX4_undo 45 = .ok (.iadd, 1) := by decide +kernel
theorem dX4_undo_46 : decode cX4_undo 46 = .ok (.iaload, 1) := by decide +kernel
theorem dX4_undo_47 : decode cX4_undo 47 = .ok (.iastore, 1) := by decide +kernel
theorem dX4_undo_48 : decode cX4_undo 48 = .ok (.iinc 1 1, 3) := by decide +kernel
theorem dX4_undo_51 : decode cX4_undo 51 = .ok (.goto (-29), 3) := by decide +kernel
theorem dX4_undo_54 : decode cX4_undo 54 = .ok (.aload_n 0, 1) := by decide +kernel
theorem dX4_undo_55 : decode cX4_undo 55 = .ok (.getfield 146, 3) := by decide +kernel
theorem dX4_undo_58 : decode cX4_undo 58 = .ok (.ireturn, 1) := by decide +kernel
theorem dX4_pan_0 : decode cX4_pan 0 = .ok (.aload_n 0, 1) := by decide +kernel
theorem dX4_pan_1 : decode cX4_pan 1 = .ok (.iload_n 1, 1) := by decide +kernel
theorem dX4_pan_2 : decode cX4_pan 2 = .ok (.invokevirtual 171, 3) := by decide +kernel
theorem dX4_pan_5 : decode cX4_pan 5 = .ok (.ifCond .ne 6, 3) := by decide +kernel
theorem dX4_pan_8 : decode cX4_pan 8 = .ok (.ldc 70, 2) := by decide +kernel
theorem dX4_pan_10 : decode cX4_pan 10 = .ok (.ireturn, 1) := by decide +kernel
theorem dX4_pan_11 : decode cX4_pan 11 = .ok (.iload_n 2, 1) := by decide +kernel
theorem dX4_pan_12 : decode cX4_pan 12 = .ok (.tableswitch 100 0 5 #[40, 50, 60, 70, 80, 90], 40) := by decide +kernel
theorem dX4_pan_52 : decode cX4_pan 52 = .ok (.aload_n 0, 1) := by decide +kernel
theorem dX4_pan_53 : decode cX4_pan 53 = .ok (.getfield 19, 3) := by decide +kernel
theorem dX4_pan_56 : decode cX4_pan 56 = .ok (.bipush 21, 2) := by decide +kernel
theorem dX4_pan_58 : decode cX4_pan 58 = .ok (.iload_n 1, 1) := by decide +kernel
theorem dX4_pan_59 : decode cX4_pan 59 = .ok (.iadd, 1) := by decide +kernel
theorem dX4_pan_60 : decode cX4_pan 60 = .ok (.iaload, 1) := by decide +kernel
theorem dX4_pan_61 : decode cX4_pan 61 = .ok (.ireturn, 1) := by decide +kernel
theorem dX4_pan_62 : decode cX4_pan 62 = .ok (.aload_n 0, 1) := by decide +kernel
theorem dX4_pan_63 : decode cX4_pan 63 = .ok (.getfield 19, 3) := by decide +kernel
theorem dX4_pan_66 : decode cX4_pan 66 = .ok (.bipush 26, 2) := by decide +kernel
theorem dX4_pan_68 : decode cX4_pan 68 = .ok (.iload_n 1, 1) := by decide +kernel
theorem dX4_pan_69 : decode cX4_pan 69 = .ok (.iadd, 1) := by decide +kernel
theorem dX4_pan_70 : decode cX4_pan 70 = .ok (.iaload, 1) := by decide +kernel
theorem dX4_pan_71 : decode cX4_pan 71 = .ok (.ireturn, 1) := by decide +kernel
theorem dX4_pan_72 : decode cX4_pan 72 = .ok (.aload_n 0, 1) := by decide +kernel
theorem dX4_pan_73 : decode cX4_pan 73 = .ok (.getfield 19, 3) := by decide +kernel
theorem dX4_pan_76 : decode cX4_pan 76 = .ok (.bipush 31, 2) := by decide +kernel
theorem dX4_pan_78 : decode cX4_pan 78 = .ok (.iload_n 1, 1) := by decide +kernel
theorem dX4_pan_79 : decode cX4_pan 79 = .ok (.iadd, 1) := by decide +kernel
theorem dX4_pan_80 : decode cX4_pan 80 = .ok (.iaload, 1) := by decide +kernel
theorem dX4_pan_81 : decode cX4_pan 81 = .ok (.ireturn, 1) := by decide +kernel
theorem dX4_pan_82 : decode cX4_pan 82 = .ok (.aload_n 0, 1) := by decide +kernel
theorem dX4_pan_83 : decode cX4_pan 83 = .ok (.getfield 19, 3) := by decide +kernel
theorem dX4_pan_86 : decode cX4_pan 86 = .ok (.bipush 36, 2) := by decide +kernel
theorem dX4_pan_88 : decode cX4_pan 88 = .ok (.iload_n 1, 1) := by decide +kernel
theorem dX4_pan_89 : decode cX4_pan 89 = .ok (.iadd, 1) := by decide +kernel
theorem dX4_pan_90 : decode cX4_pan 90 = .ok (.iaload, 1) := by decide +kernel
theorem dX4_pan_91 : decode cX4_pan 91 = .ok (.ireturn, 1) := by decide +kernel
theorem dX4_pan_92 : decode cX4_pan 92 = .ok (.aload_n 0, 1) := by decide +kernel
theorem dX4_pan_93 : decode cX4_pan 93 = .ok (.getfield 19, 3) := by decide +kernel
theorem dX4_pan_96 : decode cX4_pan 96 = .ok (.bipush 41, 2) := by decide +kernel
theorem dX4_pan_98 : decode cX4_pan 98 = .ok (.iload_n 1, 1) := by decide +kernel
theorem dX4_pan_99 : decode cX4_pan 99 = .ok (.iadd, 1) := by decide +kernel
theorem dX4_pan_100 : decode cX4_pan 100 = .ok (.iaload, 1) := by decide +kernel
theorem dX4_pan_101 : decode cX4_pan 101 = .ok (.ireturn, 1) := by decide +kernel
theorem dX4_pan_102 : decode cX4_pan 102 = .ok (.aload_n 0, 1) := by decide +kernel
theorem dX4_pan_103 : decode cX4_pan 103 = .ok (.getfield 19, 3) := by decide +kernel
theorem dX4_pan_106 : decode cX4_pan 106 = .ok (.bipush 46, 2) := by decide +kernel
theorem dX4_pan_108 : decode cX4_pan 108 = .ok (.iload_n 1, 1) := by decide +kernel
theorem dX4_pan_109 : decode cX4_pan 109 = .ok (.iadd, 1) := by decide +kernel
theorem dX4_pan_110 : decode cX4_pan 110 = .ok (.iaload, 1) := by decide +kernel
theorem dX4_pan_111 : decode cX4_pan 111 = .ok (.ireturn, 1) := by decide +kernel
theorem dX4_pan_112 : decode cX4_pan 112 = .ok (.ldc 70, 2) := by decide +kernel
theorem dX4_pan_114 : decode cX4_pan 114 = .ok (.ireturn, 1) := by decide +kernel
theorem dX4_singer_0 : decode cX4_singer 0 = .ok (.aload_n 0, 1) := by decide +kernel
theorem dX4_singer_1 : decode cX4_singer 1 = .ok (.iload_n 1, 1) := by decide +kernel
theorem dX4_singer_2 : decode cX4_singer 2 = .ok (.invokevirtual 174, 3) := by decide +kernel
theorem dX4_singer_5 : decode cX4_singer 5 = .ok (.ifCond .ne 6, 3) := by decide +kernel
theorem dX4_singer_8 : decode cX4_singer 8 = .ok (.ldc 70, 2) := by decide +kernel
theorem dX4_singer_10 : decode cX4_singer 10 = .ok (.ireturn, 1) := by decide +kernel
theorem dX4_singer_11 : decode cX4_singer 11 = .ok (.iload_n 2, 1) := by decide +kernel
theorem dX4_singer_12 : decode cX4_singer 12 = .ok (.tableswitch 71 0 3 #[32, 41, 51, 61], 32) := by decide +kernel
theorem dX4_singer_44 : decode cX4_singer 44 = .ok (.aload_n 0, 1) := by decide +kernel
theorem dX4_singer_45 : decode cX4_singer 45 = .ok (.getfield 19, 3) := by decide +kernel
theorem dX4_singer_48 : decode cX4_singer 48 = .ok (.iconst 4, 1) := by decide +kernel
theorem dX4_singer_49 : decode cX4_singer 49 = .ok (.iload_n 1, 1) := by decide +kernel
theorem dX4_singer_50 : decode cX4_singer 50 = .ok (.iadd, 1) := by decide +kernel
theorem dX4_singer_51 : decode cX4_singer 51 = .ok (.iaload, 1) := by decide +kernel
theorem dX4_singer_52 : decode cX4_singer 52 = .ok (.ireturn, 1) := by decide +kernel
theorem dX4_singer_53 : decode cX4_singer 53 = .ok (.aload_n 0, 1) := by decide +kernel
theorem dX4_singer_54 : decode cX4_singer 54 = .ok (.getfield 19, 3) := by decide +kernel
theorem dX4_singer_57 : decode cX4_singer 57 = .ok (.bipush 7, 2) := by decide +kernel
theorem dX4_singer_59 : decode cX4_singer 59 = .ok (.iload_n 1, 1) := by decide +kernel
theorem dX4_singer_60 : decode cX4_singer 60 = .ok (.iadd, 1) := by decide +kernel
theorem dX4_singer_61 : decode cX4_singer 61 = .ok (.iaload, 1) := by decide +kernel
theorem dX4_singer_62 : decode cX4_singer 62 = .ok (.ireturn, 1) := by decide +kernel
theorem dX4_singer_63 : decode cX4_singer 63 = .ok (.aload_n 0, 1) := by decide +kernel
theorem dX4_singer_64 : decode cX4_singer 64 = .ok (.getfield 19, 3) := by decide +kernel
theorem dX4_singer_67 : decode cX4_singer 67 = .ok (.bipush 10, 2) := by decide +kernel
theorem dX4_singer_69 : decode cX4_singer 69 = .ok (.iload_n 1, 1) := by decide +kernel
theorem dX4_singer_70 : decode cX4_singer 70 = .ok (.iadd, 1) := by decide +kernel
theorem dX4_singer_71 : decode cX4_singer 71 = .ok (.iaload, 1) := by decide +kernel
theorem dX4_singer_72 : decode cX4_singer 72 = .ok (.ireturn, 1) := by decide +kernel
theorem dX4_singer_73 : decode cX4_singer 73 = .ok (.aload_n 0, 1) := by decide +kernel
theorem dX4_singer_74 : decode cX4_singer 74 = .ok (.getfield 19, 3) := by decide +kernel
theorem dX4_singer_77 : decode cX4_singer 77 = .ok (.bipush 13, 2) := by decide +kernel
theorem dX4_singer_79 : decode cX4_singer 79 = .ok (.iload_n 1, 1) := by decide +kernel
theorem dX4_singer_80 : decode cX4_singer 80 = .ok (.iadd, 1) := by decide +kernel
theorem dX4_singer_81 : decode cX4_singer 81 = .ok (.iaload, 1) := by decide +kernel
theorem dX4_singer_82 : decode cX4_singer 82 = .ok (.ireturn, 1) := by decide +kernel
theorem dX4_singer_83 : decode cX4_singer 83 = .ok (.ldc 70, 2) := by decide +kernel
theorem dX4_singer_85 : decode cX4_singer 85 = .ok (.ireturn, 1) := by decide +kernel
theorem dX4_putAside_0 : decode cX4_putAside 0 = .ok (.iconst 0, 1) := by decide +kernel
theorem dX4_putAside_1 : decode cX4_putAside 1 = .ok (.istore_n 1, 1) := by decide +kernel
theorem dX4_putAside_2 : decode cX4_putAside 2 = .ok (.iload_n 1, 1) := by decide +kernel
theorem dX4_putAside_3 : decode cX4_putAside 3 = .ok (.bipush 51, 2) := by decide +kernel
theorem dX4_putAside_5 : decode cX4_putAside 5 = .ok (.if_icmp .ge 21, 3) := by decide +kernel
theorem dX4_putAside_8 : decode cX4_putAside 8 = .ok (.aload_n 0, 1) := by decide +kernel
theorem dX4_putAside_9 : decode cX4_putAside 9 = .ok (.getfield 37, 3) := by decide +kernel
theorem dX4_putAside_12 : decode cX4_putAside 12 = .ok (.iload_n 1, 1) := by decide +kernel
theorem dX4_putAside_13 : decode cX4_putAside 13 = .ok (.aload_n 0, 1) := by decide +kernel
theorem dX4_putAside_14 : decode cX4_putAside 14 = .ok (.getfield 19, 3) := by decide +kernel
theorem dX4_putAside_17 : decode cX4_putAside 17 = .ok (.iload_n 1, 1) := by decide +kernel
theorem dX4_putAside_18 : decode cX4_putAside 18 = .ok (.iaload, 1) := by decide +kernel
theorem dX4_putAside_19 : decode cX4_putAside 19 = .ok (.iastore, 1) := by decide +kernel
theorem dX4_putAside_20 : decode cX4_putAside 20 = .ok (.iinc 1 1, 3) := by decide +kernel
theorem dX4_putAside_23 : decode cX4_putAside 23 = .ok (.goto (-21), 3) := by decide +kernel
theorem dX4_putAside_26 : decode cX4_putAside 26 = .ok (.return_, 1) := by decide +kernel
theorem dX4_takeBack_0 : decode cX4_takeBack 0 = .ok (.iconst 0, 1) := by decide +kernel
theorem dX4_takeBack_1 : decode cX4_takeBack 1 = .ok (.istore_n 1, 1) := by decide +kernel
theorem dX4_takeBack_2 : decode cX4_takeBack 2 = .ok (.iload_n 1, 1) := by decide +kernel
theorem dX4_takeBack_3 : decode cX4_takeBack 3 = .ok (.bipush 51, 2) := by decide +kernel
theorem dX4_takeBack_5 : decode cX4_takeBack 5 = .ok (.if_icmp .ge 21, 3) := by decide +kernel
theorem dX4_takeBack_8 : decode cX4_takeBack 8 = .ok (.aload_n 0, 1) := by decide +kernel
theorem dX4_takeBack_9 : decode cX4_takeBack 9 = .ok (.getfield 19, 3) := by decide +kernel
theorem dX4_takeBack_12 : decode cX4_takeBack 12 = .ok (.iload_n 1, 1) := by decide +kernel
theorem dX4_takeBack_13 : decode cX4_takeBack 13 = .ok (.aload_n 0, 1) := by decide +kernel
theorem dX4_takeBack_14 : decode cX4_takeBack 14 = .ok (.getfield 37, 3) := by decide +kernel
theorem dX4_takeBack_17 : decode cX4_takeBack 17 = .ok (.iload_n 1, 1) := by decide +kernel
theorem dX4_takeBack_18 : decode cX4_takeBack 18 = .ok (.iaload, 1) := by decide +kernel
theorem dX4_takeBack_19 : decode cX4_takeBack 19 = .ok (.iastore, 1) := by decide +kernel
theorem dX4_takeBack_20 : decode cX4_takeBack 20 = .ok (.iinc 1 1, 3) := by decide +kernel
theorem dX4_takeBack_23 : decode cX4_takeBack 23 = .ok (.goto (-21), 3) := by decide +kernel
theorem dX4_takeBack_26 : decode cX4_takeBack 26 = .ok (.return_, 1) := by decide +kernel
theorem dX4_allRest_0 : decode cX4_allRest 0 = .ok (.iconst 0, 1) := by decide +kernel
theorem dX4_allRest_1 : decode cX4_allRest 1 = .ok (.istore_n 1, 1) := by decide +kernel
theorem dX4_allRest_2 : decode cX4_allRest 2 = .ok (.iload_n 1, 1) := by decide +kernel
theorem dX4_allRest_3 : decode cX4_allRest 3 = .ok (.iconst 3, 1) := by decide +kernel
theorem dX4_allRest_4 : decode cX4_allRest 4 = .ok (.if_icmp .ge 17, 3) := by decide +kernel
theorem dX4_allRest_7 : decode cX4_allRest 7 = .ok (.aload_n 0, 1) := by decide +kernel
theorem dX4_allRest_8 : decode cX4_allRest 8 = .ok (.getfield 31, 3) := by decide +kernel
theorem dX4_allRest_11 : decode cX4_allRest 11 = .ok (.iload_n 1, 1) := by decide +kernel
theorem dX4_allRest_12 : decode cX4_allRest 12 = .ok (.bipush 7, 2) := by decide +kernel
theorem dX4_allRest_14 : decode cX4_allRest 14 = .ok (.iastore, 1) := by decide +kernel
theorem dX4_allRest_15 : decode cX4_allRest 15 = .ok (.iinc 1 1, 3) := by decide +kernel
theorem dX4_allRest_18 : decode cX4_allRest 18 = .ok (.goto (-16), 3) := by decide +kernel
theorem dX4_allRest_21 : decode cX4_allRest 21 = .ok (.return_, 1) := by decide +kernel
theorem dX4_lacks_0 : decode cX4_lacks 0 = .ok (.aload_n 0, 1) := by decide +kernel
theorem dX4_lacks_1 : decode cX4_lacks 1 = .ok (.getfield 13, 3) := by decide +kernel
theorem dX4_lacks_4 : decode cX4_lacks 4 = .ok (.iload_n 1, 1) := by decide +kernel
theorem dX4_lacks_5 : decode cX4_lacks 5 = .ok (.iaload, 1) := by decide +kernel
theorem dX4_lacks_6 : decode cX4_lacks 6 = .ok (.ifCond .ge 9, 3) := by decide +kernel
theorem dX4_lacks_9 : decode cX4_lacks 9 = .ok (.aload_n 0, 1) := by decide +kernel
theorem dX4_lacks_10 : decode cX4_lacks 10 = .ok (.iconst 1, 1) := by decide +kernel
theorem dX4_lacks_11 : decode cX4_lacks 11 = .ok (.invokevirtual 71, 3) := by decide +kernel
theorem dX4_lacks_14 : decode cX4_lacks 14 = .ok (.ireturn, 1) := by decide +kernel
theorem dX4_lacks_15 : decode cX4_lacks 15 = .ok (.iload_n 2, 1) := by decide +kernel
theorem dX4_lacks_16 : decode cX4_lacks 16 = .ok (.i2l, 1) := by decide +kernel
theorem dX4_lacks_17 : decode cX4_lacks 17 = .ok (.lconst 0, 1) := by decide +kernel
theorem dX4_lacks_18 : decode cX4_lacks 18 = .ok (.aload_n 0, 1) := by decide +kernel
theorem dX4_lacks_19 : decode cX4_lacks 19 = .ok (.getfield 13, 3) := by decide +kernel
theorem dX4_lacks_22 : decode cX4_lacks 22 = .ok (.iload_n 1, 1) := by decide +kernel
theorem dX4_lacks_23 : decode cX4_lacks 23 = .ok (.iaload, 1) := by decide +kernel
theorem dX4_lacks_24 : decode cX4_lacks 24 = .ok (.iload_n 3, 1) := by decide +kernel
theorem dX4_lacks_25 : decode cX4_lacks 25 = .ok (.isub, 1) := by decide +kernel
theorem dX4_lacks_26 : decode cX4_lacks 26 = .ok (.i2l, 1) := by decide +kernel
theorem dX4_lacks_27 : decode cX4_lacks 27 = .ok (.invokestatic 60, 3) := by decide +kernel
theorem dX4_lacks_30 : decode cX4_lacks 30 = .ok (.ifCond .ne 9, 3) := by decide +kernel
theorem dX4_lacks_33 : decode cX4_lacks 33 = .ok (.aload_n 0, 1) := by decide +kernel
theorem dX4_lacks_34 : decode cX4_lacks 34 = .ok (.iconst 2, 1) := by decide +kernel
theorem dX4_lacks_35 : decode cX4_lacks 35 = .ok (.invokevirtual 71, 3) := by decide +kernel
theorem dX4_lacks_38 : decode cX4_lacks 38 = .ok (.ireturn, 1) := by decide +kernel
theorem dX4_lacks_39 : decode cX4_lacks 39 = .ok (.iconst 1, 1) := by decide +kernel
theorem dX4_lacks_40 : decode cX4_lacks 40 = .ok (.istore 4, 2) := by decide +kernel
theorem dX4_lacks_42 : decode cX4_lacks 42 = .ok (.iconst 0, 1) := by decide +kernel
theorem dX4_lacks_43 : decode cX4_lacks 43 = .ok (.istore 5, 2) := by decide +kernel
theorem dX4_lacks_45 : decode cX4_lacks 45 = .ok (.iload 5, 2) := by decide +kernel
theorem dX4_lacks_47 : decode cX4_lacks 47 = .ok (.iload_n 3, 1) := by decide +kernel
theorem dX4_lacks_48 : decode cX4_lacks 48 = .ok (.if_icmp .ge 46, 3) := by decide +kernel
theorem dX4_lacks_51 : decode cX4_lacks 51 = .ok (.iload 4, 2) := by decide +kernel
theorem dX4_lacks_53 : decode cX4_lacks 53 = .ok (.ifCond .eq 32, 3) := by decide +kernel
theorem dX4_lacks_56 : decode cX4_lacks 56 = .ok (.aload_n 0, 1) := by decide +kernel
theorem dX4_lacks_57 : decode cX4_lacks 57 = .ok (.getfield 16, 3) := by decide +kernel
theorem dX4_lacks_60 : decode cX4_lacks 60 = .ok (.bipush 40, 2) := by decide +kernel
theorem dX4_lacks_62 : decode cX4_lacks 62 = .ok (.iload_n 1, 1) := by decide +kernel
theorem dX4_lacks_63 : decode cX4_lacks 63 = .ok (.imul, 1) := by decide +kernel
theorem dX4_lacks_64 : decode cX4_lacks 64 = .ok (.iload_n 2, 1) := by decide +kernel
theorem dX4_lacks_65 : decode cX4_lacks 65 = .ok (.iadd, 1) := by decide +kernel
theorem dX4_lacks_66 : decode cX4_lacks 66 = .ok (.iload 5, 2) := by decide +kernel
theorem dX4_lacks_68 : decode cX4_lacks 68 = .ok (.iadd, 1) := by decide +kernel
theorem dX4_lacks_69 : decode cX4_lacks 69 = .ok (.iaload, 1) := by decide +kernel
theorem dX4_lacks_70 : decode cX4_lacks 70 = .ok (.i2l, 1) := by decide +kernel
theorem dX4_lacks_71 : decode cX4_lacks 71 = .ok (.lconst 0, 1) := by decide +kernel
theorem dX4_lacks_72 : decode cX4_lacks 72 = .ok (.ldc2_w 58, 3) := by decide +kernel
theorem dX4_lacks_75 : decode cX4_lacks 75 = .ok (.invokestatic 60, 3) := by decide +kernel
theorem dX4_lacks_78 : decode cX4_lacks 78 = .ok (.ifCond .eq 7, 3) := by decide +kernel
theorem dX4_lacks_81 : decode cX4_lacks 81 = .ok (.iconst 1, 1) := by decide +kernel
theorem dX4_lacks_82 : decode cX4_lacks 82 = .ok (.goto 4, 3) := by decide +kernel
theorem dX4_lacks_85 : decode cX4_lacks 85 = .ok (.iconst 0, 1) := by decide +kernel
theorem dX4_lacks_86 : decode cX4_lacks 86 = .ok (.istore 4, 2) := by decide +kernel
theorem dX4_lacks_88 : decode cX4_lacks 88 = .ok (.iinc 5 1, 3) := by decide +kernel
theorem dX4_lacks_91 : decode cX4_lacks 91 = .ok (.goto (-46), 3) := by decide +kernel
theorem dX4_lacks_94 : decode cX4_lacks 94 = .ok (.iload 4, 2) := by decide +kernel
theorem dX4_lacks_96 : decode cX4_lacks 96 = .ok (.ifCond .eq 7, 3) := by decide +kernel
theorem dX4_lacks_99 : decode cX4_lacks 99 = .ok (.iconst 0, 1) := by decide +kernel
theorem dX4_lacks_100 : decode cX4_lacks 100 = .ok (.goto 5, 3) := by decide +kernel
theorem dX4_lacks_103 : decode cX4_lacks 103 = .ok (.ldc 70, 2) := by decide +kernel
theorem dX4_lacks_105 : decode cX4_lacks 105 = .ok (.ireturn, 1) := by decide +kernel
theorem dX4_singAlone_0 : decode cX4_singAlone 0 = .ok (.iconst 0, 1) := by decide +kernel
theorem dX4_singAlone_1 : decode cX4_singAlone 1 = .ok (.istore 5, 2) := by decide +kernel
theorem dX4_singAlone_3 : decode cX4_singAlone 3 = .ok (.iload 5, 2) := by decide +kernel
theorem dX4_singAlone_5 : decode cX4_singAlone 5 = .ok (.iload_n 3, 1) := by decide +kernel
theorem dX4_singAlone_6 : decode cX4_singAlone 6 = .ok (.if_icmp .ge 61, 3) := by decide +kernel
theorem dX4_singAlone_9 : decode cX4_singAlone 9 = .ok (.aload_n 0, 1) := by decide +kernel
theorem dX4_singAlone_10 : decode cX4_singAlone 10 = .ok (.invokevirtual 177, 3) := by decide +kernel
theorem dX4_singAlone_13 : decode cX4_singAlone 13 = .ok (.aload_n 0, 1) := by decide +kernel
theorem dX4_singAlone_14 : decode cX4_singAlone 14 = .ok (.getfield 16, 3) := by decide +kernel
theorem dX4_singAlone_17 : decode cX4_singAlone 17 = .ok (.iload_n 2, 1) := by decide +kernel
theorem dX4_singAlone_18 : decode cX4_singAlone 18 = .ok (.iload 5, 2) := by decide +kernel
theorem dX4_singAlone_20 : decode cX4_singAlone 20 = .ok (.iadd, 1) := by decide +kernel
theorem dX4_singAlone_21 : decode cX4_singAlone 21 = .ok (.iaload, 1) := by decide +kernel
theorem dX4_singAlone_22 : decode cX4_singAlone 22 = .ok (.istore 6, 2) := by decide +kernel
theorem dX4_singAlone_24 : decode cX4_singAlone 24 = .ok (.aload_n 0, 1) := by decide +kernel
theorem dX4_singAlone_25 : decode cX4_singAlone 25 = .ok (.getfield 31, 3) := by decide +kernel
theorem dX4_singAlone_28 : decode cX4_singAlone 28 = .ok (.iload_n 1, 1) := by decide +kernel
theorem dX4_singAlone_29 : decode cX4_singAlone 29 = .ok (.iload 4, 2) := by decide +kernel
theorem dX4_singAlone_31 : decode cX4_singAlone 31 = .ok (.iload 5, 2) := by decide +kernel
theorem dX4_singAlone_33 : decode cX4_singAlone 33 = .ok (.invokestatic 149, 3) := by decide +kernel
theorem dX4_singAlone_36 : decode cX4_singAlone 36 = .ok (.ifCond .ne 13, 3) := by decide +kernel
theorem dX4_singAlone_39 : decode cX4_singAlone 39 = .ok (.aload_n 0, 1) := by decide +kernel
theorem dX4_singAlone_40 : decode cX4_singAlone 40 = .ok (.iload_n 1, 1) := by decide +kernel
theorem dX4_singAlone_41 : decode cX4_singAlone 41 = .ok (.iload 6, 2) := by decide +kernel
theorem dX4_singAlone_43 : decode cX4_singAlone 43 = .ok (.invokevirtual 158, 3) := by decide +kernel
theorem dX4_singAlone_46 : decode cX4_singAlone 46 = .ok (.ifCond .ne 8, 3) := by decide +kernel
theorem dX4_singAlone_49 : decode cX4_singAlone 49 = .ok (.bipush 7, 2) := by decide +kernel
theorem dX4_singAlone_51 : decode cX4_singAlone 51 = .ok (.goto 5, 3) := by decide +kernel
theorem dX4_singAlone_54 : decode cX4_singAlone 54 = .ok (.iload 6, 2) := by decide +kernel
theorem dX4_singAlone_56 : decode cX4_singAlone 56 = .ok (.iastore, 1) := by decide +kernel
theorem dX4_singAlone_57 : decode cX4_singAlone 57 = .ok (.aload_n 0, 1) := by decide +kernel
theorem dX4_singAlone_58 : decode cX4_singAlone 58 = .ok (.invokevirtual 164, 3) := by decide +kernel
theorem dX4_singAlone_61 : decode cX4_singAlone 61 = .ok (.iinc 5 1, 3) := by decide +kernel
theorem dX4_singAlone_64 : decode cX4_singAlone 64 = .ok (.goto (-61), 3) := by decide +kernel
theorem dX4_singAlone_67 : decode cX4_singAlone 67 = .ok (.return_, 1) := by decide +kernel
theorem dX4_singRound_0 : decode cX4_singRound 0 = .ok (.aload_n 0, 1) := by decide +kernel
theorem dX4_singRound_1 : decode cX4_singRound 1 = .ok (.getfield 19, 3) := by decide +kernel
theorem dX4_singRound_4 : decode cX4_singRound 4 = .ok (.iconst 1, 1) := by decide +kernel
theorem dX4_singRound_5 : decode cX4_singRound 5 = .ok (.iaload, 1) := by decide +kernel
theorem dX4_singRound_6 : decode cX4_singRound 6 = .ok (.ifCond .ne 7, 3) := by decide +kernel
theorem dX4_singRound_9 : decode cX4_singRound 9 = .ok (.iconst 0, 1) := by decide +kernel
theorem dX4_singRound_10 : decode cX4_singRound 10 = .ok (.goto 13, 3) := by decide +kernel
theorem dX4_singRound_13 : decode cX4_singRound 13 = .ok (.iload_n 1, 1) := by decide +kernel
theorem dX4_singRound_14 : decode cX4_singRound 14 = .ok (.aload_n 0, 1) := by decide +kernel
theorem dX4_singRound_15 : decode cX4_singRound 15 = .ok (.getfield 19, 3) := by decide +kernel
theorem dX4_singRound_18 : decode cX4_singRound 18 = .ok (.iconst 1, 1) := by decide +kernel
theorem dX4_singRound_19 : decode cX4_singRound 19 = .ok (.iaload, 1) := by decide +kernel
theorem dX4_singRound_20 : decode cX4_singRound 20 = .ok (.iconst 1, 1) := by decide +kernel
theorem dX4_singRound_21 : decode cX4_singRound 21 = .ok (.isub, 1) := by decide +kernel
theorem dX4_singRound_22 : decode cX4_singRound 22 = .ok (.imul, 1) := by decide +kernel
theorem dX4_singRound_23 : decode cX4_singRound 23 = .ok (.istore 4, 2) := by decide +kernel
theorem dX4_singRound_25 : decode cX4_singRound 25 = .ok (.iconst 0, 1) := by decide +kernel
theorem dX4_singRound_26 : decode cX4_singRound 26 = .ok (.istore 5, 2) := by decide +kernel
theorem dX4_singRound_28 : decode cX4_singRound 28 = .ok (.iload 5, 2) := by decide +kernel
theorem dX4_singRound_30 : decode cX4_singRound 30 = .ok (.iload_n 3, 1) := by decide +kernel
theorem dX4_singRound_31 : decode cX4_singRound 31 = .ok (.iload 4, 2) := by decide +kernel
theorem dX4_singRound_33 : decode cX4_singRound 33 = .ok (.iadd, 1) := by decide +kernel
theorem dX4_singRound_34 : decode cX4_singRound 34 = .ok (.if_icmp .ge 101, 3) := by decide +kernel
theorem dX4_singRound_37 : decode cX4_singRound 37 = .ok (.aload_n 0, 1) := by decide +kernel
theorem dX4_singRound_38 : decode cX4_singRound 38 = .ok (.invokevirtual 177, 3) := by decide +kernel
theorem dX4_singRound_41 : decode cX4_singRound 41 = .ok (.iconst 0, 1) := by decide +kernel
theorem dX4_singRound_42 : decode cX4_singRound 42 = .ok (.istore 6, 2) := by decide +kernel
theorem dX4_singRound_44 : decode cX4_singRound 44 = .ok (.iload 6, 2) := by decide +kernel
theorem dX4_singRound_46 : decode cX4_singRound 46 = .ok (.aload_n 0, 1) := by decide +kernel
theorem dX4_singRound_47 : decode cX4_singRound 47 = .ok (.getfield 19, 3) := by decide +kernel
theorem dX4_singRound_50 : decode cX4_singRound 50 = .ok (.iconst 1, 1) := by decide +kernel
theorem dX4_singRound_51 : decode cX4_singRound 51 = .ok (.iaload, 1) := by decide +kernel
theorem dX4_singRound_52 : decode cX4_singRound 52 = .ok (.if_icmp .ge 73, 3) := by decide +kernel
theorem dX4_singRound_55 : decode cX4_singRound 55 = .ok (.iload 5, 2) := by decide +kernel
theorem dX4_singRound_57 : decode cX4_singRound 57 = .ok (.iload 6, 2) := by decide +kernel
theorem dX4_singRound_59 : decode cX4_singRound 59 = .ok (.iload_n 1, 1) := by decide +kernel
theorem dX4_singRound_60 : decode cX4_singRound 60 = .ok (.imul, 1) := by decide +kernel
theorem dX4_singRound_61 : decode cX4_singRound 61 = .ok (.isub, 1) := by decide +kernel
theorem dX4_singRound_62 : decode cX4_singRound 62 = .ok (.istore 7, 2) := by decide +kernel
theorem dX4_singRound_64 : decode cX4_singRound 64 = .ok (.iload 7, 2) := by decide +kernel
theorem dX4_singRound_66 : decode cX4_singRound 66 = .ok (.i2l, 1) := by decide +kernel
theorem dX4_singRound_67 : decode cX4_singRound 67 = .ok (.lconst 0, 1) := by decide +kernel
theorem dX4_singRound_68 : decode cX4_singRound 68 = .ok (.iload_n 3, 1) := by decide +kernel
theorem dX4_singRound_69 : decode cX4_singRound 69 = .ok (.iconst 1, 1) := by decide +kernel
theorem dX4_singRound_70 : decode cX4_singRound 70 = .ok (.isub, 1) := by decide +kernel
theorem dX4_singRound_71 : decode cX4_singRound 71 = .ok (.i2l, 1) := by decide +kernel
theorem dX4_singRound_72 : decode cX4_singRound 72 = .ok (.invokestatic 60, 3) := by decide +kernel
theorem dX4_singRound_75 : decode cX4_singRound 75 = .ok (.ifCond .eq 15, 3) := by decide +kernel
theorem dX4_singRound_78 : decode cX4_singRound 78 = .ok (.aload_n 0, 1) := by decide +kernel
theorem dX4_singRound_79 : decode cX4_singRound 79 = .ok (.getfield 16, 3) := by decide +kernel
theorem dX4_singRound_82 : decode cX4_singRound 82 = .ok (.iload_n 2, 1) := by decide +kernel
theorem dX4_singRound_83 : decode cX4_singRound 83 = .ok (.iload 7, 2) := by decide +kernel
theorem dX4_singRound_85 : decode cX4_singRound 85 = .ok (.iadd, 1) := by decide +kernel
theorem dX4_singRound_86 : decode cX4_singRound 86 = .ok (.iaload, 1) := by decide +kernel
theorem dX4_singRound_87 : decode cX4_singRound 87 = .ok (.goto 5, 3) := by decide +kernel
theorem dX4_singRound_90 : decode cX4_singRound 90 = .ok (.bipush 7, 2) := by decide +kernel
theorem dX4_singRound_92 : decode cX4_singRound 92 = .ok (.istore 8, 2) := by decide +kernel
theorem dX4_singRound_94 : decode cX4_singRound 94 = .ok (.aload_n 0, 1) := by decide +kernel
theorem dX4_singRound_95 : decode cX4_singRound 95 = .ok (.getfield 31, 3) := by decide +kernel
theorem dX4_singRound_98 : decode cX4_singRound 98 = .ok (.iload 6, 2) := by decide +kernel
theorem dX4_singRound_100 : decode cX4_singRound 100 = .ok (.aload_n 0, 1) := by decide +kernel
theorem dX4_singRound_101 : decode cX4_singRound 101 = .ok (.iload 6, 2) := by decide +kernel
theorem dX4_singRound_103 : decode cX4_singRound 103 = .ok (.iload 8, 2) := by decide +kernel
theorem dX4_singRound_105 : decode cX4_singRound 105 = .ok (.invokevirtual 158, 3) := by decide +kernel
theorem dX4_singRound_108 : decode cX4_singRound 108 = .ok (.ifCond .eq 8, 3) := by decide +kernel
theorem dX4_singRound_111 : decode cX4_singRound 111 = .ok (.iload 8, 2) := by decide +kernel
theorem dX4_singRound_113 : decode cX4_singRound 113 = .ok (.goto 5, 3) := by decide +kernel
theorem dX4_singRound_116 : decode cX4_singRound 116 = .ok (.bipush 7, 2) := by decide +kernel
theorem dX4_singRound_118 : decode cX4_singRound 118 = .ok (.iastore, 1) := by decide +kernel
theorem dX4_singRound_119 : decode cX4_singRound 119 = .ok (.iinc 6 1, 3) := by decide +kernel
theorem dX4_singRound_122 : decode cX4_singRound 122 = .ok (.goto (-78), 3) := by decide +kernel
theorem dX4_singRound_125 : decode cX4_singRound 125 = .ok (.aload_n 0, 1) := by decide +kernel
theorem dX4_singRound_126 : decode cX4_singRound 126 = .ok (.invokevirtual 164, 3) := by decide +kernel
theorem dX4_singRound_129 : decode cX4_singRound 129 = .ok (.iinc 5 1, 3) := by decide +kernel
theorem dX4_singRound_132 : decode cX4_singRound 132 = .ok (.goto (-104), 3) := by decide +kernel
theorem dX4_singRound_135 : decode cX4_singRound 135 = .ok (.return_, 1) := by decide +kernel
theorem dX4_alone_0 : decode cX4_alone 0 = .ok (.aload_n 0, 1) := by decide +kernel
theorem dX4_alone_1 : decode cX4_alone 1 = .ok (.iload_n 1, 1) := by decide +kernel
theorem dX4_alone_2 : decode cX4_alone 2 = .ok (.invokevirtual 174, 3) := by decide +kernel
theorem dX4_alone_5 : decode cX4_alone 5 = .ok (.ifCond .eq 23, 3) := by decide +kernel
theorem dX4_alone_8 : decode cX4_alone 8 = .ok (.iload_n 2, 1) := by decide +kernel
theorem dX4_alone_9 : decode cX4_alone 9 = .ok (.invokestatic 64, 3) := by decide +kernel
theorem dX4_alone_12 : decode cX4_alone 12 = .ok (.ifCond .eq 16, 3) := by decide +kernel
theorem dX4_alone_15 : decode cX4_alone 15 = .ok (.iload 4, 2) := by decide +kernel
theorem dX4_alone_17 : decode cX4_alone 17 = .ok (.i2l, 1) := by decide +kernel
theorem dX4_alone_18 : decode cX4_alone 18 = .ok (.lconst 0, 1) := by decide +kernel
theorem dX4_alone_19 : decode cX4_alone 19 = .ok (.ldc2_w 180, 3) := by decide +kernel
theorem dX4_alone_22 : decode cX4_alone 22 = .ok (.invokestatic 60, 3) := by decide +kernel
theorem dX4_alone_25 : decode cX4_alone 25 = .ok (.ifCond .ne 6, 3) := by decide +kernel
theorem dX4_alone_28 : decode cX4_alone 28 = .ok (.ldc 70, 2) := by decide +kernel
theorem dX4_alone_30 : decode cX4_alone 30 = .ok (.ireturn, 1) := by decide +kernel
theorem dX4_alone_31 : decode cX4_alone 31 = .ok (.aload_n 0, 1) := by decide +kernel
theorem dX4_alone_32 : decode cX4_alone 32 = .ok (.iload_n 2, 1) := by decide +kernel
theorem dX4_alone_33 : decode cX4_alone 33 = .ok (.iload_n 3, 1) := by decide +kernel
theorem dX4_alone_34 : decode cX4_alone 34 = .ok (.iload 4, 2) := by decide +kernel
theorem dX4_alone_36 : decode cX4_alone 36 = .ok (.invokevirtual 182, 3) := by decide +kernel
theorem dX4_alone_39 : decode cX4_alone 39 = .ok (.istore 5, 2) := by decide +kernel
theorem dX4_alone_41 : decode cX4_alone 41 = .ok (.iload 5, 2) := by decide +kernel
theorem dX4_alone_43 : decode cX4_alone 43 = .ok (.ifCond .ge 6, 3) := by decide +kernel
theorem dX4_alone_46 : decode cX4_alone 46 = .ok (.iload 5, 2) := by decide +kernel
theorem dX4_alone_48 : decode cX4_alone 48 = .ok (.ireturn, 1) := by decide +kernel
theorem dX4_alone_49 : decode cX4_alone 49 = .ok (.aload_n 0, 1) := by decide +kernel
theorem dX4_alone_50 : decode cX4_alone 50 = .ok (.invokevirtual 186, 3) := by decide +kernel
theorem dX4_alone_53 : decode cX4_alone 53 = .ok (.aload_n 0, 1) := by decide +kernel
theorem dX4_alone_54 : decode cX4_alone 54 = .ok (.iload_n 1, 1) := by decide +kernel
theorem dX4_alone_55 : decode cX4_alone 55 = .ok (.bipush 40, 2) := by decide +kernel
theorem dX4_alone_57 : decode cX4_alone 57 = .ok (.iload_n 2, 1) := by decide +kernel
theorem dX4_alone_58 : decode cX4_alone 58 = .ok (.imul, 1) := by decide +kernel
theorem dX4_alone_59 : decode cX4_alone 59 = .ok (.iload_n 3, 1) := by decide +kernel
theorem dX4_alone_60 : decode cX4_alone 60 = .ok (.iadd, 1) := by decide +kernel
theorem dX4_alone_61 : decode cX4_alone 61 = .ok (.iload 4, 2) := by decide +kernel
theorem dX4_alone_63 : decode cX4_alone 63 = .ok (.iconst 0, 1) := by decide +kernel
theorem dX4_alone_64 : decode cX4_alone 64 = .ok (.invokevirtual 189, 3) := by decide +kernel
theorem dX4_alone_67 : decode cX4_alone 67 = .ok (.aload_n 0, 1) := by decide +kernel
theorem dX4_alone_68 : decode cX4_alone 68 = .ok (.invokevirtual 167, 3) := by decide +kernel
theorem dX4_alone_71 : decode cX4_alone 71 = .ok (.istore 6, 2) := by decide +kernel
theorem dX4_alone_73 : decode cX4_alone 73 = .ok (.aload_n 0, 1) := by decide +kernel
theorem dX4_alone_74 : decode cX4_alone 74 = .ok (.invokevirtual 193, 3) := by decide +kernel
theorem dX4_alone_77 : decode cX4_alone 77 = .ok (.aload_n 0, 1) := by decide +kernel
theorem dX4_alone_78 : decode cX4_alone 78 = .ok (.iload 6, 2) := by decide +kernel
theorem dX4_alone_80 : decode cX4_alone 80 = .ok (.invokevirtual 75, 3) := by decide +kernel
theorem dX4_alone_83 : decode cX4_alone 83 = .ok (.ireturn, 1) := by decide +kernel
theorem dX4_round_0 : decode cX4_round 0 = .ok (.aload_n 0, 1) := by decide +kernel
theorem dX4_round_1 : decode cX4_round 1 = .ok (.getfield 142, 3) := by decide +kernel
theorem dX4_round_4 : decode cX4_round 4 = .ok (.ifCond .ne 6, 3) := by decide +kernel
theorem dX4_round_7 : decode cX4_round 7 = .ok (.ldc 157, 2) := by decide +kernel
theorem dX4_round_9 : decode cX4_round 9 = .ok (.ireturn, 1) := by decide +kernel
theorem dX4_round_10 : decode cX4_round 10 = .ok (.iload_n 1, 1) := by decide +kernel
theorem dX4_round_11 : decode cX4_round 11 = .ok (.i2l, 1) := by decide +kernel
theorem dX4_round_12 : decode cX4_round 12 = .ok (.lconst 0, 1) := by decide +kernel
theorem dX4_round_13 : decode cX4_round 13 = .ok (.ldc2_w 196, 3) := by decide +kernel
theorem dX4_round_16 : decode cX4_round 16 = .ok (.invokestatic 60, 3) := by decide +kernel
theorem dX4_round_19 : decode cX4_round 19 = .ok (.ifCond .eq 23, 3) := by decide +kernel
theorem dX4_round_22 : decode cX4_round 22 = .ok (.iload_n 2, 1) := by decide +kernel
theorem dX4_round_23 : decode cX4_round 23 = .ok (.invokestatic 64, 3) := by decide +kernel
theorem dX4_round_26 : decode cX4_round 26 = .ok (.ifCond .eq 16, 3) := by decide +kernel
theorem dX4_round_29 : decode cX4_round 29 = .ok (.iload 4, 2) := by decide +kernel
theorem dX4_round_31 : decode cX4_round 31 = .ok (.i2l, 1) := by decide +kernel
theorem dX4_round_32 : decode cX4_round 32 = .ok (.lconst 0, 1) := by decide +kernel
theorem dX4_round_33 : decode cX4_round 33 = .ok (.ldc2_w 180, 3) := by decide +kernel
theorem dX4_round_36 : decode cX4_round 36 = .ok (.invokestatic 60, 3) := by decide +kernel
theorem dX4_round_39 : decode cX4_round 39 = .ok (.ifCond .ne 6, 3) := by decide +kernel
theorem dX4_round_42 : decode cX4_round 42 = .ok (.ldc 70, 2) := by decide +kernel
theorem dX4_round_44 : decode cX4_round 44 = .ok (.ireturn, 1) := by decide +kernel
theorem dX4_round_45 : decode cX4_round 45 = .ok (.aload_n 0, 1) := by decide +kernel
theorem dX4_round_46 : decode cX4_round 46 = .ok (.iload_n 2, 1) := by decide +kernel
theorem dX4_round_47 : decode cX4_round 47 = .ok (.iload_n 3, 1) := by decide +kernel
theorem dX4_round_48 : decode cX4_round 48 = .ok (.iload 4, 2) := by decide +kernel
theorem dX4_round_50 : decode cX4_round 50 = .ok (.invokevirtual 182, 3) := by decide +kernel
theorem dX4_round_53 : decode cX4_round 53 = .ok (.istore 5, 2) := by decide +kernel
theorem dX4_round_55 : decode cX4_round 55 = .ok (.iload 5, 2) := by decide +kernel
theorem dX4_round_57 : decode cX4_round 57 = .ok (.ifCond .ge 6, 3) := by decide +kernel
theorem dX4_round_60 : decode cX4_round 60 = .ok (.iload 5, 2) := by decide +kernel
theorem dX4_round_62 : decode cX4_round 62 = .ok (.ireturn, 1) := by decide +kernel
theorem dX4_round_63 : decode cX4_round 63 = .ok (.aload_n 0, 1) := by decide +kernel
theorem dX4_round_64 : decode cX4_round 64 = .ok (.invokevirtual 186, 3) := by decide +kernel
theorem dX4_round_67 : decode cX4_round 67 = .ok (.aload_n 0, 1) := by decide +kernel
theorem dX4_round_68 : decode cX4_round 68 = .ok (.iload_n 1, 1) := by decide +kernel
theorem dX4_round_69 : decode cX4_round 69 = .ok (.bipush 40, 2) := by decide +kernel
theorem dX4_round_71 : decode cX4_round 71 = .ok (.iload_n 2, 1) := by decide +kernel
theorem dX4_round_72 : decode cX4_round 72 = .ok (.imul, 1) := by decide +kernel
theorem dX4_round_73 : decode cX4_round 73 = .ok (.iload_n 3, 1) := by decide +kernel
theorem dX4_round_74 : decode cX4_round 74 = .ok (.iadd, 1) := by decide +kernel
theorem dX4_round_75 : decode cX4_round 75 = .ok (.iload 4, 2) := by decide +kernel
theorem dX4_round_77 : decode cX4_round 77 = .ok (.invokevirtual 198, 3) := by decide +kernel
theorem dX4_round_80 : decode cX4_round 80 = .ok (.aload_n 0, 1) := by decide +kernel
theorem dX4_round_81 : decode cX4_round 81 = .ok (.invokevirtual 167, 3) := by decide +kernel
theorem dX4_round_84 : decode cX4_round 84 = .ok (.istore 6, 2) := by decide +kernel
theorem dX4_round_86 : decode cX4_round 86 = .ok (.aload_n 0, 1) := by decide +kernel
theorem dX4_round_87 : decode cX4_round 87 = .ok (.invokevirtual 193, 3) := by decide +kernel
theorem dX4_round_90 : decode cX4_round 90 = .ok (.aload_n 0, 1) := by decide +kernel
theorem dX4_round_91 : decode cX4_round 91 = .ok (.iload 6, 2) := by decide +kernel
theorem dX4_round_93 : decode cX4_round 93 = .ok (.invokevirtual 75, 3) := by decide +kernel
theorem dX4_round_96 : decode cX4_round 96 = .ok (.ireturn, 1) := by decide +kernel
theorem dX4_bestRound_0 : decode cX4_bestRound 0 = .ok (.aload_n 0, 1) := by decide +kernel
theorem dX4_bestRound_1 : decode cX4_bestRound 1 = .ok (.getfield 142, 3) := by decide +kernel
theorem dX4_bestRound_4 : decode cX4_bestRound 4 = .ok (.ifCond .ne 6, 3) := by decide +kernel
theorem dX4_bestRound_7 : decode cX4_bestRound 7 = .ok (.ldc 157, 2) := by decide +kernel
theorem dX4_bestRound_9 : decode cX4_bestRound 9 = .ok (.ireturn, 1) := by decide +kernel
theorem dX4_bestRound_10 : decode cX4_bestRound 10 = .ok (.iload_n 1, 1) := by decide +kernel
theorem dX4_bestRound_11 : decode cX4_bestRound 11 = .ok (.invokestatic 64, 3) := by decide +kernel
theorem dX4_bestRound_14 : decode cX4_bestRound 14 = .ok (.ifCond .eq 26, 3) := by decide +kernel
theorem dX4_bestRound_17 : decode cX4_bestRound 17 = .ok (.iload_n 3, 1) := by decide +kernel
theorem dX4_bestRound_18 : decode cX4_bestRound 18 = .ok (.i2l, 1) := by decide +kernel
theorem dX4_bestRound_19 : decode cX4_bestRound 19 = .ok (.lconst 0, 1) := by decide +kernel
theorem dX4_bestRound_20 : decode cX4_bestRound 20 = .ok (.ldc2_w 180, 3) := by decide +kernel
theorem dX4_bestRound_23 : decode cX4_bestRound 23 = .ok (.invokestatic 60, 3) := by decide +kernel
theorem dX4_bestRound_26 : decode cX4_bestRound 26 = .ok (.ifCond .eq 14, 3) := by decide +kernel
theorem dX4_bestRound_29 : decode cX4_bestRound 29 = .ok (.iload 4, 2) := by decide +kernel
theorem dX4_bestRound_31 : decode cX4_bestRound 31 = .ok (.i2l, 1) := by decide +kernel
theorem dX4_bestRound_32 : decode cX4_bestRound 32 = .ok (.lconst 0, 1) := by decide +kernel
theorem dX4_bestRound_33 : decode cX4_bestRound 33 = .ok (.lconst 1, 1) := by decide +kernel
theorem dX4_bestRound_34 : decode cX4_bestRound 34 = .ok (.invokestatic 60, 3) := by decide +kernel
theorem dX4_bestRound_37 : decode cX4_bestRound 37 = .ok (.ifCond .ne 6, 3) := by decide +kernel
theorem dX4_bestRound_40 : decode cX4_bestRound 40 = .ok (.ldc 70, 2) := by decide +kernel
theorem dX4_bestRound_42 : decode cX4_bestRound 42 = .ok (.ireturn, 1) := by decide +kernel
theorem dX4_bestRound_43 : decode cX4_bestRound 43 = .ok (.aload_n 0, 1) := by decide +kernel
theorem dX4_bestRound_44 : decode cX4_bestRound 44 = .ok (.iload_n 1, 1) := by decide +kernel
theorem dX4_bestRound_45 : decode cX4_bestRound 45 = .ok (.iload_n 2, 1) := by decide +kernel
theorem dX4_bestRound_46 : decode cX4_bestRound 46 = .ok (.iload_n 3, 1) := by decide +kernel
theorem dX4_bestRound_47 : decode cX4_bestRound 47 = .ok (.invokevirtual 182, 3) := by decide +kernel
theorem dX4_bestRound_50 : decode cX4_bestRound 50 = .ok (.istore 5, 2) := by decide +kernel
theorem dX4_bestRound_52 : decode cX4_bestRound 52 = .ok (.iload 5, 2) := by decide +kernel
theorem dX4_bestRound_54 : decode cX4_bestRound 54 = .ok (.ifCond .ge 6, 3) := by decide +kernel
theorem dX4_bestRound_57 : decode cX4_bestRound 57 = .ok (.iload 5, 2) := by decide +kernel
theorem dX4_bestRound_59 : decode cX4_bestRound 59 = .ok (.ireturn, 1) := by decide +kernel
theorem dX4_bestRound_60 : decode cX4_bestRound 60 = .ok (.aload_n 0, 1) := by decide +kernel
theorem dX4_bestRound_61 : decode cX4_bestRound 61 = .ok (.invokevirtual 186, 3) := by decide +kernel
theorem dX4_bestRound_64 : decode cX4_bestRound 64 = .ok (.iconst 0, 1) := by decide +kernel
theorem dX4_bestRound_65 : decode cX4_bestRound 65 = .ok (.istore 6, 2) := by decide +kernel
theorem dX4_bestRound_67 : decode cX4_bestRound 67 = .ok (.iconst (-1), 1) := by decide +kernel
theorem dX4_bestRound_68 : decode cX4_bestRound 68 = .ok (.istore 7, 2) := by decide +kernel
theorem dX4_bestRound_70 : decode cX4_bestRound 70 = .ok (.iconst 0, 1) := by decide +kernel
theorem dX4_bestRound_71 : decode cX4_bestRound 71 = .ok (.istore 8, 2) := by decide +kernel
theorem dX4_bestRound_73 : decode cX4_bestRound 73 = .ok (.iload 8, 2) := by decide +kernel
theorem dX4_bestRound_75 : decode cX4_bestRound 75 = .ok (.bipush 8, 2) := by decide +kernel
theorem dX4_bestRound_77 : decode cX4_bestRound 77 = .ok (.if_icmp .gt 67, 3) := by decide +kernel
theorem dX4_bestRound_80 : decode cX4_bestRound 80 = .ok (.aload_n 0, 1) := by decide +kernel
theorem dX4_bestRound_81 : decode cX4_bestRound 81 = .ok (.iload 8, 2) := by decide +kernel
theorem dX4_bestRound_83 : decode cX4_bestRound 83 = .ok (.bipush 40, 2) := by decide +kernel
theorem dX4_bestRound_85 : decode cX4_bestRound 85 = .ok (.iload_n 1, 1) := by decide +kernel
theorem dX4_bestRound_86 : decode cX4_bestRound 86 = .ok (.imul, 1) := by decide +kernel
theorem dX4_bestRound_87 : decode cX4_bestRound 87 = .ok (.iload_n 2, 1) := by decide +kernel
theorem dX4_bestRound_88 : decode cX4_bestRound 88 = .ok (.iadd, 1) := by decide +kernel
theorem dX4_bestRound_89 : decode cX4_bestRound 89 = .ok (.iload_n 3, 1) := by decide +kernel
theorem dX4_bestRound_90 : decode cX4_bestRound 90 = .ok (.invokevirtual 198, 3) := by decide +kernel
theorem dX4_bestRound_93 : decode cX4_bestRound 93 = .ok (.aload_n 0, 1) := by decide +kernel
theorem dX4_bestRound_94 : decode cX4_bestRound 94 = .ok (.invokevirtual 167, 3) := by decide +kernel
theorem dX4_bestRound_97 : decode cX4_bestRound 97 = .ok (.invokestatic 202, 3) := by decide +kernel
theorem dX4_bestRound_100 : decode cX4_bestRound 100 = .ok (.istore 9, 2) := by decide +kernel
theorem dX4_bestRound_102 : decode cX4_bestRound 102 = .ok (.iload 9, 2) := by decide +kernel
theorem dX4_bestRound_104 : decode cX4_bestRound 104 = .ok (.iload 7, 2) := by decide +kernel
theorem dX4_bestRound_106 : decode cX4_bestRound 106 = .ok (.if_icmp .le 8, 3) := by decide +kernel
theorem dX4_bestRound_109 : decode cX4_bestRound 109 = .ok (.iload 8, 2) := by decide +kernel
theorem dX4_bestRound_111 : decode cX4_bestRound 111 = .ok (.goto 5, 3) := by decide +kernel
theorem dX4_bestRound_114 : decode cX4_bestRound 114 = .ok (.iload 6, 2) := by decide +kernel
theorem dX4_bestRound_116 : decode cX4_bestRound 116 = .ok (.istore 6, 2) := by decide +kernel
theorem dX4_bestRound_118 : decode cX4_bestRound 118 = .ok (.iload 9, 2) := by decide +kernel
theorem dX4_bestRound_120 : decode cX4_bestRound 120 = .ok (.iload 7, 2) := by decide +kernel
theorem dX4_bestRound_122 : decode cX4_bestRound 122 = .ok (.if_icmp .le 8, 3) := by decide +kernel
theorem dX4_bestRound_125 : decode cX4_bestRound 125 = .ok (.iload 9, 2) := by decide +kernel
theorem dX4_bestRound_127 : decode cX4_bestRound 127 = .ok (.goto 5, 3) := by decide +kernel
theorem dX4_bestRound_130 : decode cX4_bestRound 130 = .ok (.iload 7, 2) := by decide +kernel
theorem dX4_bestRound_132 : decode cX4_bestRound 132 = .ok (.istore 7, 2) := by decide +kernel
theorem dX4_bestRound_134 : decode cX4_bestRound 134 = .ok (.aload_n 0, 1) := by decide +kernel
theorem dX4_bestRound_135 : decode cX4_bestRound 135 = .ok (.invokevirtual 193, 3) := by decide +kernel
theorem dX4_bestRound_138 : decode cX4_bestRound 138 = .ok (.iinc 8 1, 3) := by decide +kernel
theorem dX4_bestRound_141 : decode cX4_bestRound 141 = .ok (.goto (-68), 3) := by decide +kernel
theorem dX4_bestRound_144 : decode cX4_bestRound 144 = .ok (.aload_n 0, 1) := by decide +kernel
theorem dX4_bestRound_145 : decode cX4_bestRound 145 = .ok (.iload 4, 2) := by decide +kernel
theorem dX4_bestRound_147 : decode cX4_bestRound 147 = .ok (.ifCond .ne 8, 3) := by decide +kernel
theorem dX4_bestRound_150 : decode cX4_bestRound 150 = .ok (.iload 6, 2) := by decide +kernel
theorem dX4_bestRound_152 : decode cX4_bestRound 152 = .ok (.goto 5, 3) := by decide +kernel
theorem dX4_bestRound_155 : decode cX4_bestRound 155 = .ok (.iload 7, 2) := by decide +kernel
theorem dX4_bestRound_157 : decode cX4_bestRound 157 = .ok (.invokevirtual 75, 3) := by decide +kernel
theorem dX4_bestRound_160 : decode cX4_bestRound 160 = .ok (.ireturn, 1) := by decide +kernel
theorem dX4_singsRow_0 : decode cX4_singsRow 0 = .ok (.aload_n 0, 1) := by decide +kernel
theorem dX4_singsRow_1 : decode cX4_singsRow 1 = .ok (.iconst 0, 1) := by decide +kernel
theorem dX4_singsRow_2 : decode cX4_singsRow 2 = .ok (.putfield 205, 3) := by decide +kernel
theorem dX4_singsRow_5 : decode cX4_singsRow 5 = .ok (.iconst 1, 1) := by decide +kernel
theorem dX4_singsRow_6 : decode cX4_singsRow 6 = .ok (.istore_n 3, 1) := by decide +kernel
theorem dX4_singsRow_7 : decode cX4_singsRow 7 = .ok (.iconst 0, 1) := by decide +kernel
theorem dX4_singsRow_8 : decode cX4_singsRow 8 = .ok (.istore 4, 2) := by decide +kernel
theorem dX4_singsRow_10 : decode cX4_singsRow 10 = .ok (.iload 4, 2) := by decide +kernel
theorem dX4_singsRow_12 : decode cX4_singsRow 12 = .ok (.iload_n 2, 1) := by decide +kernel
theorem dX4_singsRow_13 : decode cX4_singsRow 13 = .ok (.if_icmp .ge 73, 3) := by decide +kernel
theorem dX4_singsRow_16 : decode cX4_singsRow 16 = .ok (.iload_n 3, 1) := by decide +kernel
theorem dX4_singsRow_17 : decode cX4_singsRow 17 = .ok (.ifCond .eq 69, 3) := by decide +kernel
theorem dX4_singsRow_20 : decode cX4_singsRow 20 = .ok (.aload_n 0, 1) := by decide +kernel
theorem dX4_singsRow_21 : decode cX4_singsRow 21 = .ok (.iload_n 1, 1) := by decide +kernel
theorem dX4_singsRow_22 : decode cX4_singsRow 22 = .ok (.aload_n 0, 1) := by decide +kernel
theorem dX4_singsRow_23 : decode cX4_singsRow 23 = .ok (.getfield 40, 3) := by decide +kernel
theorem dX4_singsRow_26 : decode cX4_singsRow 26 = .ok (.iload 4, 2) := by decide +kernel
theorem dX4_singsRow_28 : decode cX4_singsRow 28 = .ok (.iaload, 1) := by decide +kernel
theorem dX4_singsRow_29 : decode cX4_singsRow 29 = .ok (.invokevirtual 158, 3) := by decide +kernel
theorem dX4_singsRow_32 : decode cX4_singsRow 32 = .ok (.istore_n 3, 1) := by decide +kernel
theorem dX4_singsRow_33 : decode cX4_singsRow 33 = .ok (.aload_n 0, 1) := by decide +kernel
theorem dX4_singsRow_34 : decode cX4_singsRow 34 = .ok (.invokevirtual 177, 3) := by decide +kernel
theorem dX4_singsRow_37 : decode cX4_singsRow 37 = .ok (.aload_n 0, 1) := by decide +kernel
theorem dX4_singsRow_38 : decode cX4_singsRow 38 = .ok (.getfield 31, 3) := by decide +kernel
theorem dX4_singsRow_41 : decode cX4_singsRow 41 = .ok (.iload_n 1, 1) := by decide +kernel
theorem dX4_singsRow_42 : decode cX4_singsRow 42 = .ok (.aload_n 0, 1) := by decide +kernel
theorem dX4_singsRow_43 : decode cX4_singsRow 43 = .ok (.getfield 40, 3) := by decide +kernel
theorem dX4_singsRow_46 : decode cX4_singsRow 46 = .ok (.iload 4, 2) := by decide +kernel
theorem dX4_singsRow_48 : decode cX4_singsRow 48 = .ok (.iaload, 1) := by decide +kernel
theorem dX4_singsRow_49 : decode cX4_singsRow 49 = .ok (.iastore, 1) := by decide +kernel
theorem dX4_singsRow_50 : decode cX4_singsRow 50 = .ok (.aload_n 0, 1) := by decide +kernel
theorem dX4_singsRow_51 : decode cX4_singsRow 51 = .ok (.dup, 1) := by decide +kernel
theorem dX4_singsRow_52 : decode cX4_singsRow 52 = .ok (.getfield 205, 3) := by decide +kernel
theorem dX4_singsRow_55 : decode cX4_singsRow 55 = .ok (.aload_n 0, 1) := by decide +kernel
theorem dX4_singsRow_56 : decode cX4_singsRow 56 = .ok (.getfield 40, 3) := by decide +kernel
theorem dX4_singsRow_59 : decode cX4_singsRow 59 = .ok (.iload 4, 2) := by decide +kernel
theorem dX4_singsRow_61 : decode cX4_singsRow 61 = .ok (.iaload, 1) := by decide +kernel
theorem dX4_singsRow_62 : decode cX4_singsRow 62 = .ok (.bipush 7, 2) := by decide +kernel
theorem dX4_singsRow_64 : decode cX4_singsRow 64 = .ok (.if_icmp .ge 7, 3) := by decide +kernel
theorem dX4_singsRow_67 : decode cX4_singsRow 67 = .ok (.iconst 1, 1) := by decide +kernel
theorem dX4_singsRow_68 : decode cX4_singsRow 68 = .ok (.goto 4, 3) := by decide +kernel
theorem dX4_singsRow_71 : decode cX4_singsRow 71 = .ok (.iconst 0, 1) := by decide +kernel
theorem dX4_singsRow_72 : decode cX4_singsRow 72 = .ok (.iadd, 1) := by decide +kernel
theorem dX4_singsRow_73 : decode cX4_singsRow 73 = .ok (.putfield 205, 3) := by decide +kernel
theorem dX4_singsRow_76 : decode cX4_singsRow 76 = .ok (.aload_n 0, 1) := by decide +kernel
theorem dX4_singsRow_77 : decode cX4_singsRow 77 = .ok (.invokevirtual 164, 3) := by decide +kernel
theorem dX4_singsRow_80 : decode cX4_singsRow 80 = .ok (.iinc 4 1, 3) := by decide +kernel
theorem dX4_singsRow_83 : decode cX4_singsRow 83 = .ok (.goto (-73), 3) := by decide +kernel
theorem dX4_singsRow_86 : decode cX4_singsRow 86 = .ok (.iload_n 3, 1) := by decide +kernel
theorem dX4_singsRow_87 : decode cX4_singsRow 87 = .ok (.ireturn, 1) := by decide +kernel
theorem dX4_song_0 : decode cX4_song 0 = .ok (.aload_n 0, 1) := by decide +kernel
theorem dX4_song_1 : decode cX4_song 1 = .ok (.iload_n 1, 1) := by decide +kernel
theorem dX4_song_2 : decode cX4_song 2 = .ok (.invokevirtual 174, 3) := by decide +kernel
theorem dX4_song_5 : decode cX4_song 5 = .ok (.ifCond .eq 30, 3) := by decide +kernel
theorem dX4_song_8 : decode cX4_song 8 = .ok (.iload_n 2, 1) := by decide +kernel
theorem dX4_song_9 : decode cX4_song 9 = .ok (.i2l, 1) := by decide +kernel
theorem dX4_song_10 : decode cX4_song 10 = .ok (.lconst 0, 1) := by decide +kernel
theorem dX4_song_11 : decode cX4_song 11 = .ok (.ldc2_w 208, 3) := by decide +kernel
theorem dX4_song_14 : decode cX4_song 14 = .ok (.invokestatic 60, 3) := by decide +kernel
theorem dX4_song_17 : decode cX4_song 17 = .ok (.ifCond .eq 18, 3) := by decide +kernel
theorem dX4_song_20 : decode cX4_song 20 = .ok (.iload_n 3, 1) := by decide +kernel
theorem dX4_song_21 : decode cX4_song 21 = .ok (.i2l, 1) := by decide +kernel
theorem dX4_song_22 : decode cX4_song 22 = .ok (.ldc2_w 210, 3) := by decide +kernel
theorem dX4_song_25 : decode cX4_song 25 = .ok (.iload_n 2, 1) := by decide +kernel
theorem dX4_song_26 : decode cX4_song 26 = .ok (.iconst 1, 1) := by decide +kernel
theorem dX4_song_27 : decode cX4_song 27 = .ok (.isub, 1) := by decide +kernel
theorem dX4_song_28 : decode cX4_song 28 = .ok (.i2l, 1) := by decide +kernel
theorem dX4_song_29 : decode cX4_song 29 = .ok (.invokestatic 60, 3) := by decide +kernel
theorem dX4_song_32 : decode cX4_song 32 = .ok (.ifCond .ne 6, 3) := by decide +kernel
theorem dX4_song_35 : decode cX4_song 35 = .ok (.ldc 70, 2) := by decide +kernel
theorem dX4_song_37 : decode cX4_song 37 = .ok (.ireturn, 1) := by decide +kernel
theorem dX4_song_38 : decode cX4_song 38 = .ok (.aload_n 0, 1) := by decide +kernel
theorem dX4_song_39 : decode cX4_song 39 = .ok (.invokevirtual 186, 3) := by decide +kernel
theorem dX4_song_42 : decode cX4_song 42 = .ok (.iconst (-1), 1) := by decide +kernel
theorem dX4_song_43 : decode cX4_song 43 = .ok (.istore 4, 2) := by decide +kernel
theorem dX4_song_45 : decode cX4_song 45 = .ok (.iconst 0, 1) := by decide +kernel
theorem dX4_song_46 : decode cX4_song 46 = .ok (.istore 5, 2) := by decide +kernel
theorem dX4_song_48 : decode cX4_song 48 = .ok (.iconst 0, 1) := by decide +kernel
theorem dX4_song_49 : decode cX4_song 49 = .ok (.istore 6, 2) := by decide +kernel
theorem dX4_song_51 : decode cX4_song 51 = .ok (.iconst 0, 1) := by decide +kernel
theorem dX4_song_52 : decode cX4_song 52 = .ok (.istore 7, 2) := by decide +kernel
theorem dX4_song_54 : decode cX4_song 54 = .ok (.iload 7, 2) := by decide +kernel
theorem dX4_song_56 : decode cX4_song 56 = .ok (.iconst 1, 1) := by decide +kernel
theorem dX4_song_57 : decode cX4_song 57 = .ok (.iconst 3, 1) := by decide +kernel
theorem dX4_song_58 : decode cX4_song 58 = .ok (.iload_n 2, 1) := by decide +kernel
theorem dX4_song_59 : decode cX4_song 59 = .ok (.imul, 1) := by decide +kernel
theorem dX4_song_60 : decode cX4_song 60 = .ok (.ishl, 1) := by decide +kernel
theorem dX4_song_61 : decode cX4_song 61 = .ok (.if_icmp .ge 108, 3) := by decide +kernel
theorem dX4_song_64 : decode cX4_song 64 = .ok (.iconst 0, 1) := by decide +kernel
theorem dX4_song_65 : decode cX4_song 65 = .ok (.istore 8, 2) := by decide +kernel
theorem dX4_song_67 : decode cX4_song 67 = .ok (.iload 8, 2) := by decide +kernel
theorem dX4_song_69 : decode cX4_song 69 = .ok (.iload_n 2, 1) := by decide +kernel
theorem dX4_song_70 : decode cX4_song 70 = .ok (.if_icmp .ge 30, 3) := by decide +kernel
theorem dX4_song_73 : decode cX4_song 73 = .ok (.aload_n 0, 1) := by decide +kernel
theorem dX4_song_74 : decode cX4_song 74 = .ok (.getfield 40, 3) := by decide +kernel
theorem dX4_song_77 : decode cX4_song 77 = .ok (.iload 8, 2) := by decide +kernel
theorem dX4_song_79 : decode cX4_song 79 = .ok (.iload 7, 2) := by decide +kernel
theorem dX4_song_81 : decode cX4_song 81 = .ok (.iconst 3, 1) := by decide +kernel
theorem dX4_song_82 : decode cX4_song 82 = .ok (.iload_n 2, 1) := by decide +kernel
theorem dX4_song_83 : decode cX4_song 83 = .ok (.iconst 1, 1) := by decide +kernel
theorem dX4_song_84 : decode cX4_song 84 = .ok (.isub, 1) := by decide +kernel
theorem dX4_song_85 : decode cX4_song 85 = .ok (.iload 8, 2) := by decide +kernel
theorem dX4_song_87 : decode cX4_song 87 = .ok (.isub, 1) := by decide +kernel
theorem dX4_song_88 : decode cX4_song 88 = .ok (.imul, 1) := by decide +kernel
theorem dX4_song_89 : decode cX4_song 89 = .ok (.ishr, 1) := by decide +kernel
theorem dX4_song_90 : decode cX4_song 90 = .ok (.bipush 7, 2) := by decide +kernel
theorem dX4_song_92 : decode cX4_song 92 = .ok (.iand, 1) := by decide +kernel
theorem dX4_song_93 : decode cX4_song 93 = .ok (.iastore, 1) := by decide +kernel
theorem dX4_song_94 : decode cX4_song 94 = .ok (.iinc 8 1, 3) := by decide +kernel
theorem dX4_song_97 : decode cX4_song 97 = .ok (.goto (-30), 3) := by decide +kernel
theorem dX4_song_100 : decode cX4_song 100 = .ok (.aload_n 0, 1) := by decide +kernel
theorem dX4_song_101 : decode cX4_song 101 = .ok (.iload_n 1, 1) := by decide +kernel
theorem dX4_song_102 : decode cX4_song 102 = .ok (.iload_n 2, 1) := by decide +kernel
theorem dX4_song_103 : decode cX4_song 103 = .ok (.invokevirtual 212, 3) := by decide +kernel
theorem dX4_song_106 : decode cX4_song 106 = .ok (.istore 8, 2) := by decide +kernel
theorem dX4_song_108 : decode cX4_song 108 = .ok (.aload_n 0, 1) := by decide +kernel
theorem dX4_song_109 : decode cX4_song 109 = .ok (.invokevirtual 167, 3) := by decide +kernel
theorem dX4_song_112 : decode cX4_song 112 = .ok (.invokestatic 202, 3) := by decide +kernel
theorem dX4_song_115 : decode cX4_song 115 = .ok (.istore 9, 2) := by decide +kernel
theorem dX4_song_117 : decode cX4_song 117 = .ok (.iload 8, 2) := by decide +kernel
theorem dX4_song_119 : decode cX4_song 119 = .ok (.ifCond .eq 40, 3) := by decide +kernel
theorem dX4_song_122 : decode cX4_song 122 = .ok (.iload 9, 2) := by decide +kernel
theorem dX4_song_124 : decode cX4_song 124 = .ok (.iload 4, 2) := by decide +kernel
theorem dX4_song_126 : decode cX4_song 126 = .ok (.if_icmp .gt 19, 3) := by decide +kernel
theorem dX4_song_129 : decode cX4_song 129 = .ok (.iload 9, 2) := by decide +kernel
theorem dX4_song_131 : decode cX4_song 131 = .ok (.iload 4, 2) := by decide +kernel
theorem dX4_song_133 : decode cX4_song 133 = .ok (.if_icmp .ne 26, 3) := by decide +kernel
theorem dX4_song_136 : decode cX4_song 136 = .ok (.aload_n 0, 1) := by decide +kernel
theorem dX4_song_137 : decode cX4_song 137 = .ok (.getfield 205, 3) := by decide +kernel
theorem dX4_song_140 : decode cX4_song 140 = .ok (.iload 5, 2) := by decide +kernel
theorem dX4_song_142 : decode cX4_song 142 = .ok (.if_icmp .ge 17, 3) := by decide +kernel
theorem dX4_song_145 : decode cX4_song 145 = .ok (.iload 9, 2) := by decide +kernel
theorem dX4_song_147 : decode cX4_song 147 = .ok (.istore 4, 2) := by decide +kernel
theorem dX4_song_149 : decode cX4_song 149 = .ok (.aload_n 0, 1) := by decide +kernel
theorem dX4_song_150 : decode cX4_song 150 = .ok (.getfield 205, 3) := by decide +kernel
theorem dX4_song_153 : decode cX4_song 153 = .ok (.istore 5, 2) := by decide +kernel
theorem dX4_song_155 : decode cX4_song 155 = .ok (.iload 7, 2) := by decide +kernel
theorem dX4_song_157 : decode cX4_song 157 = .ok (.istore 6, 2) := by decide +kernel
theorem dX4_song_159 : decode cX4_song 159 = .ok (.aload_n 0, 1) := by decide +kernel
theorem dX4_song_160 : decode cX4_song 160 = .ok (.invokevirtual 193, 3) := by decide +kernel
theorem dX4_song_163 : decode cX4_song 163 = .ok (.iinc 7 1, 3) := by decide +kernel
theorem dX4_song_166 : decode cX4_song 166 = .ok (.goto (-112), 3) := by decide +kernel
theorem dX4_song_169 : decode cX4_song 169 = .ok (.iload_n 3, 1) := by decide +kernel
theorem dX4_song_170 : decode cX4_song 170 = .ok (.ifCond .ge 8, 3) := by decide +kernel
theorem dX4_song_173 : decode cX4_song 173 = .ok (.iload 4, 2) := by decide +kernel
theorem dX4_song_175 : decode cX4_song 175 = .ok (.goto 16, 3) := by decide +kernel
theorem dX4_song_178 : decode cX4_song 178 = .ok (.iload 6, 2) := by decide +kernel
theorem dX4_song_180 : decode cX4_song 180 = .ok (.iconst 3, 1) := by decide +kernel
theorem dX4_song_181 : decode cX4_song 181 = .ok (.iload_n 2, 1) := by decide +kernel
theorem dX4_song_182 : decode cX4_song 182 = .ok (.iconst 1, 1) := by decide +kernel
theorem dX4_song_183 : decode cX4_song 183 = .ok (.isub, 1) := by decide +kernel
theorem dX4_song_184 : decode cX4_song 184 = .ok (.iload_n 3, 1) := by decide +kernel
theorem dX4_song_185 : decode cX4_song 185 = .ok (.isub, 1) := by decide +kernel
theorem dX4_song_186 : decode cX4_song 186 = .ok (.imul, 1) := by decide +kernel
theorem dX4_song_187 : decode cX4_song 187 = .ok (.ishr, 1) := by decide +kernel
theorem dX4_song_188 : decode cX4_song 188 = .ok (.bipush 7, 2) := by decide +kernel
theorem dX4_song_190 : decode cX4_song 190 = .ok (.iand, 1) := by decide +kernel
theorem dX4_song_191 : decode cX4_song 191 = .ok (.ireturn, 1) := by decide +kernel
theorem dX4_toShut_0 : decode cX4_toShut 0 = .ok (.aload_n 0, 1) := by decide +kernel
theorem dX4_toShut_1 : decode cX4_toShut 1 = .ok (.iload_n 1, 1) := by decide +kernel
theorem dX4_toShut_2 : decode cX4_toShut 2 = .ok (.invokevirtual 171, 3) := by decide +kernel
theorem dX4_toShut_5 : decode cX4_toShut 5 = .ok (.ifCond .eq 46, 3) := by decide +kernel
theorem dX4_toShut_8 : decode cX4_toShut 8 = .ok (.iload_n 2, 1) := by decide +kernel
theorem dX4_toShut_9 : decode cX4_toShut 9 = .ok (.i2l, 1) := by decide +kernel
theorem dX4_toShut_10 : decode cX4_toShut 10 = .ok (.lconst 0, 1) := by decide +kernel
theorem dX4_toShut_11 : decode cX4_toShut 11 = .ok (.ldc2_w 196, 3) := by decide +kernel
theorem dX4_toShut_14 : decode cX4_toShut 14 = .ok (.invokestatic 60, 3) := by decide +kernel
theorem dX4_toShut_17 : decode cX4_toShut 17 = .ok (.ifCond .eq 34, 3) := by decide +kernel
theorem dX4_toShut_20 : decode cX4_toShut 20 = .ok (.iload_n 3, 1) := by decide +kernel
theorem dX4_toShut_21 : decode cX4_toShut 21 = .ok (.invokestatic 64, 3) := by decide +kernel
theorem dX4_toShut_24 : decode cX4_toShut 24 = .ok (.ifCond .eq 27, 3) := by decide +kernel
theorem dX4_toShut_27 : decode cX4_toShut 27 = .ok (.iload 5, 2) := by decide +kernel
theorem dX4_toShut_29 : decode cX4_toShut 29 = .ok (.i2l, 1) := by decide +kernel
theorem dX4_toShut_30 : decode cX4_toShut 30 = .ok (.lconst 0, 1) := by decide +kernel
theorem dX4_toShut_31 : decode cX4_toShut 31 = .ok (.ldc2_w 180, 3) := by decide +kernel
theorem dX4_toShut_34 : decode cX4_toShut 34 = .ok (.invokestatic 60, 3) := by decide +kernel
theorem dX4_toShut_37 : decode cX4_toShut 37 = .ok (.ifCond .eq 14, 3) := by decide +kernel
theorem dX4_toShut_40 : decode cX4_toShut 40 = .ok (.iload 6, 2) := by decide +kernel
theorem dX4_toShut_42 : decode cX4_toShut 42 = .ok (.i2l, 1) := by decide +kernel
theorem dX4_toShut_43 : decode cX4_toShut 43 = .ok (.lconst 0, 1) := by decide +kernel
theorem dX4_toShut_44 : decode cX4_toShut 44 = .ok (.lconst 1, 1) := by decide +kernel
theorem dX4_toShut_45 : decode cX4_toShut 45 = .ok (.invokestatic 60, 3) := by decide +kernel
theorem dX4_toShut_48 : decode cX4_toShut 48 = .ok (.ifCond .ne 6, 3) := by decide +kernel
theorem dX4_toShut_51 : decode cX4_toShut 51 = .ok (.ldc 70, 2) := by decide +kernel
theorem dX4_toShut_53 : decode cX4_toShut 53 = .ok (.ireturn, 1) := by decide +kernel
theorem dX4_toShut_54 : decode cX4_toShut 54 = .ok (.aload_n 0, 1) := by decide +kernel
theorem dX4_toShut_55 : decode cX4_toShut 55 = .ok (.iload_n 3, 1) := by decide +kernel
theorem dX4_toShut_56 : decode cX4_toShut 56 = .ok (.iload 4, 2) := by decide +kernel
theorem dX4_toShut_58 : decode cX4_toShut 58 = .ok (.iload 5, 2) := by decide +kernel
theorem dX4_toShut_60 : decode cX4_toShut 60 = .ok (.invokevirtual 182, 3) := by decide +kernel
theorem dX4_toShut_63 : decode cX4_toShut 63 = .ok (.istore 7, 2) := by decide +kernel
theorem dX4_toShut_65 : decode cX4_toShut 65 = .ok (.iload 7, 2) := by decide +kernel
theorem dX4_toShut_67 : decode cX4_toShut 67 = .ok (.ifCond .ge 6, 3) := by decide +kernel
theorem dX4_toShut_70 : decode cX4_toShut 70 = .ok (.iload 7, 2) := by decide +kernel
theorem dX4_toShut_72 : decode cX4_toShut 72 = .ok (.ireturn, 1) := by decide +kernel
theorem dX4_toShut_73 : decode cX4_toShut 73 = .ok (.aload_n 0, 1) := by decide +kernel
theorem dX4_toShut_74 : decode cX4_toShut 74 = .ok (.invokevirtual 186, 3) := by decide +kernel
theorem dX4_toShut_77 : decode cX4_toShut 77 = .ok (.aload_n 0, 1) := by decide +kernel
theorem dX4_toShut_78 : decode cX4_toShut 78 = .ok (.getfield 19, 3) := by decide +kernel
theorem dX4_toShut_81 : decode cX4_toShut 81 = .ok (.bipush 31, 2) := by decide +kernel
theorem dX4_toShut_83 : decode cX4_toShut 83 = .ok (.iload_n 1, 1) := by decide +kernel
theorem dX4_toShut_84 : decode cX4_toShut 84 = .ok (.iadd, 1) := by decide +kernel
theorem dX4_toShut_85 : decode cX4_toShut 85 = .ok (.iaload, 1) := by decide +kernel
theorem dX4_toShut_86 : decode cX4_toShut 86 = .ok (.istore 8, 2) := by decide +kernel
theorem dX4_toShut_88 : decode cX4_toShut 88 = .ok (.iconst (-1), 1) := by decide +kernel
theorem dX4_toShut_89 : decode cX4_toShut 89 = .ok (.istore 9, 2) := by decide +kernel
theorem dX4_toShut_91 : decode cX4_toShut 91 = .ok (.iconst 0, 1) := by decide +kernel
theorem dX4_toShut_92 : decode cX4_toShut 92 = .ok (.istore 10, 2) := by decide +kernel
theorem dX4_toShut_94 : decode cX4_toShut 94 = .ok (.iload 10, 2) := by decide +kernel
theorem dX4_toShut_96 : decode cX4_toShut 96 = .ok (.bipush 8, 2) := by decide +kernel
theorem dX4_toShut_98 : decode cX4_toShut 98 = .ok (.if_icmp .ge 93, 3) := by decide +kernel
theorem dX4_toShut_101 : decode cX4_toShut 101 = .ok (.iload 10, 2) := by decide +kernel
theorem dX4_toShut_103 : decode cX4_toShut 103 = .ok (.iload 8, 2) := by decide +kernel
theorem dX4_toShut_105 : decode cX4_toShut 105 = .ok (.iconst (-1), 1) := by decide +kernel
theorem dX4_toShut_106 : decode cX4_toShut 106 = .ok (.ixor, 1) := by decide +kernel
theorem dX4_toShut_107 : decode cX4_toShut 107 = .ok (.iand, 1) := by decide +kernel
theorem dX4_toShut_108 : decode cX4_toShut 108 = .ok (.ifCond .ne 77, 3) := by decide +kernel
theorem dX4_toShut_111 : decode cX4_toShut 111 = .ok (.iload 9, 2) := by decide +kernel
theorem dX4_toShut_113 : decode cX4_toShut 113 = .ok (.ifCond .lt 16, 3) := by decide +kernel
theorem dX4_toShut_116 : decode cX4_toShut 116 = .ok (.iload 10, 2) := by decide +kernel
theorem dX4_toShut_118 : decode cX4_toShut 118 = .ok (.invokestatic 202, 3) := by decide +kernel
theorem dX4_toShut_121 : decode cX4_toShut 121 = .ok (.iload 9, 2) := by decide +kernel
theorem dX4_toShut_123 : decode cX4_toShut 123 = .ok (.invokestatic 202, 3) := by decide +kernel
theorem dX4_toShut_126 : decode cX4_toShut 126 = .ok (.if_icmp .ge 59, 3) := by decide +kernel
theorem dX4_toShut_129 : decode cX4_toShut 129 = .ok (.aload_n 0, 1) := by decide +kernel
theorem dX4_toShut_130 : decode cX4_toShut 130 = .ok (.getfield 19, 3) := by decide +kernel
theorem dX4_toShut_133 : decode cX4_toShut 133 = .ok (.bipush 31, 2) := by decide +kernel
theorem dX4_toShut_135 : decode cX4_toShut 135 = .ok (.iload_n 1, 1) := by decide +kernel
theorem dX4_toShut_136 : decode cX4_toShut 136 = .ok (.iadd, 1) := by decide +kernel
theorem dX4_toShut_137 : decode cX4_toShut 137 = .ok (.iload 8, 2) := by decide +kernel
theorem dX4_toShut_139 : decode cX4_toShut 139 = .ok (.iload 10, 2) := by decide +kernel
theorem dX4_toShut_141 : decode cX4_toShut 141 = .ok (.iconst (-1), 1) := by decide +kernel
theorem dX4_toShut_142 : decode cX4_toShut 142 = .ok (.ixor, 1) := by decide +kernel
theorem dX4_toShut_143 : decode cX4_toShut 143 = .ok (.iand, 1) := by decide +kernel
theorem dX4_toShut_144 : decode cX4_toShut 144 = .ok (.iastore, 1) := by decide +kernel
theorem dX4_toShut_145 : decode cX4_toShut 145 = .ok (.aload_n 0, 1) := by decide +kernel
theorem dX4_toShut_146 : decode cX4_toShut 146 = .ok (.iload_n 2, 1) := by decide +kernel
theorem dX4_toShut_147 : decode cX4_toShut 147 = .ok (.bipush 40, 2) := by decide +kernel
theorem dX4_toShut_149 : decode cX4_toShut 149 = .ok (.iload_n 3, 1) := by decide +kernel
theorem dX4_toShut_150 : decode cX4_toShut 150 = .ok (.imul, 1) := by decide +kernel
theorem dX4_toShut_151 : decode cX4_toShut 151 = .ok (.iload 4, 2) := by decide +kernel
theorem dX4_toShut_153 : decode cX4_toShut 153 = .ok (.iadd, 1) := by decide +kernel
theorem dX4_toShut_154 : decode cX4_toShut 154 = .ok (.iload 5, 2) := by decide +kernel
theorem dX4_toShut_156 : decode cX4_toShut 156 = .ok (.invokevirtual 198, 3) := by decide +kernel
theorem dX4_toShut_159 : decode cX4_toShut 159 = .ok (.aload_n 0, 1) := by decide +kernel
theorem dX4_toShut_160 : decode cX4_toShut 160 = .ok (.getfield 19, 3) := by decide +kernel
theorem dX4_toShut_163 : decode cX4_toShut 163 = .ok (.bipush 41, 2) := by decide +kernel
theorem dX4_toShut_165 : decode cX4_toShut 165 = .ok (.iload_n 1, 1) := by decide +kernel
theorem dX4_toShut_166 : decode cX4_toShut 166 = .ok (.iadd, 1) := by decide +kernel
theorem dX4_toShut_167 : decode cX4_toShut 167 = .ok (.iaload, 1) := by decide +kernel
theorem dX4_toShut_168 : decode cX4_toShut 168 = .ok (.iconst 1, 1) := by decide +kernel
theorem dX4_toShut_169 : decode cX4_toShut 169 = .ok (.if_icmp .ne 8, 3) := by decide +kernel
theorem dX4_toShut_172 : decode cX4_toShut 172 = .ok (.iload 10, 2) := by decide +kernel
theorem dX4_toShut_174 : decode cX4_toShut 174 = .ok (.goto 5, 3) := by decide +kernel
theorem dX4_toShut_177 : decode cX4_toShut 177 = .ok (.iload 9, 2) := by decide +kernel
theorem dX4_toShut_179 : decode cX4_toShut 179 = .ok (.istore 9, 2) := by decide +kernel
theorem dX4_toShut_181 : decode cX4_toShut 181 = .ok (.aload_n 0, 1) := by decide +kernel
theorem dX4_toShut_182 : decode cX4_toShut 182 = .ok (.invokevirtual 193, 3) := by decide +kernel
theorem dX4_toShut_185 : decode cX4_toShut 185 = .ok (.iinc 10 1, 3) := by decide +kernel
theorem dX4_toShut_188 : decode cX4_toShut 188 = .ok (.goto (-94), 3) := by decide +kernel
theorem dX4_toShut_191 : decode cX4_toShut 191 = .ok (.aload_n 0, 1) := by decide +kernel
theorem dX4_toShut_192 : decode cX4_toShut 192 = .ok (.iload 9, 2) := by decide +kernel
theorem dX4_toShut_194 : decode cX4_toShut 194 = .ok (.ifCond .ge 8, 3) := by decide +kernel
theorem dX4_toShut_197 : decode cX4_toShut 197 = .ok (.ldc 127, 2) := by decide +kernel
theorem dX4_toShut_199 : decode cX4_toShut 199 = .ok (.goto 18, 3) := by decide +kernel
theorem dX4_toShut_202 : decode cX4_toShut 202 = .ok (.iload 6, 2) := by decide +kernel
theorem dX4_toShut_204 : decode cX4_toShut 204 = .ok (.ifCond .ne 11, 3) := by decide +kernel
theorem dX4_toShut_207 : decode cX4_toShut 207 = .ok (.iload 9, 2) := by decide +kernel
theorem dX4_toShut_209 : decode cX4_toShut 209 = .ok (.invokestatic 202, 3) := by decide +kernel
theorem dX4_toShut_212 : decode cX4_toShut 212 = .ok (.goto 5, 3) := by decide +kernel
theorem dX4_toShut_215 : decode cX4_toShut 215 = .ok (.iload 9, 2) := by decide +kernel
theorem dX4_toShut_217 : decode cX4_toShut 217 = .ok (.invokevirtual 75, 3) := by decide +kernel
theorem dX4_toShut_220 : decode cX4_toShut 220 = .ok (.ireturn, 1) := by decide +kernel
theorem dX4_modes_0 : decode cX4_modes 0 = .ok (.aload_n 0, 1) := by decide +kernel
theorem dX4_modes_1 : decode cX4_modes 1 = .ok (.iload_n 1, 1) := by decide +kernel
theorem dX4_modes_2 : decode cX4_modes 2 = .ok (.invokevirtual 171, 3) := by decide +kernel
theorem dX4_modes_5 : decode cX4_modes 5 = .ok (.ifCond .eq 55, 3) := by decide +kernel
theorem dX4_modes_8 : decode cX4_modes 8 = .ok (.aload_n 0, 1) := by decide +kernel
theorem dX4_modes_9 : decode cX4_modes 9 = .ok (.iload_n 2, 1) := by decide +kernel
theorem dX4_modes_10 : decode cX4_modes 10 = .ok (.invokevirtual 174, 3) := by decide +kernel
theorem dX4_modes_13 : decode cX4_modes 13 = .ok (.ifCond .eq 47, 3) := by decide +kernel
theorem dX4_modes_16 : decode cX4_modes 16 = .ok (.iload_n 3, 1) := by decide +kernel
theorem dX4_modes_17 : decode cX4_modes 17 = .ok (.invokestatic 64, 3) := by decide +kernel
theorem dX4_modes_20 : decode cX4_modes 20 = .ok (.ifCond .eq 40, 3) := by decide +kernel
theorem dX4_modes_23 : decode cX4_modes 23 = .ok (.iload 5, 2) := by decide +kernel
theorem dX4_modes_25 : decode cX4_modes 25 = .ok (.i2l, 1) := by decide +kernel
theorem dX4_modes_26 : decode cX4_modes 26 = .ok (.lconst 0, 1) := by decide +kernel
theorem dX4_modes_27 : decode cX4_modes 27 = .ok (.ldc2_w 180, 3) := by decide +kernel
theorem dX4_modes_30 : decode cX4_modes 30 = .ok (.invokestatic 60, 3) := by decide +kernel
theorem dX4_modes_33 : decode cX4_modes 33 = .ok (.ifCond .eq 27, 3) := by decide +kernel
theorem dX4_modes_36 : decode cX4_modes 36 = .ok (.iload 6, 2) := by decide +kernel
theorem dX4_modes_38 : decode cX4_modes 38 = .ok (.i2l, 1) := by decide +kernel
theorem dX4_modes_39 : decode cX4_modes 39 = .ok (.lconst 0, 1) := by decide +kernel
theorem dX4_modes_40 : decode cX4_modes 40 = .ok (.ldc2_w 215, 3) := by decide +kernel
theorem dX4_modes_43 : decode cX4_modes 43 = .ok (.invokestatic 60, 3) := by decide +kernel
theorem dX4_modes_46 : decode cX4_modes 46 = .ok (.ifCond .eq 14, 3) := by decide +kernel
theorem dX4_modes_49 : decode cX4_modes 49 = .ok (.iload 7, 2) := by decide +kernel
theorem dX4_modes_51 : decode cX4_modes 51 = .ok (.i2l, 1) := by decide +kernel
theorem dX4_modes_52 : decode cX4_modes 52 = .ok (.lconst 0, 1) := by decide +kernel
theorem dX4_modes_53 : decode cX4_modes 53 = .ok (.lconst 1, 1) := by decide +kernel
theorem dX4_modes_54 : decode cX4_modes 54 = .ok (.invokestatic 60, 3) := by decide +kernel
theorem dX4_modes_57 : decode cX4_modes 57 = .ok (.ifCond .ne 6, 3) := by decide +kernel
theorem dX4_modes_60 : decode cX4_modes 60 = .ok (.ldc 70, 2) := by decide +kernel
theorem dX4_modes_62 : decode cX4_modes 62 = .ok (.ireturn, 1) := by decide +kernel
theorem dX4_modes_63 : decode cX4_modes 63 = .ok (.aload_n 0, 1) := by decide +kernel
theorem dX4_modes_64 : decode cX4_modes 64 = .ok (.iload_n 3, 1) := by decide +kernel
theorem dX4_modes_65 : decode cX4_modes 65 = .ok (.iload 4, 2) := by decide +kernel
theorem dX4_modes_67 : decode cX4_modes 67 = .ok (.iload 5, 2) := by decide +kernel
theorem dX4_modes_69 : decode cX4_modes 69 = .ok (.invokevirtual 182, 3) := by decide +kernel
theorem dX4_modes_72 : decode cX4_modes 72 = .ok (.istore 8, 2) := by decide +kernel
theorem dX4_modes_74 : decode cX4_modes 74 = .ok (.iload 8, 2) := by decide +kernel
theorem dX4_modes_76 : decode cX4_modes 76 = .ok (.ifCond .ge 6, 3) := by decide +kernel
theorem dX4_modes_79 : decode cX4_modes 79 = .ok (.iload 8, 2) := by decide +kernel
theorem dX4_modes_81 : decode cX4_modes 81 = .ok (.ireturn, 1) := by decide +kernel
theorem dX4_modes_82 : decode cX4_modes 82 = .ok (.aload_n 0, 1) := by decide +kernel
theorem dX4_modes_83 : decode cX4_modes 83 = .ok (.invokevirtual 186, 3) := by decide +kernel
theorem dX4_modes_86 : decode cX4_modes 86 = .ok (.iconst 0, 1) := by decide +kernel
theorem dX4_modes_87 : decode cX4_modes 87 = .ok (.istore 9, 2) := by decide +kernel
theorem dX4_modes_89 : decode cX4_modes 89 = .ok (.ldc 127, 2) := by decide +kernel
theorem dX4_modes_91 : decode cX4_modes 91 = .ok (.istore 10, 2) := by decide +kernel
theorem dX4_modes_93 : decode cX4_modes 93 = .ok (.bipush 127, 2) := by decide +kernel
theorem dX4_modes_95 : decode cX4_modes 95 = .ok (.istore 11, 2) := by decide +kernel
theorem dX4_modes_97 : decode cX4_modes 97 = .ok (.iload 11, 2) := by decide +kernel
theorem dX4_modes_99 : decode cX4_modes 99 = .ok (.ifCond .lt 89, 3) := by decide +kernel
theorem dX4_modes_102 : decode cX4_modes 102 = .ok (.aload_n 0, 1) := by decide +kernel
theorem dX4_modes_103 : decode cX4_modes 103 = .ok (.getfield 19, 3) := by decide +kernel
theorem dX4_modes_106 : decode cX4_modes 106 = .ok (.bipush 21, 2) := by decide +kernel
theorem dX4_modes_108 : decode cX4_modes 108 = .ok (.iload_n 1, 1) := by decide +kernel
theorem dX4_modes_109 : decode cX4_modes 109 = .ok (.iadd, 1) := by decide +kernel
theorem dX4_modes_110 : decode cX4_modes 110 = .ok (.iload 11, 2) := by decide +kernel
theorem dX4_modes_112 : decode cX4_modes 112 = .ok (.iastore, 1) := by decide +kernel
theorem dX4_modes_113 : decode cX4_modes 113 = .ok (.aload_n 0, 1) := by decide +kernel
theorem dX4_modes_114 : decode cX4_modes 114 = .ok (.iload_n 2, 1) := by decide +kernel
theorem dX4_modes_115 : decode cX4_modes 115 = .ok (.bipush 40, 2) := by decide +kernel
theorem dX4_modes_117 : decode cX4_modes 117 = .ok (.iload_n 3, 1) := by decide +kernel
theorem dX4_modes_118 : decode cX4_modes 118 = .ok (.imul, 1) := by decide +kernel
theorem dX4_modes_119 : decode cX4_modes 119 = .ok (.iload 4, 2) := by decide +kernel
theorem dX4_modes_121 : decode cX4_modes 121 = .ok (.iadd, 1) := by decide +kernel
theorem dX4_modes_122 : decode cX4_modes 122 = .ok (.iload 5, 2) := by decide +kernel
theorem dX4_modes_124 : decode cX4_modes 124 = .ok (.iconst 0, 1) := by decide +kernel
theorem dX4_modes_125 : decode cX4_modes 125 = .ok (.invokevirtual 189, 3) := by decide +kernel
theorem dX4_modes_128 : decode cX4_modes 128 = .ok (.aload_n 0, 1) := by decide +kernel
theorem dX4_modes_129 : decode cX4_modes 129 = .ok (.getfield 19, 3) := by decide +kernel
theorem dX4_modes_132 : decode cX4_modes 132 = .ok (.bipush 36, 2) := by decide +kernel
theorem dX4_modes_134 : decode cX4_modes 134 = .ok (.iload_n 1, 1) := by decide +kernel
theorem dX4_modes_135 : decode cX4_modes 135 = .ok (.iadd, 1) := by decide +kernel
theorem dX4_modes_136 : decode cX4_modes 136 = .ok (.iaload, 1) := by decide +kernel
theorem dX4_modes_137 : decode cX4_modes 137 = .ok (.iload 6, 2) := by decide +kernel
theorem dX4_modes_139 : decode cX4_modes 139 = .ok (.if_icmp .ne 7, 3) := by decide +kernel
theorem dX4_modes_142 : decode cX4_modes 142 = .ok (.iconst 1, 1) := by decide +kernel
theorem dX4_modes_143 : decode cX4_modes 143 = .ok (.goto 4, 3) := by decide +kernel
theorem dX4_modes_146 : decode cX4_modes 146 = .ok (.iconst 0, 1) := by decide +kernel
theorem dX4_modes_147 : decode cX4_modes 147 = .ok (.istore 12, 2) := by decide +kernel
theorem dX4_modes_149 : decode cX4_modes 149 = .ok (.iload 9, 2) := by decide +kernel
theorem dX4_modes_151 : decode cX4_modes 151 = .ok (.iload 12, 2) := by decide +kernel
theorem dX4_modes_153 : decode cX4_modes 153 = .ok (.ifCond .eq 7, 3) := by decide +kernel
theorem dX4_modes_156 : decode cX4_modes 156 = .ok (.iconst 1, 1) := by decide +kernel
theorem dX4_modes_157 : decode cX4_modes 157 = .ok (.goto 4, 3) := by decide +kernel
theorem dX4_modes_160 : decode cX4_modes 160 = .ok (.iconst 0, 1) := by decide +kernel
theorem dX4_modes_161 : decode cX4_modes 161 = .ok (.iadd, 1) := by decide +kernel
theorem dX4_modes_162 : decode cX4_modes 162 = .ok (.istore 9, 2) := by decide +kernel
theorem dX4_modes_164 : decode cX4_modes 164 = .ok (.iload 12, 2) := by decide +kernel
theorem dX4_modes_166 : decode cX4_modes 166 = .ok (.ifCond .eq 8, 3) := by decide +kernel
theorem dX4_modes_169 : decode cX4_modes 169 = .ok (.iload 11, 2) := by decide +kernel
theorem dX4_modes_171 : decode cX4_modes 171 = .ok (.goto 5, 3) := by decide +kernel
theorem dX4_modes_174 : decode cX4_modes 174 = .ok (.iload 10, 2) := by decide +kernel
theorem dX4_modes_176 : decode cX4_modes 176 = .ok (.istore 10, 2) := by decide +kernel
theorem dX4_modes_178 : decode cX4_modes 178 = .ok (.aload_n 0, 1) := by decide +kernel
theorem dX4_modes_179 : decode cX4_modes 179 = .ok (.invokevirtual 193, 3) := by decide +kernel
theorem dX4_modes_182 : decode cX4_modes 182 = .ok (.iinc 11 (-1), 3) := by decide +kernel
theorem dX4_modes_185 : decode cX4_modes 185 = .ok (.goto (-88), 3) := by decide +kernel
theorem dX4_modes_188 : decode cX4_modes 188 = .ok (.aload_n 0, 1) := by decide +kernel
theorem dX4_modes_189 : decode cX4_modes 189 = .ok (.iload 7, 2) := by decide +kernel
theorem dX4_modes_191 : decode cX4_modes 191 = .ok (.ifCond .ne 8, 3) := by decide +kernel
theorem dX4_modes_194 : decode cX4_modes 194 = .ok (.iload 9, 2) := by decide +kernel
theorem dX4_modes_196 : decode cX4_modes 196 = .ok (.goto 5, 3) := by decide +kernel
theorem dX4_modes_199 : decode cX4_modes 199 = .ok (.iload 10, 2) := by decide +kernel
theorem dX4_modes_201 : decode cX4_modes 201 = .ok (.invokevirtual 75, 3) := by decide +kernel
theorem dX4_modes_204 : decode cX4_modes 204 = .ok (.ireturn, 1) := by decide +kernel
theorem dX4_coughs_0 : decode cX4_coughs 0 = .ok (.aload_n 0, 1) := by decide +kernel
theorem dX4_coughs_1 : decode cX4_coughs 1 = .ok (.iload_n 1, 1) := by decide +kernel
theorem dX4_coughs_2 : decode cX4_coughs 2 = .ok (.invokevirtual 171, 3) := by decide +kernel
theorem dX4_coughs_5 : decode cX4_coughs 5 = .ok (.ifCond .eq 55, 3) := by decide +kernel
theorem dX4_coughs_8 : decode cX4_coughs 8 = .ok (.aload_n 0, 1) := by decide +kernel
theorem dX4_coughs_9 : decode cX4_coughs 9 = .ok (.iload_n 2, 1) := by decide +kernel
theorem dX4_coughs_10 : decode cX4_coughs 10 = .ok (.invokevirtual 174, 3) := by decide +kernel
theorem dX4_coughs_13 : decode cX4_coughs 13 = .ok (.ifCond .eq 47, 3) := by decide +kernel
theorem dX4_coughs_16 : decode cX4_coughs 16 = .ok (.iload_n 3, 1) := by decide +kernel
theorem dX4_coughs_17 : decode cX4_coughs 17 = .ok (.invokestatic 64, 3) := by decide +kernel
theorem dX4_coughs_20 : decode cX4_coughs 20 = .ok (.ifCond .eq 40, 3) := by decide +kernel
theorem dX4_coughs_23 : decode cX4_coughs 23 = .ok (.iload 5, 2) := by decide +kernel
theorem dX4_coughs_25 : decode cX4_coughs 25 = .ok (.i2l, 1) := by decide +kernel
theorem dX4_coughs_26 : decode cX4_coughs 26 = .ok (.lconst 0, 1) := by decide +kernel
theorem dX4_coughs_27 : decode cX4_coughs 27 = .ok (.ldc2_w 196, 3) := by decide +kernel
theorem dX4_coughs_30 : decode cX4_coughs 30 = .ok (.invokestatic 60, 3) := by decide +kernel
theorem dX4_coughs_33 : decode cX4_coughs 33 = .ok (.ifCond .eq 27, 3) := by decide +kernel
theorem dX4_coughs_36 : decode cX4_coughs 36 = .ok (.iload 6, 2) := by decide +kernel
theorem dX4_coughs_38 : decode cX4_coughs 38 = .ok (.i2l, 1) := by decide +kernel
theorem dX4_coughs_39 : decode cX4_coughs 39 = .ok (.lconst 0, 1) := by decide +kernel
theorem dX4_coughs_40 : decode cX4_coughs 40 = .ok (.ldc2_w 217, 3) := by decide +kernel
theorem dX4_coughs_43 : decode cX4_coughs 43 = .ok (.invokestatic 60, 3) := by decide +kernel
theorem dX4_coughs_46 : decode cX4_coughs 46 = .ok (.ifCond .eq 14, 3) := by decide +kernel
theorem dX4_coughs_49 : decode cX4_coughs 49 = .ok (.iload 7, 2) := by decide +kernel
theorem dX4_coughs_51 : decode cX4_coughs 51 = .ok (.i2l, 1) := by decide +kernel
theorem dX4_coughs_52 : decode cX4_coughs 52 = .ok (.lconst 0, 1) := by decide +kernel
theorem dX4_coughs_53 : decode cX4_coughs 53 = .ok (.lconst 1, 1) := by decide +kernel
theorem dX4_coughs_54 : decode cX4_coughs 54 = .ok (.invokestatic 60, 3) := by decide +kernel
theorem dX4_coughs_57 : decode cX4_coughs 57 = .ok (.ifCond .ne 6, 3) := by decide +kernel
theorem dX4_coughs_60 : decode cX4_coughs 60 = .ok (.ldc 70, 2) := by decide +kernel
theorem dX4_coughs_62 : decode cX4_coughs 62 = .ok (.ireturn, 1) := by decide +kernel
theorem dX4_coughs_63 : decode cX4_coughs 63 = .ok (.aload_n 0, 1) := by decide +kernel
theorem dX4_coughs_64 : decode cX4_coughs 64 = .ok (.iload_n 3, 1) := by decide +kernel
theorem dX4_coughs_65 : decode cX4_coughs 65 = .ok (.iload 4, 2) := by decide +kernel
theorem dX4_coughs_67 : decode cX4_coughs 67 = .ok (.iload 5, 2) := by decide +kernel
theorem dX4_coughs_69 : decode cX4_coughs 69 = .ok (.invokevirtual 182, 3) := by decide +kernel
theorem dX4_coughs_72 : decode cX4_coughs 72 = .ok (.istore 8, 2) := by decide +kernel
theorem dX4_coughs_74 : decode cX4_coughs 74 = .ok (.iload 8, 2) := by decide +kernel
theorem dX4_coughs_76 : decode cX4_coughs 76 = .ok (.ifCond .ge 6, 3) := by decide +kernel
theorem dX4_coughs_79 : decode cX4_coughs 79 = .ok (.iload 8, 2) := by decide +kernel
theorem dX4_coughs_81 : decode cX4_coughs 81 = .ok (.ireturn, 1) := by decide +kernel
theorem dX4_coughs_82 : decode cX4_coughs 82 = .ok (.aload_n 0, 1) := by decide +kernel
theorem dX4_coughs_83 : decode cX4_coughs 83 = .ok (.invokevirtual 186, 3) := by decide +kernel
theorem dX4_coughs_86 : decode cX4_coughs 86 = .ok (.iconst 0, 1) := by decide +kernel
theorem dX4_coughs_87 : decode cX4_coughs 87 = .ok (.istore 9, 2) := by decide +kernel
theorem dX4_coughs_89 : decode cX4_coughs 89 = .ok (.iconst 1, 1) := by decide +kernel
theorem dX4_coughs_90 : decode cX4_coughs 90 = .ok (.istore 10, 2) := by decide +kernel
theorem dX4_coughs_92 : decode cX4_coughs 92 = .ok (.iconst 0, 1) := by decide +kernel
theorem dX4_coughs_93 : decode cX4_coughs 93 = .ok (.istore 11, 2) := by decide +kernel
theorem dX4_coughs_95 : decode cX4_coughs 95 = .ok (.iload 11, 2) := by decide +kernel
theorem dX4_coughs_97 : decode cX4_coughs 97 = .ok (.iload 5, 2) := by decide +kernel
theorem dX4_coughs_99 : decode cX4_coughs 99 = .ok (.if_icmp .ge 16, 3) := by decide +kernel
theorem dX4_coughs_102 : decode cX4_coughs 102 = .ok (.iload 10, 2) := by decide +kernel
theorem dX4_coughs_104 : decode cX4_coughs 104 = .ok (.bipush 10, 2) := by decide +kernel
theorem dX4_coughs_106 : decode cX4_coughs 106 = .ok (.imul, 1) := by decide +kernel
theorem dX4_coughs_107 : decode cX4_coughs 107 = .ok (.istore 10, 2) := by decide +kernel
theorem dX4_coughs_109 : decode cX4_coughs 109 = .ok (.iinc 11 1, 3) := by decide +kernel
theorem dX4_coughs_112 : decode cX4_coughs 112 = .ok (.goto (-17), 3) := by decide +kernel
theorem dX4_coughs_115 : decode cX4_coughs 115 = .ok (.iconst 0, 1) := by decide +kernel
theorem dX4_coughs_116 : decode cX4_coughs 116 = .ok (.istore 11, 2) := by decide +kernel
theorem dX4_coughs_118 : decode cX4_coughs 118 = .ok (.iload 11, 2) := by decide +kernel
theorem dX4_coughs_120 : decode cX4_coughs 120 = .ok (.iconst 1, 1) := by decide +kernel
theorem dX4_coughs_121 : decode cX4_coughs 121 = .ok (.iload 5, 2) := by decide +kernel
theorem dX4_coughs_123 : decode cX4_coughs 123 = .ok (.ishl, 1) := by decide +kernel
theorem dX4_coughs_124 : decode cX4_coughs 124 = .ok (.if_icmp .ge 97, 3) := by decide +kernel
theorem dX4_coughs_127 : decode cX4_coughs 127 = .ok (.iconst 1, 1) := by decide +kernel
theorem dX4_coughs_128 : decode cX4_coughs 128 = .ok (.istore 12, 2) := by decide +kernel
theorem dX4_coughs_130 : decode cX4_coughs 130 = .ok (.iconst 0, 1) := by decide +kernel
theorem dX4_coughs_131 : decode cX4_coughs 131 = .ok (.istore 13, 2) := by decide +kernel
theorem dX4_coughs_133 : decode cX4_coughs 133 = .ok (.iload 13, 2) := by decide +kernel
theorem dX4_coughs_135 : decode cX4_coughs 135 = .ok (.iload 5, 2) := by decide +kernel
theorem dX4_coughs_137 : decode cX4_coughs 137 = .ok (.if_icmp .ge 34, 3) := by decide +kernel
theorem dX4_coughs_140 : decode cX4_coughs 140 = .ok (.iload 12, 2) := by decide +kernel
theorem dX4_coughs_142 : decode cX4_coughs 142 = .ok (.iload 11, 2) := by decide +kernel
theorem dX4_coughs_144 : decode cX4_coughs 144 = .ok (.iload 13, 2) := by decide +kernel
theorem dX4_coughs_146 : decode cX4_coughs 146 = .ok (.invokestatic 149, 3) := by decide +kernel
theorem dX4_coughs_149 : decode cX4_coughs 149 = .ok (.ifCond .eq 8, 3) := by decide +kernel
theorem dX4_coughs_152 : decode cX4_coughs 152 = .ok (.iload 6, 2) := by decide +kernel
theorem dX4_coughs_154 : decode cX4_coughs 154 = .ok (.goto 8, 3) := by decide +kernel
theorem dX4_coughs_157 : decode cX4_coughs 157 = .ok (.bipush 10, 2) := by decide +kernel
theorem dX4_coughs_159 : decode cX4_coughs 159 = .ok (.iload 6, 2) := by decide +kernel
theorem dX4_coughs_161 : decode cX4_coughs 161 = .ok (.isub, 1) := by decide +kernel
theorem dX4_coughs_162 : decode cX4_coughs 162 = .ok (.imul, 1) := by decide +kernel
theorem dX4_coughs_163 : decode cX4_coughs 163 = .ok (.istore 12, 2) := by decide +kernel
theorem dX4_coughs_165 : decode cX4_coughs 165 = .ok (.iinc 13 1, 3) := by decide +kernel
theorem dX4_coughs_168 : decode cX4_coughs 168 = .ok (.goto (-35), 3) := by decide +kernel
theorem dX4_coughs_171 : decode cX4_coughs 171 = .ok (.aload_n 0, 1) := by decide +kernel
theorem dX4_coughs_172 : decode cX4_coughs 172 = .ok (.iload_n 2, 1) := by decide +kernel
theorem dX4_coughs_173 : decode cX4_coughs 173 = .ok (.bipush 40, 2) := by decide +kernel
theorem dX4_coughs_175 : decode cX4_coughs 175 = .ok (.iload_n 3, 1) := by decide +kernel
theorem dX4_coughs_176 : decode cX4_coughs 176 = .ok (.imul, 1) := by decide +kernel
theorem dX4_coughs_177 : decode cX4_coughs 177 = .ok (.iload 4, 2) := by decide +kernel
theorem dX4_coughs_179 : decode cX4_coughs 179 = .ok (.iadd, 1) := by decide +kernel
theorem dX4_coughs_180 : decode cX4_coughs 180 = .ok (.iload 5, 2) := by decide +kernel
theorem dX4_coughs_182 : decode cX4_coughs 182 = .ok (.iload 11, 2) := by decide +kernel
theorem dX4_coughs_184 : decode cX4_coughs 184 = .ok (.invokevirtual 189, 3) := by decide +kernel
theorem dX4_coughs_187 : decode cX4_coughs 187 = .ok (.iload 9, 2) := by decide +kernel
theorem dX4_coughs_189 : decode cX4_coughs 189 = .ok (.aload_n 0, 1) := by decide +kernel
theorem dX4_coughs_190 : decode cX4_coughs 190 = .ok (.getfield 19, 3) := by decide +kernel
theorem dX4_coughs_193 : decode cX4_coughs 193 = .ok (.bipush 41, 2) := by decide +kernel
theorem dX4_coughs_195 : decode cX4_coughs 195 = .ok (.iload_n 1, 1) := by decide +kernel
theorem dX4_coughs_196 : decode cX4_coughs 196 = .ok (.iadd, 1) := by decide +kernel
theorem dX4_coughs_197 : decode cX4_coughs 197 = .ok (.iaload, 1) := by decide +kernel
theorem dX4_coughs_198 : decode cX4_coughs 198 = .ok (.iconst 1, 1) := by decide +kernel
theorem dX4_coughs_199 : decode cX4_coughs 199 = .ok (.if_icmp .ne 8, 3) := by decide +kernel
theorem dX4_coughs_202 : decode cX4_coughs 202 = .ok (.iload 12, 2) := by decide +kernel
theorem dX4_coughs_204 : decode cX4_coughs 204 = .ok (.goto 4, 3) := by decide +kernel
theorem dX4_coughs_207 : decode cX4_coughs 207 = .ok (.iconst 0, 1) := by decide +kernel
theorem dX4_coughs_208 : decode cX4_coughs 208 = .ok (.iadd, 1) := by decide +kernel
theorem dX4_coughs_209 : decode cX4_coughs 209 = .ok (.istore 9, 2) := by decide +kernel
theorem dX4_coughs_211 : decode cX4_coughs 211 = .ok (.aload_n 0, 1) := by decide +kernel
theorem dX4_coughs_212 : decode cX4_coughs 212 = .ok (.invokevirtual 193, 3) := by decide +kernel
theorem dX4_coughs_215 : decode cX4_coughs 215 = .ok (.iinc 11 1, 3) := by decide +kernel
theorem dX4_coughs_218 : decode cX4_coughs 218 = .ok (.goto (-100), 3) := by decide +kernel
theorem dX4_coughs_221 : decode cX4_coughs 221 = .ok (.iload 9, 2) := by decide +kernel
theorem dX4_coughs_223 : decode cX4_coughs 223 = .ok (.istore 11, 2) := by decide +kernel
theorem dX4_coughs_225 : decode cX4_coughs 225 = .ok (.iload 10, 2) := by decide +kernel
theorem dX4_coughs_227 : decode cX4_coughs 227 = .ok (.istore 12, 2) := by decide +kernel
theorem dX4_coughs_229 : decode cX4_coughs 229 = .ok (.iload 12, 2) := by decide +kernel
theorem dX4_coughs_231 : decode cX4_coughs 231 = .ok (.ifCond .eq 21, 3) := by decide +kernel
theorem dX4_coughs_234 : decode cX4_coughs 234 = .ok (.iload 11, 2) := by decide +kernel
theorem dX4_coughs_236 : decode cX4_coughs 236 = .ok (.iload 12, 2) := by decide +kernel
theorem dX4_coughs_238 : decode cX4_coughs 238 = .ok (.irem, 1) := by decide +kernel
theorem dX4_coughs_239 : decode cX4_coughs 239 = .ok (.istore 13, 2) := by decide +kernel
theorem dX4_coughs_241 : decode cX4_coughs 241 = .ok (.iload 12, 2) := by decide +kernel
theorem dX4_coughs_243 : decode cX4_coughs 243 = .ok (.istore 11, 2) := by decide +kernel
theorem dX4_coughs_245 : decode cX4_coughs 245 = .ok (.iload 13, 2) := by decide +kernel
theorem dX4_coughs_247 : decode cX4_coughs 247 = .ok (.istore 12, 2) := by decide +kernel
theorem dX4_coughs_249 : decode cX4_coughs 249 = .ok (.goto (-20), 3) := by decide +kernel
theorem dX4_coughs_252 : decode cX4_coughs 252 = .ok (.aload_n 0, 1) := by decide +kernel
theorem dX4_coughs_253 : decode cX4_coughs 253 = .ok (.iload 7, 2) := by decide +kernel
theorem dX4_coughs_255 : decode cX4_coughs 255 = .ok (.ifCond .ne 11, 3) := by decide +kernel
theorem dX4_coughs_258 : decode cX4_coughs 258 = .ok (.iload 9, 2) := by decide +kernel
theorem dX4_coughs_260 : decode cX4_coughs 260 = .ok (.iload 11, 2) := by decide +kernel
theorem dX4_coughs_262 : decode cX4_coughs 262 = .ok (.idiv, 1) := by decide +kernel
theorem dX4_coughs_263 : decode cX4_coughs 263 = .ok (.goto 8, 3) := by decide +kernel
theorem dX4_coughs_266 : decode cX4_coughs 266 = .ok (.iload 10, 2) := by decide +kernel
theorem dX4_coughs_268 : decode cX4_coughs 268 = .ok (.iload 11, 2) := by decide +kernel
theorem dX4_coughs_270 : decode cX4_coughs 270 = .ok (.idiv, 1) := by decide +kernel
theorem dX4_coughs_271 : decode cX4_coughs 271 = .ok (.invokevirtual 75, 3) := by decide +kernel
theorem dX4_coughs_274 : decode cX4_coughs 274 = .ok (.ireturn, 1) := by decide +kernel
theorem dX4_image_0 : decode cX4_image 0 = .ok (.iload_n 1, 1) := by decide +kernel
theorem dX4_image_1 : decode cX4_image 1 = .ok (.i2l, 1) := by decide +kernel
theorem dX4_image_2 : decode cX4_image 2 = .ok (.lconst 0, 1) := by decide +kernel
theorem dX4_image_3 : decode cX4_image 3 = .ok (.lconst 1, 1) := by decide +kernel
theorem dX4_image_4 : decode cX4_image 4 = .ok (.invokestatic 60, 3) := by decide +kernel
theorem dX4_image_7 : decode cX4_image 7 = .ok (.ifCond .ne 6, 3) := by decide +kernel
theorem dX4_image_10 : decode cX4_image 10 = .ok (.ldc 70, 2) := by decide +kernel
theorem dX4_image_12 : decode cX4_image 12 = .ok (.ireturn, 1) := by decide +kernel
theorem dX4_image_13 : decode cX4_image 13 = .ok (.aload_n 0, 1) := by decide +kernel
theorem dX4_image_14 : decode cX4_image 14 = .ok (.getfield 142, 3) := by decide +kernel
theorem dX4_image_17 : decode cX4_image 17 = .ok (.ifCond .ne 6, 3) := by decide +kernel
theorem dX4_image_20 : decode cX4_image 20 = .ok (.ldc 157, 2) := by decide +kernel
theorem dX4_image_22 : decode cX4_image 22 = .ok (.ireturn, 1) := by decide +kernel
theorem dX4_image_23 : decode cX4_image 23 = .ok (.iconst 0, 1) := by decide +kernel
theorem dX4_image_24 : decode cX4_image 24 = .ok (.istore_n 2, 1) := by decide +kernel
theorem dX4_image_25 : decode cX4_image 25 = .ok (.iload_n 2, 1) := by decide +kernel
theorem dX4_image_26 : decode cX4_image 26 = .ok (.bipush 51, 2) := by decide +kernel
theorem dX4_image_28 : decode cX4_image 28 = .ok (.if_icmp .ge 26, 3) := by decide +kernel
theorem dX4_image_31 : decode cX4_image 31 = .ok (.aload_n 0, 1) := by decide +kernel
theorem dX4_image_32 : decode cX4_image 32 = .ok (.getfield 47, 3) := by decide +kernel
theorem dX4_image_35 : decode cX4_image 35 = .ok (.bipush 51, 2) := by decide +kernel
theorem dX4_image_37 : decode cX4_image 37 = .ok (.iload_n 1, 1) := by decide +kernel
theorem dX4_image_38 : decode cX4_image 38 = .ok (.imul, 1) := by decide +kernel
theorem dX4_image_39 : decode cX4_image 39 = .ok (.iload_n 2, 1) := by decide +kernel
theorem dX4_image_40 : decode cX4_image 40 = .ok (.iadd, 1) := by decide +kernel
theorem dX4_image_41 : decode cX4_image 41 = .ok (.aload_n 0, 1) := by decide +kernel
theorem dX4_image_42 : decode cX4_image 42 = .ok (.getfield 19, 3) := by decide +kernel
theorem dX4_image_45 : decode cX4_image 45 = .ok (.iload_n 2, 1) := by decide +kernel
theorem dX4_image_46 : decode cX4_image 46 = .ok (.iaload, 1) := by decide +kernel
theorem dX4_image_47 : decode cX4_image 47 = .ok (.iastore, 1) := by decide +kernel
theorem dX4_image_48 : decode cX4_image 48 = .ok (.iinc 2 1, 3) := by decide +kernel
theorem dX4_image_51 : decode cX4_image 51 = .ok (.goto (-26), 3) := by decide +kernel
theorem dX4_image_54 : decode cX4_image 54 = .ok (.aload_n 0, 1) := by decide +kernel
theorem dX4_image_55 : decode cX4_image 55 = .ok (.getfield 43, 3) := by decide +kernel
theorem dX4_image_58 : decode cX4_image 58 = .ok (.iload_n 1, 1) := by decide +kernel
theorem dX4_image_59 : decode cX4_image 59 = .ok (.iconst 1, 1) := by decide +kernel
theorem dX4_image_60 : decode cX4_image 60 = .ok (.bastore, 1) := by decide +kernel
theorem dX4_image_61 : decode cX4_image 61 = .ok (.iconst 1, 1) := by decide +kernel
theorem dX4_image_62 : decode cX4_image 62 = .ok (.ireturn, 1) := by decide +kernel
theorem dX4_restore_0 : decode cX4_restore 0 = .ok (.iload_n 1, 1) := by decide +kernel
theorem dX4_restore_1 : decode cX4_restore 1 = .ok (.i2l, 1) := by decide +kernel
theorem dX4_restore_2 : decode cX4_restore 2 = .ok (.lconst 0, 1) := by decide +kernel
theorem dX4_restore_3 : decode cX4_restore 3 = .ok (.lconst 1, 1) := by decide +kernel
theorem dX4_restore_4 : decode cX4_restore 4 = .ok (.invokestatic 60, 3) := by decide +kernel
theorem dX4_restore_7 : decode cX4_restore 7 = .ok (.ifCond .ne 6, 3) := by decide +kernel
theorem dX4_restore_10 : decode cX4_restore 10 = .ok (.ldc 70, 2) := by decide +kernel
theorem dX4_restore_12 : decode cX4_restore 12 = .ok (.ireturn, 1) := by decide +kernel
theorem dX4_restore_13 : decode cX4_restore 13 = .ok (.aload_n 0, 1) := by decide +kernel
theorem dX4_restore_14 : decode cX4_restore 14 = .ok (.getfield 43, 3) := by decide +kernel
theorem dX4_restore_17 : decode cX4_restore 17 = .ok (.iload_n 1, 1) := by decide +kernel
theorem dX4_restore_18 : decode cX4_restore 18 = .ok (.baload, 1) := by decide +kernel
theorem dX4_restore_19 : decode cX4_restore 19 = .ok (.ifCond .ne 6, 3) := by decide +kernel
theorem dX4_restore_22 : decode cX4_restore 22 = .ok (.ldc 157, 2) := by decide +kernel
theorem dX4_restore_24 : decode cX4_restore 24 = .ok (.ireturn, 1) := by decide +kernel
theorem dX4_restore_25 : decode cX4_restore 25 = .ok (.iconst 0, 1) := by decide +kernel
theorem dX4_restore_26 : decode cX4_restore 26 = .ok (.istore_n 2, 1) := by decide +kernel
theorem dX4_restore_27 : decode cX4_restore 27 = .ok (.iload_n 2, 1) := by decide +kernel
theorem dX4_restore_28 : decode cX4_restore 28 = .ok (.bipush 51, 2) := by decide +kernel
theorem dX4_restore_30 : decode cX4_restore 30 = .ok (.if_icmp .ge 26, 3) := by decide +kernel
theorem dX4_restore_33 : decode cX4_restore 33 = .ok (.aload_n 0, 1) := by decide +kernel
theorem dX4_restore_34 : decode cX4_restore 34 = .ok (.getfield 19, 3) := by decide +kernel
theorem dX4_restore_37 : decode cX4_restore 37 = .ok (.iload_n 2, 1) := by decide +kernel
theorem dX4_restore_38 : decode cX4_restore 38 = .ok (.aload_n 0, 1) := by decide +kernel
theorem dX4_restore_39 : decode cX4_restore 39 = .ok (.getfield 47, 3) := by decide +kernel
theorem dX4_restore_42 : decode cX4_restore 42 = .ok (.bipush 51, 2) := by decide +kernel
theorem dX4_restore_44 : decode cX4_restore 44 = .ok (.iload_n 1, 1) := by decide +kernel
theorem dX4_restore_45 : decode cX4_restore 45 = .ok (.imul, 1) := by decide +kernel
theorem dX4_restore_46 : decode cX4_restore 46 = .ok (.iload_n 2, 1) := by decide +kernel
theorem dX4_restore_47 : decode cX4_restore 47 = .ok (.iadd, 1) := by decide +kernel
theorem dX4_restore_48 : decode cX4_restore 48 = .ok (.iaload, 1) := by decide +kernel
theorem dX4_restore_49 : decode cX4_restore 49 = .ok (.iastore, 1) := by decide +kernel
theorem dX4_restore_50 : decode cX4_restore 50 = .ok (.iinc 2 1, 3) := by decide +kernel
theorem dX4_restore_53 : decode cX4_restore 53 = .ok (.goto (-26), 3) := by decide +kernel
theorem dX4_restore_56 : decode cX4_restore 56 = .ok (.aload_n 0, 1) := by decide +kernel
theorem dX4_restore_57 : decode cX4_restore 57 = .ok (.iconst 0, 1) := by decide +kernel
theorem dX4_restore_58 : decode cX4_restore 58 = .ok (.putfield 146, 3) := by decide +kernel
theorem dX4_restore_61 : decode cX4_restore 61 = .ok (.iconst 1, 1) := by decide +kernel
theorem dX4_restore_62 : decode cX4_restore 62 = .ok (.ireturn, 1) := by decide +kernel
theorem dX4_kind_0 : decode cX4_kind 0 = .ok (.aload_n 0, 1) := by decide +kernel
theorem dX4_kind_1 : decode cX4_kind 1 = .ok (.iload_n 1, 1) := by decide +kernel
theorem dX4_kind_2 : decode cX4_kind 2 = .ok (.invokevirtual 171, 3) := by decide +kernel
theorem dX4_kind_5 : decode cX4_kind 5 = .ok (.ifCond .eq 15, 3) := by decide +kernel
theorem dX4_kind_8 : decode cX4_kind 8 = .ok (.aload_n 0, 1) := by decide +kernel
theorem dX4_kind_9 : decode cX4_kind 9 = .ok (.getfield 19, 3) := by decide +kernel
theorem dX4_kind_12 : decode cX4_kind 12 = .ok (.bipush 16, 2) := by decide +kernel
theorem dX4_kind_14 : decode cX4_kind 14 = .ok (.iload_n 1, 1) := by decide +kernel
theorem dX4_kind_15 : decode cX4_kind 15 = .ok (.iadd, 1) := by decide +kernel
theorem dX4_kind_16 : decode cX4_kind 16 = .ok (.iaload, 1) := by decide +kernel
theorem dX4_kind_17 : decode cX4_kind 17 = .ok (.goto 5, 3) := by decide +kernel
theorem dX4_kind_20 : decode cX4_kind 20 = .ok (.ldc 70, 2) := by decide +kernel
theorem dX4_kind_22 : decode cX4_kind 22 = .ok (.ireturn, 1) := by decide +kernel
theorem dX4_isKind_0 : decode cX4_isKind 0 = .ok (.iload_n 1, 1) := by decide +kernel
theorem dX4_isKind_1 : decode cX4_isKind 1 = .ok (.ifCond .eq 28, 3) := by decide +kernel
theorem dX4_isKind_4 : decode cX4_isKind 4 = .ok (.iload_n 0, 1) := by decide +kernel
theorem dX4_isKind_5 : decode cX4_isKind 5 = .ok (.iload_n 1, 1) := by decide +kernel
theorem dX4_isKind_6 : decode cX4_isKind 6 = .ok (.if_icmp .eq 23, 3) := by decide +kernel
theorem dX4_isKind_9 : decode cX4_isKind 9 = .ok (.iload_n 1, 1) := by decide +kernel
theorem dX4_isKind_10 : decode cX4_isKind 10 = .ok (.iconst 1, 1) := by decide +kernel
theorem dX4_isKind_11 : decode cX4_isKind 11 = .ok (.if_icmp .ne 8, 3) := by decide +kernel
theorem dX4_isKind_14 : decode cX4_isKind 14 = .ok (.iload_n 0, 1) := by decide +kernel
theorem dX4_isKind_15 : decode cX4_isKind 15 = .ok (.iconst 4, 1) := by decide +kernel
theorem dX4_isKind_16 : decode cX4_isKind 16 = .ok (.if_icmp .lt 13, 3) := by decide +kernel
theorem dX4_isKind_19 : decode cX4_isKind 19 = .ok (.iload_n 1, 1) := by decide +kernel
theorem dX4_isKind_20 : decode cX4_isKind 20 = .ok (.iconst 4, 1) := by decide +kernel
theorem dX4_isKind_21 : decode cX4_isKind 21 = .ok (.if_icmp .ne 12, 3) := by decide +kernel
theorem dX4_isKind_24 : decode cX4_isKind 24 = .ok (.iload_n 0, 1) := by decide +kernel
theorem dX4_isKind_25 : decode cX4_isKind 25 = .ok (.iconst 5, 1) := by decide +kernel
theorem dX4_isKind_26 : decode cX4_isKind 26 = .ok (.if_icmp .ne 7, 3) := by decide +kernel
theorem dX4_isKind_29 : decode cX4_isKind 29 = .ok (.iconst 1, 1) := by decide +kernel
theorem dX4_isKind_30 : decode cX4_isKind 30 = .ok (.goto 4, 3) := by decide +kernel
theorem dX4_isKind_33 : decode cX4_isKind 33 = .ok (.iconst 0, 1) := by decide +kernel
theorem dX4_isKind_34 : decode cX4_isKind 34 = .ok (.ireturn, 1) := by decide +kernel
theorem dX4_as_0 : decode cX4_as 0 = .ok (.aload_n 0, 1) := by decide +kernel
theorem dX4_as_1 : decode cX4_as 1 = .ok (.iload_n 1, 1) := by decide +kernel
theorem dX4_as_2 : decode cX4_as 2 = .ok (.invokevirtual 171, 3) := by decide +kernel
theorem dX4_as_5 : decode cX4_as 5 = .ok (.ifCond .eq 15, 3) := by decide +kernel
theorem dX4_as_8 : decode cX4_as 8 = .ok (.iload_n 2, 1) := by decide +kernel
theorem dX4_as_9 : decode cX4_as 9 = .ok (.i2l, 1) := by decide +kernel
theorem dX4_as_10 : decode cX4_as 10 = .ok (.lconst 0, 1) := by decide +kernel
theorem dX4_as_11 : decode cX4_as 11 = .ok (.ldc2_w 219, 3) := by decide +kernel
theorem dX4_as_14 : decode cX4_as 14 = .ok (.invokestatic 60, 3) := by decide +kernel
theorem dX4_as_17 : decode cX4_as 17 = .ok (.ifCond .ne 6, 3) := by decide +kernel
theorem dX4_as_20 : decode cX4_as 20 = .ok (.ldc 70, 2) := by decide +kernel
theorem dX4_as_22 : decode cX4_as 22 = .ok (.ireturn, 1) := by decide +kernel
theorem dX4_as_23 : decode cX4_as 23 = .ok (.aload_n 0, 1) := by decide +kernel
theorem dX4_as_24 : decode cX4_as 24 = .ok (.getfield 19, 3) := by decide +kernel
theorem dX4_as_27 : decode cX4_as 27 = .ok (.bipush 16, 2) := by decide +kernel
theorem dX4_as_29 : decode cX4_as 29 = .ok (.iload_n 1, 1) := by decide +kernel
theorem dX4_as_30 : decode cX4_as 30 = .ok (.iadd, 1) := by decide +kernel
theorem dX4_as_31 : decode cX4_as 31 = .ok (.iaload, 1) := by decide +kernel
theorem dX4_as_32 : decode cX4_as 32 = .ok (.iload_n 2, 1) := by decide +kernel
theorem dX4_as_33 : decode cX4_as 33 = .ok (.invokestatic 221, 3) := by decide +kernel
theorem dX4_as_36 : decode cX4_as 36 = .ok (.ifCond .eq 11, 3) := by decide +kernel
theorem dX4_as_39 : decode cX4_as 39 = .ok (.aload_n 0, 1) := by decide +kernel
theorem dX4_as_40 : decode cX4_as 40 = .ok (.iload_n 1, 1) := by decide +kernel
theorem dX4_as_41 : decode cX4_as 41 = .ok (.invokevirtual 75, 3) := by decide +kernel
theorem dX4_as_44 : decode cX4_as 44 = .ok (.goto 8, 3) := by decide +kernel
theorem dX4_as_47 : decode cX4_as 47 = .ok (.aload_n 0, 1) := by decide +kernel
theorem dX4_as_48 : decode cX4_as 48 = .ok (.iconst 3, 1) := by decide +kernel
theorem dX4_as_49 : decode cX4_as 49 = .ok (.invokevirtual 71, 3) := by decide +kernel
theorem dX4_as_52 : decode cX4_as 52 = .ok (.ireturn, 1) := by decide +kernel
theorem dX4_begin_0 : decode cX4_begin 0 = .ok (.aload_n 0, 1) := by decide +kernel
theorem dX4_begin_1 : decode cX4_begin 1 = .ok (.getfield 224, 3) := by decide +kernel
theorem dX4_begin_4 : decode cX4_begin 4 = .ok (.bipush 16, 2) := by decide +kernel
theorem dX4_begin_6 : decode cX4_begin 6 = .ok (.if_icmp .ge 23, 3) := by decide +kernel
theorem dX4_begin_9 : decode cX4_begin 9 = .ok (.aload_n 0, 1) := by decide +kernel
theorem dX4_begin_10 : decode cX4_begin 10 = .ok (.getfield 50, 3) := by decide +kernel
theorem dX4_begin_13 : decode cX4_begin 13 = .ok (.aload_n 0, 1) := by decide +kernel
theorem dX4_begin_14 : decode cX4_begin 14 = .ok (.getfield 224, 3) := by decide +kernel
theorem dX4_begin_17 : decode cX4_begin 17 = .ok (.iload_n 1, 1) := by decide +kernel
theorem dX4_begin_18 : decode cX4_begin 18 = .ok (.iastore, 1) := by decide +kernel
theorem dX4_begin_19 : decode cX4_begin 19 = .ok (.aload_n 0, 1) := by decide +kernel
theorem dX4_begin_20 : decode cX4_begin 20 = .ok (.dup, 1) := by decide +kernel
theorem dX4_begin_21 : decode cX4_begin 21 = .ok (.getfield 224, 3) := by decide +kernel
theorem dX4_begin_24 : decode cX4_begin 24 = .ok (.iconst 1, 1) := by decide +kernel
theorem dX4_begin_25 : decode cX4_begin 25 = .ok (.iadd, 1) := by decide +kernel
theorem dX4_begin_26 : decode cX4_begin 26 = .ok (.putfield 224, 3) := by decide +kernel
theorem dX4_begin_29 : decode cX4_begin 29 = .ok (.return_, 1) := by decide +kernel
theorem dX4_lent_0 : decode cX4_lent 0 = .ok (.aload_n 0, 1) := by decide +kernel
theorem dX4_lent_1 : decode cX4_lent 1 = .ok (.iload_n 2, 1) := by decide +kernel
theorem dX4_lent_2 : decode cX4_lent 2 = .ok (.invokevirtual 227, 3) := by decide +kernel
theorem dX4_lent_5 : decode cX4_lent 5 = .ok (.iload_n 2, 1) := by decide +kernel
theorem dX4_lent_6 : decode cX4_lent 6 = .ok (.bipush 10, 2) := by decide +kernel
theorem dX4_lent_8 : decode cX4_lent 8 = .ok (.if_icmp .ne 15, 3) := by decide +kernel
theorem dX4_lent_11 : decode cX4_lent 11 = .ok (.aload_n 0, 1) := by decide +kernel
theorem dX4_lent_12 : decode cX4_lent 12 = .ok (.getfield 19, 3) := by decide +kernel
theorem dX4_lent_15 : decode cX4_lent 15 = .ok (.bipush 26, 2) := by decide +kernel
theorem dX4_lent_17 : decode cX4_lent 17 = .ok (.iload_n 1, 1) := by decide +kernel
theorem dX4_lent_18 : decode cX4_lent 18 = .ok (.iadd, 1) := by decide +kernel
theorem dX4_lent_19 : decode cX4_lent 19 = .ok (.iaload, 1) := by decide +kernel
theorem dX4_lent_20 : decode cX4_lent 20 = .ok (.goto 4, 3) := by decide +kernel
theorem dX4_lent_23 : decode cX4_lent 23 = .ok (.iload_n 1, 1) := by decide +kernel
theorem dX4_lent_24 : decode cX4_lent 24 = .ok (.ireturn, 1) := by decide +kernel
theorem dX4_plumMark_0 : decode cX4_plumMark 0 = .ok (.aload_n 0, 1) := by decide +kernel
theorem dX4_plumMark_1 : decode cX4_plumMark 1 = .ok (.bipush 21, 2) := by decide +kernel
theorem dX4_plumMark_3 : decode cX4_plumMark 3 = .ok (.invokevirtual 227, 3) := by decide +kernel
theorem dX4_plumMark_6 : decode cX4_plumMark 6 = .ok (.aload_n 0, 1) := by decide +kernel
theorem dX4_plumMark_7 : decode cX4_plumMark 7 = .ok (.iload_n 1, 1) := by decide +kernel
theorem dX4_plumMark_8 : decode cX4_plumMark 8 = .ok (.bipush 20, 2) := by decide +kernel
theorem dX4_plumMark_10 : decode cX4_plumMark 10 = .ok (.invokevirtual 230, 3) := by decide +kernel
theorem dX4_plumMark_13 : decode cX4_plumMark 13 = .ok (.aload_n 0, 1) := by decide +kernel
theorem dX4_plumMark_14 : decode cX4_plumMark 14 = .ok (.getfield 19, 3) := by decide +kernel
theorem dX4_plumMark_17 : decode cX4_plumMark 17 = .ok (.bipush 36, 2) := by decide +kernel
theorem dX4_plumMark_19 : decode cX4_plumMark 19 = .ok (.iload_n 1, 1) := by decide +kernel
theorem dX4_plumMark_20 : decode cX4_plumMark 20 = .ok (.iadd, 1) := by decide +kernel
theorem dX4_plumMark_21 : decode cX4_plumMark 21 = .ok (.iaload, 1) := by decide +kernel
theorem dX4_plumMark_22 : decode cX4_plumMark 22 = .ok (.iadd, 1) := by decide +kernel
theorem dX4_plumMark_23 : decode cX4_plumMark 23 = .ok (.ireturn, 1) := by decide +kernel
theorem dX4_marrowSize_0 : decode cX4_marrowSize 0 = .ok (.aload_n 0, 1) := by decide +kernel
theorem dX4_marrowSize_1 : decode cX4_marrowSize 1 = .ok (.bipush 13, 2) := by decide +kernel
theorem dX4_marrowSize_3 : decode cX4_marrowSize 3 = .ok (.invokevirtual 227, 3) := by decide +kernel
theorem dX4_marrowSize_6 : decode cX4_marrowSize 6 = .ok (.aload_n 0, 1) := by decide +kernel
theorem dX4_marrowSize_7 : decode cX4_marrowSize 7 = .ok (.iload_n 1, 1) := by decide +kernel
theorem dX4_marrowSize_8 : decode cX4_marrowSize 8 = .ok (.bipush 10, 2) := by decide +kernel
theorem dX4_marrowSize_10 : decode cX4_marrowSize 10 = .ok (.invokevirtual 230, 3) := by decide +kernel
theorem dX4_marrowSize_13 : decode cX4_marrowSize 13 = .ok (.bipush 100, 2) := by decide +kernel
theorem dX4_marrowSize_15 : decode cX4_marrowSize 15 = .ok (.isub, 1) := by decide +kernel
theorem dX4_marrowSize_16 : decode cX4_marrowSize 16 = .ok (.ireturn, 1) := by decide +kernel
theorem dX4_sizeOfMarrow_0 : decode cX4_sizeOfMarrow 0 = .ok (.aload_n 0, 1) := by decide +kernel
theorem dX4_sizeOfMarrow_1 : decode cX4_sizeOfMarrow 1 = .ok (.getfield 19, 3) := by decide +kernel
theorem dX4_sizeOfMarrow_4 : decode cX4_sizeOfMarrow 4 = .ok (.bipush 16, 2) := by decide +kernel
theorem dX4_sizeOfMarrow_6 : decode cX4_sizeOfMarrow 6 = .ok (.iload_n 1, 1) := by decide +kernel
theorem dX4_sizeOfMarrow_7 : decode cX4_sizeOfMarrow 7 = .ok (.iadd, 1) := by decide +kernel
theorem dX4_sizeOfMarrow_8 : decode cX4_sizeOfMarrow 8 = .ok (.iaload, 1) := by decide +kernel
theorem dX4_sizeOfMarrow_9 : decode cX4_sizeOfMarrow 9 = .ok (.iconst 5, 1) := by decide +kernel
theorem dX4_sizeOfMarrow_10 : decode cX4_sizeOfMarrow 10 = .ok (.if_icmp .ne 17, 3) := by decide +kernel
theorem dX4_sizeOfMarrow_13 : decode cX4_sizeOfMarrow 13 = .ok (.aload_n 0, 1) := by decide +kernel
theorem dX4_sizeOfMarrow_14 : decode cX4_sizeOfMarrow 14 = .ok (.bipush 14, 2) := by decide +kernel
theorem dX4_sizeOfMarrow_16 : decode cX4_sizeOfMarrow 16 = .ok (.invokevirtual 227, 3) := by decide +kernel
theorem dX4_sizeOfMarrow_19 : decode cX4_sizeOfMarrow 19 = .ok (.iconst 2, 1) := by decide +kernel
theorem dX4_sizeOfMarrow_20 : decode cX4_sizeOfMarrow 20 = .ok (.aload_n 0, 1) := by decide +kernel
theorem dX4_sizeOfMarrow_21 : decode cX4_sizeOfMarrow 21 = .ok (.iload_n 1, 1) := by decide +kernel
theorem dX4_sizeOfMarrow_22 : decode cX4_sizeOfMarrow 22 = .ok (.invokevirtual 233, 3) := by decide +kernel
theorem dX4_sizeOfMarrow_25 : decode cX4_sizeOfMarrow 25 = .ok (.imul, 1) := by decide +kernel
theorem dX4_sizeOfMarrow_26 : decode cX4_sizeOfMarrow 26 = .ok (.ireturn, 1) := by decide +kernel
theorem dX4_sizeOfMarrow_27 : decode cX4_sizeOfMarrow 27 = .ok (.aload_n 0, 1) := by decide +kernel
theorem dX4_sizeOfMarrow_28 : decode cX4_sizeOfMarrow 28 = .ok (.iload_n 1, 1) := by decide +kernel
theorem dX4_sizeOfMarrow_29 : decode cX4_sizeOfMarrow 29 = .ok (.invokevirtual 233, 3) := by decide +kernel
theorem dX4_sizeOfMarrow_32 : decode cX4_sizeOfMarrow 32 = .ok (.ireturn, 1) := by decide +kernel
theorem dX4_markOf_0 : decode cX4_markOf 0 = .ok (.aload_n 0, 1) := by decide +kernel
theorem dX4_markOf_1 : decode cX4_markOf 1 = .ok (.getfield 19, 3) := by decide +kernel
theorem dX4_markOf_4 : decode cX4_markOf 4 = .ok (.bipush 16, 2) := by decide +kernel
theorem dX4_markOf_6 : decode cX4_markOf 6 = .ok (.iload_n 1, 1) := by decide +kernel
theorem dX4_markOf_7 : decode cX4_markOf 7 = .ok (.iadd, 1) := by decide +kernel
theorem dX4_markOf_8 : decode cX4_markOf 8 = .ok (.iaload, 1) := by decide +kernel
theorem dX4_markOf_9 : decode cX4_markOf 9 = .ok (.istore_n 2, 1) := by decide +kernel
theorem dX4_markOf_10 : decode cX4_markOf 10 = .ok (.iload_n 2, 1) := by decide +kernel
theorem dX4_markOf_11 : decode cX4_markOf 11 = .ok (.iconst 2, 1) := by decide +kernel
theorem dX4_markOf_12 : decode cX4_markOf 12 = .ok (.if_icmp .ne 17, 3) := by decide +kernel
theorem dX4_markOf_15 : decode cX4_markOf 15 = .ok (.aload_n 0, 1) := by decide +kernel
theorem dX4_markOf_16 : decode cX4_markOf 16 = .ok (.bipush 24, 2) := by decide +kernel
theorem dX4_markOf_18 : decode cX4_markOf 18 = .ok (.invokevirtual 227, 3) := by decide +kernel
theorem dX4_markOf_21 : decode cX4_markOf 21 = .ok (.iconst 2, 1) := by decide +kernel
theorem dX4_markOf_22 : decode cX4_markOf 22 = .ok (.aload_n 0, 1) := by decide +kernel
theorem dX4_markOf_23 : decode cX4_markOf 23 = .ok (.iload_n 1, 1) := by decide +kernel
theorem dX4_markOf_24 : decode cX4_markOf 24 = .ok (.invokevirtual 236, 3) := by decide +kernel
theorem dX4_markOf_27 : decode cX4_markOf 27 = .ok (.imul, 1) := by decide +kernel
theorem dX4_markOf_28 : decode cX4_markOf 28 = .ok (.ireturn, 1) := by decide +kernel
theorem dX4_markOf_29 : decode cX4_markOf 29 = .ok (.iload_n 2, 1) := by decide +kernel
theorem dX4_markOf_30 : decode cX4_markOf 30 = .ok (.iconst 3, 1) := by decide +kernel
theorem dX4_markOf_31 : decode cX4_markOf 31 = .ok (.if_icmp .ne 19, 3) := by decide +kernel
theorem dX4_markOf_34 : decode cX4_markOf 34 = .ok (.aload_n 0, 1) := by decide +kernel
theorem dX4_markOf_35 : decode cX4_markOf 35 = .ok (.bipush 22, 2) := by decide +kernel
theorem dX4_markOf_37 : decode cX4_markOf 37 = .ok (.invokevirtual 227, 3) := by decide +kernel
theorem dX4_markOf_40 : decode cX4_markOf 40 = .ok (.aload_n 0, 1) := by decide +kernel
theorem dX4_markOf_41 : decode cX4_markOf 41 = .ok (.iload_n 1, 1) := by decide +kernel
theorem dX4_markOf_42 : decode cX4_markOf 42 = .ok (.invokevirtual 236, 3) := by decide +kernel
theorem dX4_markOf_45 : decode cX4_markOf 45 = .ok (.sipush 1000, 3) := by decide +kernel
theorem dX4_markOf_48 : decode cX4_markOf 48 = .ok (.isub, 1) := by decide +kernel
theorem dX4_markOf_49 : decode cX4_markOf 49 = .ok (.ireturn, 1) := by decide +kernel
theorem dX4_markOf_50 : decode cX4_markOf 50 = .ok (.iload_n 2, 1) := by decide +kernel
theorem dX4_markOf_51 : decode cX4_markOf 51 = .ok (.iconst 1, 1) := by decide +kernel
theorem dX4_markOf_52 : decode cX4_markOf 52 = .ok (.if_icmp .ne 9, 3) := by decide +kernel
theorem dX4_markOf_55 : decode cX4_markOf 55 = .ok (.aload_n 0, 1) := by decide +kernel
theorem dX4_markOf_56 : decode cX4_markOf 56 = .ok (.iload_n 1, 1) := by decide +kernel
theorem dX4_markOf_57 : decode cX4_markOf 57 = .ok (.invokevirtual 236, 3) := by decide +kernel
theorem dX4_markOf_60 : decode cX4_markOf 60 = .ok (.ireturn, 1) := by decide +kernel
theorem dX4_markOf_61 : decode cX4_markOf 61 = .ok (.aload_n 0, 1) := by decide +kernel
theorem dX4_markOf_62 : decode cX4_markOf 62 = .ok (.bipush 23, 2) := by decide +kernel
theorem dX4_markOf_64 : decode cX4_markOf 64 = .ok (.invokevirtual 227, 3) := by decide +kernel
theorem dX4_markOf_67 : decode cX4_markOf 67 = .ok (.aload_n 0, 1) := by decide +kernel
theorem dX4_markOf_68 : decode cX4_markOf 68 = .ok (.iload_n 1, 1) := by decide +kernel
theorem dX4_markOf_69 : decode cX4_markOf 69 = .ok (.bipush 20, 2) := by decide +kernel
theorem dX4_markOf_71 : decode cX4_markOf 71 = .ok (.invokevirtual 230, 3) := by decide +kernel
theorem dX4_markOf_74 : decode cX4_markOf 74 = .ok (.istore_n 3, 1) := by decide +kernel
theorem dX4_markOf_75 : decode cX4_markOf 75 = .ok (.iload_n 3, 1) := by decide +kernel
theorem dX4_markOf_76 : decode cX4_markOf 76 = .ok (.aload_n 0, 1) := by decide +kernel
theorem dX4_markOf_77 : decode cX4_markOf 77 = .ok (.iload_n 1, 1) := by decide +kernel
theorem dX4_markOf_78 : decode cX4_markOf 78 = .ok (.invokevirtual 239, 3) := by decide +kernel
theorem dX4_markOf_81 : decode cX4_markOf 81 = .ok (.isub, 1) := by decide +kernel
theorem dX4_markOf_82 : decode cX4_markOf 82 = .ok (.ireturn, 1) := by decide +kernel
theorem dX4_plumSize_0 : decode cX4_plumSize 0 = .ok (.aload_n 0, 1) := by decide +kernel
theorem dX4_plumSize_1 : decode cX4_plumSize 1 = .ok (.bipush 11, 2) := by decide +kernel
theorem dX4_plumSize_3 : decode cX4_plumSize 3 = .ok (.invokevirtual 227, 3) := by decide +kernel
theorem dX4_plumSize_6 : decode cX4_plumSize 6 = .ok (.aload_n 0, 1) := by decide +kernel
theorem dX4_plumSize_7 : decode cX4_plumSize 7 = .ok (.iload_n 1, 1) := by decide +kernel
theorem dX4_plumSize_8 : decode cX4_plumSize 8 = .ok (.bipush 10, 2) := by decide +kernel
theorem dX4_plumSize_10 : decode cX4_plumSize 10 = .ok (.invokevirtual 230, 3) := by decide +kernel
theorem dX4_plumSize_13 : decode cX4_plumSize 13 = .ok (.istore_n 2, 1) := by decide +kernel
theorem dX4_plumSize_14 : decode cX4_plumSize 14 = .ok (.iload_n 2, 1) := by decide +kernel
theorem dX4_plumSize_15 : decode cX4_plumSize 15 = .ok (.aload_n 0, 1) := by decide +kernel
theorem dX4_plumSize_16 : decode cX4_plumSize 16 = .ok (.iload_n 1, 1) := by decide +kernel
theorem dX4_plumSize_17 : decode cX4_plumSize 17 = .ok (.invokevirtual 242, 3) := by decide +kernel
theorem dX4_plumSize_20 : decode cX4_plumSize 20 = .ok (.iadd, 1) := by decide +kernel
theorem dX4_plumSize_21 : decode cX4_plumSize 21 = .ok (.ireturn, 1) := by decide +kernel
theorem dX4_sizeOf_0 : decode cX4_sizeOf 0 = .ok (.aload_n 0, 1) := by decide +kernel
theorem dX4_sizeOf_1 : decode cX4_sizeOf 1 = .ok (.getfield 19, 3) := by decide +kernel
theorem dX4_sizeOf_4 : decode cX4_sizeOf 4 = .ok (.bipush 16, 2) := by decide +kernel
theorem dX4_sizeOf_6 : decode cX4_sizeOf 6 = .ok (.iload_n 1, 1) := by decide +kernel
theorem dX4_sizeOf_7 : decode cX4_sizeOf 7 = .ok (.iadd, 1) := by decide +kernel
theorem dX4_sizeOf_8 : decode cX4_sizeOf 8 = .ok (.iaload, 1) := by decide +kernel
theorem dX4_sizeOf_9 : decode cX4_sizeOf 9 = .ok (.istore_n 2, 1) := by decide +kernel
theorem dX4_sizeOf_10 : decode cX4_sizeOf 10 = .ok (.iload_n 2, 1) := by decide +kernel
theorem dX4_sizeOf_11 : decode cX4_sizeOf 11 = .ok (.iconst 2, 1) := by decide +kernel
theorem dX4_sizeOf_12 : decode cX4_sizeOf 12 = .ok (.if_icmp .ne 16, 3) := by decide +kernel
theorem dX4_sizeOf_15 : decode cX4_sizeOf 15 = .ok (.aload_n 0, 1) := by decide +kernel
theorem dX4_sizeOf_16 : decode cX4_sizeOf 16 = .ok (.bipush 12, 2) := by decide +kernel
theorem dX4_sizeOf_18 : decode cX4_sizeOf 18 = .ok (.invokevirtual 227, 3) := by decide +kernel
theorem dX4_sizeOf_21 : decode cX4_sizeOf 21 = .ok (.aload_n 0, 1) := by decide +kernel
theorem dX4_sizeOf_22 : decode cX4_sizeOf 22 = .ok (.iload_n 1, 1) := by decide +kernel
theorem dX4_sizeOf_23 : decode cX4_sizeOf 23 = .ok (.invokevirtual 245, 3) := by decide +kernel
theorem dX4_sizeOf_26 : decode cX4_sizeOf 26 = .ok (.ineg, 1) := by decide +kernel
theorem dX4_sizeOf_27 : decode cX4_sizeOf 27 = .ok (.ireturn, 1) := by decide +kernel
theorem dX4_sizeOf_28 : decode cX4_sizeOf 28 = .ok (.iload_n 2, 1) := by decide +kernel
theorem dX4_sizeOf_29 : decode cX4_sizeOf 29 = .ok (.iconst 4, 1) := by decide +kernel
theorem dX4_sizeOf_30 : decode cX4_sizeOf 30 = .ok (.if_icmp .lt 11, 3) := by decide +kernel
theorem dX4_sizeOf_33 : decode cX4_sizeOf 33 = .ok (.aload_n 0, 1) := by decide +kernel
theorem dX4_sizeOf_34 : decode cX4_sizeOf 34 = .ok (.iload_n 1, 1) := by decide +kernel
theorem dX4_sizeOf_35 : decode cX4_sizeOf 35 = .ok (.invokevirtual 239, 3) := by decide +kernel
theorem dX4_sizeOf_38 : decode cX4_sizeOf 38 = .ok (.goto 8, 3) := by decide +kernel
theorem dX4_sizeOf_41 : decode cX4_sizeOf 41 = .ok (.aload_n 0, 1) := by decide +kernel
theorem dX4_sizeOf_42 : decode cX4_sizeOf 42 = .ok (.iload_n 1, 1) := by decide +kernel
theorem dX4_sizeOf_43 : decode cX4_sizeOf 43 = .ok (.invokevirtual 245, 3) := by decide +kernel
theorem dX4_sizeOf_46 : decode cX4_sizeOf 46 = .ok (.ireturn, 1) := by decide +kernel
theorem dX4_ask_0 : decode cX4_ask 0 = .ok (.aload_n 0, 1) := by decide +kernel
theorem dX4_ask_1 : decode cX4_ask 1 = .ok (.iload_n 1, 1) := by decide +kernel
theorem dX4_ask_2 : decode cX4_ask 2 = .ok (.invokevirtual 171, 3) := by decide +kernel
theorem dX4_ask_5 : decode cX4_ask 5 = .ok (.ifCond .eq 13, 3) := by decide +kernel
theorem dX4_ask_8 : decode cX4_ask 8 = .ok (.iload_n 2, 1) := by decide +kernel
theorem dX4_ask_9 : decode cX4_ask 9 = .ok (.i2l, 1) := by decide +kernel
theorem dX4_ask_10 : decode cX4_ask 10 = .ok (.lconst 0, 1) := by decide +kernel
theorem dX4_ask_11 : decode cX4_ask 11 = .ok (.lconst 1, 1) := by decide +kernel
theorem dX4_ask_12 : decode cX4_ask 12 = .ok (.invokestatic 60, 3) := by decide +kernel
theorem dX4_ask_15 : decode cX4_ask 15 = .ok (.ifCond .ne 6, 3) := by decide +kernel
theorem dX4_ask_18 : decode cX4_ask 18 = .ok (.ldc 70, 2) := by decide +kernel
theorem dX4_ask_20 : decode cX4_ask 20 = .ok (.ireturn, 1) := by decide +kernel
theorem dX4_ask_21 : decode cX4_ask 21 = .ok (.aload_n 0, 1) := by decide +kernel
theorem dX4_ask_22 : decode cX4_ask 22 = .ok (.iconst 0, 1) := by decide +kernel
theorem dX4_ask_23 : decode cX4_ask 23 = .ok (.putfield 224, 3) := by decide +kernel
theorem dX4_ask_26 : decode cX4_ask 26 = .ok (.iload_n 2, 1) := by decide +kernel
theorem dX4_ask_27 : decode cX4_ask 27 = .ok (.ifCond .ne 11, 3) := by decide +kernel
theorem dX4_ask_30 : decode cX4_ask 30 = .ok (.aload_n 0, 1) := by decide +kernel
theorem dX4_ask_31 : decode cX4_ask 31 = .ok (.iload_n 1, 1) := by decide +kernel
theorem dX4_ask_32 : decode cX4_ask 32 = .ok (.invokevirtual 248, 3) := by decide +kernel
theorem dX4_ask_35 : decode cX4_ask 35 = .ok (.goto 8, 3) := by decide +kernel
theorem dX4_ask_38 : decode cX4_ask 38 = .ok (.aload_n 0, 1) := by decide +kernel
theorem dX4_ask_39 : decode cX4_ask 39 = .ok (.iload_n 1, 1) := by decide +kernel
theorem dX4_ask_40 : decode cX4_ask 40 = .ok (.invokevirtual 242, 3) := by decide +kernel
theorem dX4_ask_43 : decode cX4_ask 43 = .ok (.ireturn, 1) := by decide +kernel
theorem dX4_trace_0 : decode cX4_trace 0 = .ok (.iload_n 1, 1) := by decide +kernel
theorem dX4_trace_1 : decode cX4_trace 1 = .ok (.i2l, 1) := by decide +kernel
theorem dX4_trace_2 : decode cX4_trace 2 = .ok (.lconst 0, 1) := by decide +kernel
theorem dX4_trace_3 : decode cX4_trace 3 = .ok (.aload_n 0, 1) := by decide +kernel
theorem dX4_trace_4 : decode cX4_trace 4 = .ok (.getfield 224, 3) := by decide +kernel
theorem dX4_trace_7 : decode cX4_trace 7 = .ok (.iconst 1, 1) := by decide +kernel
theorem dX4_trace_8 : decode cX4_trace 8 = .ok (.isub, 1) := by decide +kernel
theorem dX4_trace_9 : decode cX4_trace 9 = .ok (.i2l, 1) := by decide +kernel
theorem dX4_trace_10 : decode cX4_trace 10 = .ok (.invokestatic 60, 3) := by decide +kernel
theorem dX4_trace_13 : decode cX4_trace 13 = .ok (.ifCond .eq 12, 3) := by decide +kernel
theorem dX4_trace_16 : decode cX4_trace 16 = .ok (.aload_n 0, 1) := by decide +kernel
theorem dX4_trace_17 : decode cX4_trace 17 = .ok (.getfield 50, 3) := by decide +kernel
theorem dX4_trace_20 : decode cX4_trace 20 = .ok (.iload_n 1, 1) := by decide +kernel
theorem dX4_trace_21 : decode cX4_trace 21 = .ok (.iaload, 1) := by decide +kernel
theorem dX4_trace_22 : decode cX4_trace 22 = .ok (.goto 5, 3) := by decide +kernel
theorem dX4_trace_25 : decode cX4_trace 25 = .ok (.ldc 127, 2) := by decide +kernel
theorem dX4_trace_27 : decode cX4_trace 27 = .ok (.ireturn, 1) := by decide +kernel
theorem dX4_count_0 : decode cX4_count 0 = .ok (.iconst 0, 1) := by decide +kernel
theorem dX4_count_1 : decode cX4_count 1 = .ok (.istore_n 2, 1) := by decide +kernel
theorem dX4_count_2 : decode cX4_count 2 = .ok (.iconst 0, 1) := by decide +kernel
theorem dX4_count_3 : decode cX4_count 3 = .ok (.istore_n 3, 1) := by decide +kernel
theorem dX4_count_4 : decode cX4_count 4 = .ok (.iload_n 3, 1) := by decide +kernel
theorem dX4_count_5 : decode cX4_count 5 = .ok (.bipush 8, 2) := by decide +kernel
theorem dX4_count_7 : decode cX4_count 7 = .ok (.if_icmp .ge 26, 3) := by decide +kernel
theorem dX4_count_10 : decode cX4_count 10 = .ok (.iload_n 2, 1) := by decide +kernel
theorem dX4_count_11 : decode cX4_count 11 = .ok (.aload_n 0, 1) := by decide +kernel
theorem dX4_count_12 : decode cX4_count 12 = .ok (.getfield 13, 3) := by decide +kernel
theorem dX4_count_15 : decode cX4_count 15 = .ok (.iload_n 3, 1) := by decide +kernel
theorem dX4_count_16 : decode cX4_count 16 = .ok (.iaload, 1) := by decide +kernel
theorem dX4_count_17 : decode cX4_count 17 = .ok (.ifCond .lt 7, 3) := by decide +kernel
theorem dX4_count_20 : decode cX4_count 20 = .ok (.iconst 1, 1) := by decide +kernel
theorem dX4_count_21 : decode cX4_count 21 = .ok (.goto 4, 3) := by decide +kernel
theorem dX4_count_24 : decode cX4_count 24 = .ok (.iconst 0, 1) := by decide +kernel
theorem dX4_count_25 : decode cX4_count 25 = .ok (.iadd, 1) := by decide +kernel
theorem dX4_count_26 : decode cX4_count 26 = .ok (.istore_n 2, 1) := by decide +kernel
theorem dX4_count_27 : decode cX4_count 27 = .ok (.iinc 3 1, 3) := by decide +kernel
theorem dX4_count_30 : decode cX4_count 30 = .ok (.goto (-26), 3) := by decide +kernel
theorem dX4_count_33 : decode cX4_count 33 = .ok (.iload_n 1, 1) := by decide +kernel
theorem dX4_count_34 : decode cX4_count 34 = .ok (.tableswitch 91 0 7 #[46, 48, 55, 62, 69, 76, 81, 86], 46) := by decide +kernel
theorem dX4_count_80 : decode cX4_count 80 = .ok (.iload_n 2, 1) := by decide +kernel
theorem dX4_count_81 : decode cX4_count 81 = .ok (.ireturn, 1) := by decide +kernel
theorem dX4_count_82 : decode cX4_count 82 = .ok (.aload_n 0, 1) := by decide +kernel
theorem dX4_count_83 : decode cX4_count 83 = .ok (.getfield 19, 3) := by decide +kernel
theorem dX4_count_86 : decode cX4_count 86 = .ok (.iconst 1, 1) := by decide +kernel
theorem dX4_count_87 : decode cX4_count 87 = .ok (.iaload, 1) := by decide +kernel
theorem dX4_count_88 : decode cX4_count 88 = .ok (.ireturn, 1) := by decide +kernel
theorem dX4_count_89 : decode cX4_count 89 = .ok (.aload_n 0, 1) := by decide +kernel
theorem dX4_count_90 : decode cX4_count 90 = .ok (.getfield 19, 3) := by decide +kernel
theorem dX4_count_93 : decode cX4_count 93 = .ok (.iconst 2, 1) := by decide +kernel
theorem dX4_count_94 : decode cX4_count 94 = .ok (.iaload, 1) := by decide +kernel
theorem dX4_count_95 : decode cX4_count 95 = .ok (.ireturn, 1) := by decide +kernel
theorem dX4_count_96 : decode cX4_count 96 = .ok (.aload_n 0, 1) := by decide +kernel
theorem dX4_count_97 : decode cX4_count 97 = .ok (.getfield 19, 3) := by decide +kernel
theorem dX4_count_100 : decode cX4_count 100 = .ok (.iconst 3, 1) := by decide +kernel
theorem dX4_count_101 : decode cX4_count 101 = .ok (.iaload, 1) := by decide +kernel
theorem dX4_count_102 : decode cX4_count 102 = .ok (.ireturn, 1) := by decide +kernel
theorem dX4_count_103 : decode cX4_count 103 = .ok (.aload_n 0, 1) := by decide +kernel
theorem dX4_count_104 : decode cX4_count 104 = .ok (.getfield 19, 3) := by decide +kernel
theorem dX4_count_107 : decode cX4_count 107 = .ok (.iconst 0, 1) := by decide +kernel
theorem dX4_count_108 : decode cX4_count 108 = .ok (.iaload, 1) := by decide +kernel
theorem dX4_count_109 : decode cX4_count 109 = .ok (.ireturn, 1) := by decide +kernel
theorem dX4_count_110 : decode cX4_count 110 = .ok (.aload_n 0, 1) := by decide +kernel
theorem dX4_count_111 : decode cX4_count 111 = .ok (.invokevirtual 167, 3) := by decide +kernel
theorem dX4_count_114 : decode cX4_count 114 = .ok (.ireturn, 1) := by decide +kernel
theorem dX4_count_115 : decode cX4_count 115 = .ok (.aload_n 0, 1) := by decide +kernel
theorem dX4_count_116 : decode cX4_count 116 = .ok (.getfield 146, 3) := by decide +kernel
theorem dX4_count_119 : decode cX4_count 119 = .ok (.ireturn, 1) := by decide +kernel
theorem dX4_count_120 : decode cX4_count 120 = .ok (.aload_n 0, 1) := by decide +kernel
theorem dX4_count_121 : decode cX4_count 121 = .ok (.getfield 84, 3) := by decide +kernel
theorem dX4_count_124 : decode cX4_count 124 = .ok (.ireturn, 1) := by decide +kernel
theorem dX4_count_125 : decode cX4_count 125 = .ok (.ldc 70, 2) := by decide +kernel
theorem dX4_count_127 : decode cX4_count 127 = .ok (.ireturn, 1) := by decide +kernel
theorem dX4_status_0 : decode cX4_status 0 = .ok (.aload_n 0, 1) := by decide +kernel
theorem dX4_status_1 : decode cX4_status 1 = .ok (.getfield 53, 3) := by decide +kernel
theorem dX4_status_4 : decode cX4_status 4 = .ok (.ireturn, 1) := by decide +kernel
end
section
theorem dJ6_numberOfTrailingZeros_0f7a4_0 : decode cJ6_numberOfTrailingZeros_0f7a4 0 = .ok (.iload_n 0, 1) := by decide +kernel
theorem dJ6_numberOfTrailingZeros_0f7a4_1 : decode cJ6_numberOfTrailingZeros_0f7a4 1 = .ok (.iconst (-1), 1) := by decide +kernel
theorem dJ6_numberOfTrailingZeros_0f7a4_2 : decode cJ6_numberOfTrailingZeros_0f7a4 2 = .ok (.ixor, 1) := by decide +kernel
theorem dJ6_numberOfTrailingZeros_0f7a4_3 : decode cJ6_numberOfTrailingZeros_0f7a4 3 = .ok (.iload_n 0, 1) := by decide +kernel
theorem dJ6_numberOfTrailingZeros_0f7a4_4 : decode cJ6_numberOfTrailingZeros_0f7a4 4 = .ok (.iconst 1, 1) := by decide +kernel
theorem dJ6_numberOfTrailingZeros_0f7a4_5 : decode cJ6_numberOfTrailingZeros_0f7a4 5 = .ok (.isub, 1) := by decide +kernel
theorem dJ6_numberOfTrailingZeros_0f7a4_6 : decode cJ6_numberOfTrailingZeros_0f7a4 6 = .ok (.iand, 1) := by decide +kernel
theorem dJ6_numberOfTrailingZeros_0f7a4_7 : decode cJ6_numberOfTrailingZeros_0f7a4 7 = .ok (.istore_n 0, 1) := by decide +kernel
theorem dJ6_numberOfTrailingZeros_0f7a4_8 : decode cJ6_numberOfTrailingZeros_0f7a4 8 = .ok (.iload_n 0, 1) := by decide +kernel
theorem dJ6_numberOfTrailingZeros_0f7a4_9 : decode cJ6_numberOfTrailingZeros_0f7a4 9 = .ok (.ifCond .gt 8, 3) := by decide +kernel
theorem dJ6_numberOfTrailingZeros_0f7a4_12 : decode cJ6_numberOfTrailingZeros_0f7a4 12 = .ok (.iload_n 0, 1) := by decide +kernel
theorem dJ6_numberOfTrailingZeros_0f7a4_13 : decode cJ6_numberOfTrailingZeros_0f7a4 13 = .ok (.bipush 32, 2) := by decide +kernel
theorem dJ6_numberOfTrailingZeros_0f7a4_15 : decode cJ6_numberOfTrailingZeros_0f7a4 15 = .ok (.iand, 1) := by decide +kernel
theorem dJ6_numberOfTrailingZeros_0f7a4_16 : decode cJ6_numberOfTrailingZeros_0f7a4 16 = .ok (.ireturn, 1) := by decide +kernel
theorem dJ6_numberOfTrailingZeros_0f7a4_17 : decode cJ6_numberOfTrailingZeros_0f7a4 17 = .ok (.iconst 1, 1) := by decide +kernel
theorem dJ6_numberOfTrailingZeros_0f7a4_18 : decode cJ6_numberOfTrailingZeros_0f7a4 18 = .ok (.istore_n 1, 1) := by decide +kernel
theorem dJ6_numberOfTrailingZeros_0f7a4_19 : decode cJ6_numberOfTrailingZeros_0f7a4 19 = .ok (.iload_n 0, 1) := by decide +kernel
theorem dJ6_numberOfTrailingZeros_0f7a4_20 : decode cJ6_numberOfTrailingZeros_0f7a4 20 = .ok (.ldc_w 264, 3) := by decide +kernel
theorem dJ6_numberOfTrailingZeros_0f7a4_23 : decode cJ6_numberOfTrailingZeros_0f7a4 23 = .ok (.if_icmp .le 11, 3) := by decide +kernel
theorem dJ6_numberOfTrailingZeros_0f7a4_26 : decode cJ6_numberOfTrailingZeros_0f7a4 26 = .ok (.iinc 1 16, 3) := by decide +kernel
theorem dJ6_numberOfTrailingZeros_0f7a4_29 : decode cJ6_numberOfTrailingZeros_0f7a4 29 = .ok (.iload_n 0, 1) := by decide +kernel
theorem dJ6_numberOfTrailingZeros_0f7a4_30 : decode cJ6_numberOfTrailingZeros_0f7a4 30 = .ok (.bipush 16, 2) := by decide +kernel
theorem dJ6_numberOfTrailingZeros_0f7a4_32 : decode cJ6_numberOfTrailingZeros_0f7a4 32 = .ok (.iushr, 1) := by decide +kernel
theorem dJ6_numberOfTrailingZeros_0f7a4_33 : decode cJ6_numberOfTrailingZeros_0f7a4 33 = .ok (.istore_n 0, 1) := by decide +kernel
theorem dJ6_numberOfTrailingZeros_0f7a4_34 : decode cJ6_numberOfTrailingZeros_0f7a4 34 = .ok (.iload_n 0, 1) := by decide +kernel
theorem dJ6_numberOfTrailingZeros_0f7a4_35 : decode cJ6_numberOfTrailingZeros_0f7a4 35 = .ok (.sipush 256, 3) := by decide +kernel
theorem dJ6_numberOfTrailingZeros_0f7a4_38 : decode cJ6_numberOfTrailingZeros_0f7a4 38 = .ok (.if_icmp .le 11, 3) := by decide +kernel
theorem dJ6_numberOfTrailingZeros_0f7a4_41 : decode cJ6_numberOfTrailingZeros_0f7a4 41 = .ok (.iinc 1 8, 3) := by decide +kernel
theorem dJ6_numberOfTrailingZeros_0f7a4_44 : decode cJ6_numberOfTrailingZeros_0f7a4 44 = .ok (.iload_n 0, 1) := by decide +kernel
theorem dJ6_numberOfTrailingZeros_0f7a4_45 : decode cJ6_numberOfTrailingZeros_0f7a4 45 = .ok (.bipush 8, 2) := by decide +kernel
theorem dJ6_numberOfTrailingZeros_0f7a4_47 : decode cJ6_numberOfTrailingZeros_0f7a4 47 = .ok (.iushr, 1) := by decide +kernel
theorem dJ6_numberOfTrailingZeros_0f7a4_48 : decode cJ6_numberOfTrailingZeros_0f7a4 48 = .ok (.istore_n 0, 1) := by decide +kernel
theorem dJ6_numberOfTrailingZeros_0f7a4_49 : decode cJ6_numberOfTrailingZeros_0f7a4 49 = .ok (.iload_n 0, 1) := by decide +kernel
theorem dJ6_numberOfTrailingZeros_0f7a4_50 : decode cJ6_numberOfTrailingZeros_0f7a4 50 = .ok (.bipush 16, 2) := by decide +kernel
theorem dJ6_numberOfTrailingZeros_0f7a4_52 : decode cJ6_numberOfTrailingZeros_0f7a4 52 = .ok (.if_icmp .le 10, 3) := by decide +kernel
theorem dJ6_numberOfTrailingZeros_0f7a4_55 : decode cJ6_numberOfTrailingZeros_0f7a4 55 = .ok (.iinc 1 4, 3) := by decide +kernel
theorem dJ6_numberOfTrailingZeros_0f7a4_58 : decode cJ6_numberOfTrailingZeros_0f7a4 58 = .ok (.iload_n 0, 1) := by decide +kernel
theorem dJ6_numberOfTrailingZeros_0f7a4_59 : decode cJ6_numberOfTrailingZeros_0f7a4 59 = .ok (.iconst 4, 1) := by decide +kernel
theorem dJ6_numberOfTrailingZeros_0f7a4_60 : decode cJ6_numberOfTrailingZeros_0f7a4 60 = .ok (.iushr, 1) := by decide +kernel
theorem dJ6_numberOfTrailingZeros_0f7a4_61 : decode cJ6_numberOfTrailingZeros_0f7a4 61 = .ok (.istore_n 0, 1) := by decide +kernel
theorem dJ6_numberOfTrailingZeros_0f7a4_62 : decode cJ6_numberOfTrailingZeros_0f7a4 62 = .ok (.iload_n 0, 1) := by decide +kernel
theorem dJ6_numberOfTrailingZeros_0f7a4_63 : decode cJ6_numberOfTrailingZeros_0f7a4 63 = .ok (.iconst 4, 1) := by decide +kernel
theorem dJ6_numberOfTrailingZeros_0f7a4_64 : decode cJ6_numberOfTrailingZeros_0f7a4 64 = .ok (.if_icmp .le 10, 3) := by decide +kernel
theorem dJ6_numberOfTrailingZeros_0f7a4_67 : decode cJ6_numberOfTrailingZeros_0f7a4 67 = .ok (.iinc 1 2, 3) := by decide +kernel
theorem dJ6_numberOfTrailingZeros_0f7a4_70 : decode cJ6_numberOfTrailingZeros_0f7a4 70 = .ok (.iload_n 0, 1) := by decide +kernel
theorem dJ6_numberOfTrailingZeros_0f7a4_71 : decode cJ6_numberOfTrailingZeros_0f7a4 71 = .ok (.iconst 2, 1) := by decide +kernel
theorem dJ6_numberOfTrailingZeros_0f7a4_72 : decode cJ6_numberOfTrailingZeros_0f7a4 72 = .ok (.iushr, 1) := by decide +kernel
theorem dJ6_numberOfTrailingZeros_0f7a4_73 : decode cJ6_numberOfTrailingZeros_0f7a4 73 = .ok (.istore_n 0, 1) := by decide +kernel
theorem dJ6_numberOfTrailingZeros_0f7a4_74 : decode cJ6_numberOfTrailingZeros_0f7a4 74 = .ok (.iload_n 1, 1) := by decide +kernel
theorem dJ6_numberOfTrailingZeros_0f7a4_75 : decode cJ6_numberOfTrailingZeros_0f7a4 75 = .ok (.iload_n 0, 1) := by decide +kernel
theorem dJ6_numberOfTrailingZeros_0f7a4_76 : decode cJ6_numberOfTrailingZeros_0f7a4 76 = .ok (.iconst 1, 1) := by decide +kernel
theorem dJ6_numberOfTrailingZeros_0f7a4_77 : decode cJ6_numberOfTrailingZeros_0f7a4 77 = .ok (.iushr, 1) := by decide +kernel
theorem dJ6_numberOfTrailingZeros_0f7a4_78 : decode cJ6_numberOfTrailingZeros_0f7a4 78 = .ok (.iadd, 1) := by decide +kernel
theorem dJ6_numberOfTrailingZeros_0f7a4_79 : decode cJ6_numberOfTrailingZeros_0f7a4 79 = .ok (.ireturn, 1) := by decide +kernel
theorem dJ6_bitCount_0f7a4_0 : decode cJ6_bitCount_0f7a4 0 = .ok (.iload_n 0, 1) := by decide +kernel
theorem dJ6_bitCount_0f7a4_1 : decode cJ6_bitCount_0f7a4 1 = .ok (.iload_n 0, 1) := by decide +kernel
theorem dJ6_bitCount_0f7a4_2 : decode cJ6_bitCount_0f7a4 2 = .ok (.iconst 1, 1) := by decide +kernel
theorem dJ6_bitCount_0f7a4_3 : decode cJ6_bitCount_0f7a4 3 = .ok (.iushr, 1) := by decide +kernel
theorem dJ6_bitCount_0f7a4_4 : decode cJ6_bitCount_0f7a4 4 = .ok (.ldc_w 265, 3) := by decide +kernel
theorem dJ6_bitCount_0f7a4_7 : decode cJ6_bitCount_0f7a4 7 = .ok (.iand, 1) := by decide +kernel
theorem dJ6_bitCount_0f7a4_8 : decode cJ6_bitCount_0f7a4 8 = .ok (.isub, 1) := by decide +kernel
theorem dJ6_bitCount_0f7a4_9 : decode cJ6_bitCount_0f7a4 9 = .ok (.istore_n 0, 1) := by decide +kernel
theorem dJ6_bitCount_0f7a4_10 : decode cJ6_bitCount_0f7a4 10 = .ok (.iload_n 0, 1) := by decide +kernel
theorem dJ6_bitCount_0f7a4_11 : decode cJ6_bitCount_0f7a4 11 = .ok (.ldc_w 266, 3) := by decide +kernel
theorem dJ6_bitCount_0f7a4_14 : decode cJ6_bitCount_0f7a4 14 = .ok (.iand, 1) := by decide +kernel
theorem dJ6_bitCount_0f7a4_15 : decode cJ6_bitCount_0f7a4 15 = .ok (.iload_n 0, 1) := by decide +kernel
theorem dJ6_bitCount_0f7a4_16 : decode cJ6_bitCount_0f7a4 16 = .ok (.iconst 2, 1) := by decide +kernel
theorem dJ6_bitCount_0f7a4_17 : decode cJ6_bitCount_0f7a4 17 = .ok (.iushr, 1) := by decide +kernel
theorem dJ6_bitCount_0f7a4_18 : decode cJ6_bitCount_0f7a4 18 = .ok (.ldc_w 266, 3) := by decide +kernel
theorem dJ6_bitCount_0f7a4_21 : decode cJ6_bitCount_0f7a4 21 = .ok (.iand, 1) := by decide +kernel
theorem dJ6_bitCount_0f7a4_22 : decode cJ6_bitCount_0f7a4 22 = .ok (.iadd, 1) := by decide +kernel
theorem dJ6_bitCount_0f7a4_23 : decode cJ6_bitCount_0f7a4 23 = .ok (.istore_n 0, 1) := by decide +kernel
theorem dJ6_bitCount_0f7a4_24 : decode cJ6_bitCount_0f7a4 24 = .ok (.iload_n 0, 1) := by decide +kernel
theorem dJ6_bitCount_0f7a4_25 : decode cJ6_bitCount_0f7a4 25 = .ok (.iload_n 0, 1) := by decide +kernel
theorem dJ6_bitCount_0f7a4_26 : decode cJ6_bitCount_0f7a4 26 = .ok (.iconst 4, 1) := by decide +kernel
theorem dJ6_bitCount_0f7a4_27 : decode cJ6_bitCount_0f7a4 27 = .ok (.iushr, 1) := by decide +kernel
theorem dJ6_bitCount_0f7a4_28 : decode cJ6_bitCount_0f7a4 28 = .ok (.iadd, 1) := by decide +kernel
theorem dJ6_bitCount_0f7a4_29 : decode cJ6_bitCount_0f7a4 29 = .ok (.ldc_w 267, 3) := by decide +kernel
theorem dJ6_bitCount_0f7a4_32 : decode cJ6_bitCount_0f7a4 32 = .ok (.iand, 1) := by decide +kernel
theorem dJ6_bitCount_0f7a4_33 : decode cJ6_bitCount_0f7a4 33 = .ok (.istore_n 0, 1) := by decide +kernel
theorem dJ6_bitCount_0f7a4_34 : decode cJ6_bitCount_0f7a4 34 = .ok (.iload_n 0, 1) := by decide +kernel
theorem dJ6_bitCount_0f7a4_35 : decode cJ6_bitCount_0f7a4 35 = .ok (.iload_n 0, 1) := by decide +kernel
theorem dJ6_bitCount_0f7a4_36 : decode cJ6_bitCount_0f7a4 36 = .ok (.bipush 8, 2) := by decide +kernel
theorem dJ6_bitCount_0f7a4_38 : decode cJ6_bitCount_0f7a4 38 = .ok (.iushr, 1) := by decide +kernel
theorem dJ6_bitCount_0f7a4_39 : decode cJ6_bitCount_0f7a4 39 = .ok (.iadd, 1) := by decide +kernel
theorem dJ6_bitCount_0f7a4_40 : decode cJ6_bitCount_0f7a4 40 = .ok (.istore_n 0, 1) := by decide +kernel
theorem dJ6_bitCount_0f7a4_41 : decode cJ6_bitCount_0f7a4 41 = .ok (.iload_n 0, 1) := by decide +kernel
theorem dJ6_bitCount_0f7a4_42 : decode cJ6_bitCount_0f7a4 42 = .ok (.iload_n 0, 1) := by decide +kernel
theorem dJ6_bitCount_0f7a4_43 : decode cJ6_bitCount_0f7a4 43 = .ok (.bipush 16, 2) := by decide +kernel
theorem dJ6_bitCount_0f7a4_45 : decode cJ6_bitCount_0f7a4 45 = .ok (.iushr, 1) := by decide +kernel
theorem dJ6_bitCount_0f7a4_46 : decode cJ6_bitCount_0f7a4 46 = .ok (.iadd, 1) := by decide +kernel
theorem dJ6_bitCount_0f7a4_47 : decode cJ6_bitCount_0f7a4 47 = .ok (.istore_n 0, 1) := by decide +kernel
theorem dJ6_bitCount_0f7a4_48 : decode cJ6_bitCount_0f7a4 48 = .ok (.iload_n 0, 1) := by decide +kernel
theorem dJ6_bitCount_0f7a4_49 : decode cJ6_bitCount_0f7a4 49 = .ok (.bipush 63, 2) := by decide +kernel
theorem dJ6_bitCount_0f7a4_51 : decode cJ6_bitCount_0f7a4 51 = .ok (.iand, 1) := by decide +kernel
theorem dJ6_bitCount_0f7a4_52 : decode cJ6_bitCount_0f7a4 52 = .ok (.ireturn, 1) := by decide +kernel
theorem dJ9_abs_0f7a4_0 : decode cJ9_abs_0f7a4 0 = .ok (.iload_n 0, 1) := by decide +kernel
theorem dJ9_abs_0f7a4_1 : decode cJ9_abs_0f7a4 1 = .ok (.ifCond .ge 8, 3) := by decide +kernel
theorem dJ9_abs_0f7a4_4 : decode cJ9_abs_0f7a4 4 = .ok (.iload_n 0, 1) := by decide +kernel
theorem dJ9_abs_0f7a4_5 : decode cJ9_abs_0f7a4 5 = .ok (.ineg, 1) := by decide +kernel
theorem dJ9_abs_0f7a4_6 : decode cJ9_abs_0f7a4 6 = .ok (.goto 4, 3) := by decide +kernel
theorem dJ9_abs_0f7a4_9 : decode cJ9_abs_0f7a4 9 = .ok (.iload_n 0, 1) := by decide +kernel
theorem dJ9_abs_0f7a4_10 : decode cJ9_abs_0f7a4 10 = .ok (.ireturn, 1) := by decide +kernel
theorem dJ9_max_7cf53_0 : decode cJ9_max_7cf53 0 = .ok (.iload_n 0, 1) := by decide +kernel
theorem dJ9_max_7cf53_1 : decode cJ9_max_7cf53 1 = .ok (.iload_n 1, 1) := by decide +kernel
theorem dJ9_max_7cf53_2 : decode cJ9_max_7cf53 2 = .ok (.if_icmp .lt 7, 3) := by decide +kernel
theorem dJ9_max_7cf53_5 : decode cJ9_max_7cf53 5 = .ok (.iload_n 0, 1) := by decide +kernel
theorem dJ9_max_7cf53_6 : decode cJ9_max_7cf53 6 = .ok (.goto 4, 3) := by decide +kernel
theorem dJ9_max_7cf53_9 : decode cJ9_max_7cf53 9 = .ok (.iload_n 1, 1) := by decide +kernel
theorem dJ9_max_7cf53_10 : decode cJ9_max_7cf53 10 = .ok (.ireturn, 1) := by decide +kernel
theorem dJ9_min_7cf53_0 : decode cJ9_min_7cf53 0 = .ok (.iload_n 0, 1) := by decide +kernel
theorem dJ9_min_7cf53_1 : decode cJ9_min_7cf53 1 = .ok (.iload_n 1, 1) := by decide +kernel
theorem dJ9_min_7cf53_2 : decode cJ9_min_7cf53 2 = .ok (.if_icmp .gt 7, 3) := by decide +kernel
theorem dJ9_min_7cf53_5 : decode cJ9_min_7cf53 5 = .ok (.iload_n 0, 1) := by decide +kernel
theorem dJ9_min_7cf53_6 : decode cJ9_min_7cf53 6 = .ok (.goto 4, 3) := by decide +kernel
theorem dJ9_min_7cf53_9 : decode cJ9_min_7cf53 9 = .ok (.iload_n 1, 1) := by decide +kernel
theorem dJ9_min_7cf53_10 : decode cJ9_min_7cf53 10 = .ok (.ireturn, 1) := by decide +kernel
theorem dJ7_fill_53178_0 : decode cJ7_fill_53178 0 = .ok (.iconst 0, 1) := by decide +kernel
theorem dJ7_fill_53178_1 : decode cJ7_fill_53178 1 = .ok (.istore_n 2, 1) := by decide +kernel
theorem dJ7_fill_53178_2 : decode cJ7_fill_53178 2 = .ok (.aload_n 0, 1) := by decide +kernel
theorem dJ7_fill_53178_3 : decode cJ7_fill_53178 3 = .ok (.arraylength, 1) := by decide +kernel
theorem dJ7_fill_53178_4 : decode cJ7_fill_53178 4 = .ok (.istore_n 3, 1) := by decide +kernel
theorem dJ7_fill_53178_5 : decode cJ7_fill_53178 5 = .ok (.iload_n 2, 1) := by decide +kernel
theorem dJ7_fill_53178_6 : decode cJ7_fill_53178 6 = .ok (.iload_n 3, 1) := by decide +kernel
theorem dJ7_fill_53178_7 : decode cJ7_fill_53178 7 = .ok (.if_icmp .ge 13, 3) := by decide +kernel
theorem dJ7_fill_53178_10 : decode cJ7_fill_53178 10 = .ok (.aload_n 0, 1) := by decide +kernel
theorem dJ7_fill_53178_11 : decode cJ7_fill_53178 11 = .ok (.iload_n 2, 1) := by decide +kernel
theorem dJ7_fill_53178_12 : decode cJ7_fill_53178 12 = .ok (.iload_n 1, 1) := by decide +kernel
theorem dJ7_fill_53178_13 : decode cJ7_fill_53178 13 = .ok (.iastore, 1) := by decide +kernel
theorem dJ7_fill_53178_14 : decode cJ7_fill_53178 14 = .ok (.iinc 2 1, 3) := by decide +kernel
theorem dJ7_fill_53178_17 : decode cJ7_fill_53178 17 = .ok (.goto (-12), 3) := by decide +kernel
theorem dJ7_fill_53178_20 : decode cJ7_fill_53178 20 = .ok (.return_, 1) := by decide +kernel
theorem dL_law_0 : decode cL_law 0 = .ok (.new 7, 3) := by decide +kernel
theorem dL_law_3 : decode cL_law 3 = .ok (.dup, 1) := by decide +kernel
theorem dL_law_4 : decode cL_law 4 = .ok (.invokespecial 9, 3) := by decide +kernel
theorem dL_law_7 : decode cL_law 7 = .ok (.astore_n 1, 1) := by decide +kernel
theorem dL_law_8 : decode cL_law 8 = .ok (.new 10, 3) := by decide +kernel
theorem dL_law_11 : decode cL_law 11 = .ok (.dup, 1) := by decide +kernel
theorem dL_law_12 : decode cL_law 12 = .ok (.invokespecial 12, 3) := by decide +kernel
theorem dL_law_15 : decode cL_law 15 = .ok (.astore_n 2, 1) := by decide +kernel
theorem dL_law_16 : decode cL_law 16 = .ok (.iconst 0, 1) := by decide +kernel
theorem dL_law_17 : decode cL_law 17 = .ok (.istore_n 3, 1) := by decide +kernel
theorem dL_law_18 : decode cL_law 18 = .ok (.iload_n 3, 1) := by decide +kernel
theorem dL_law_19 : decode cL_law 19 = .ok (.aload_n 0, 1) := by decide +kernel
theorem dL_law_20 : decode cL_law 20 = .ok (.arraylength, 1) := by decide +kernel
theorem dL_law_21 : decode cL_law 21 = .ok (.bipush 8, 2) := by decide +kernel
theorem dL_law_23 : decode cL_law 23 = .ok (.isub, 1) := by decide +kernel
theorem dL_law_24 : decode cL_law 24 = .ok (.if_icmp .gt 1169, 3) := by decide +kernel
theorem dL_law_27 : decode cL_law 27 = .ok (.aload_n 0, 1) := by decide +kernel
theorem dL_law_28 : decode cL_law 28 = .ok (.iload_n 3, 1) := by decide +kernel
theorem dL_law_29 : decode cL_law 29 = .ok (.iaload, 1) := by decide +kernel
theorem dL_law_30 : decode cL_law 30 = .ok (.bipush 31, 2) := by decide +kernel
theorem dL_law_32 : decode cL_law 32 = .ok (.iand, 1) := by decide +kernel
theorem dL_law_33 : decode cL_law 33 = .ok (.tableswitch 1154 0 26 #[123, 166, 209, 272, 295, 318, 331, 344, 387, 430, 443, 476, 509, 562, 615, 668, 711, 786, 873, 960, 983, 1006, 1029, 1062, 1095, 1118, 1141], 123) := by decide +kernel
theorem dL_law_156 : decode cL_law 156 = .ok (.aload_n 1, 1) := by decide +kernel
theorem dL_law_157 : decode cL_law 157 = .ok (.aload_n 0, 1) := by decide +kernel
theorem dL_law_158 : decode cL_law 158 = .ok (.iload_n 3, 1) := by decide +kernel
theorem dL_law_159 : decode cL_law 159 = .ok (.iconst 1, 1) := by decide +kernel
theorem dL_law_160 : decode cL_law 160 = .ok (.iadd, 1) := by decide +kernel
theorem dL_law_161 : decode cL_law 161 = .ok (.iaload, 1) := by decide +kernel
theorem dL_law_162 : decode cL_law 162 = .ok (.aload_n 0, 1) := by decide +kernel
theorem dL_law_163 : decode cL_law 163 = .ok (.iload_n 3, 1) := by decide +kernel
theorem dL_law_164 : decode cL_law 164 = .ok (.iconst 2, 1) := by decide +kernel
theorem dL_law_165 : decode cL_law 165 = .ok (.iadd, 1) := by decide +kernel
theorem dL_law_166 : decode cL_law 166 = .ok (.iaload, 1) := by decide +kernel
theorem dL_law_167 : decode cL_law 167 = .ok (.aload_n 0, 1) := by decide +kernel
theorem dL_law_168 : decode cL_law 168 = .ok (.iload_n 3, 1) := by decide +kernel
theorem dL_law_169 : decode cL_law 169 = .ok (.iconst 3, 1) := by decide +kernel
theorem dL_law_170 : decode cL_law 170 = .ok (.iadd, 1) := by decide +kernel
theorem dL_law_171 : decode cL_law 171 = .ok (.iaload, 1) := by decide +kernel
theorem dL_law_172 : decode cL_law 172 = .ok (.invokevirtual 13, 3) := by decide +kernel
theorem dL_law_175 : decode cL_law 175 = .ok (.aload_n 2, 1) := by decide +kernel
theorem dL_law_176 : decode cL_law 176 = .ok (.aload_n 0, 1) := by decide +kernel
theorem dL_law_177 : decode cL_law 177 = .ok (.iload_n 3, 1) := by decide +kernel
theorem dL_law_178 : decode cL_law 178 = .ok (.iconst 1, 1) := by decide +kernel
theorem dL_law_179 : decode cL_law 179 = .ok (.iadd, 1) := by decide +kernel
theorem dL_law_180 : decode cL_law 180 = .ok (.iaload, 1) := by decide +kernel
theorem dL_law_181 : decode cL_law 181 = .ok (.aload_n 0, 1) := by decide +kernel
theorem dL_law_182 : decode cL_law 182 = .ok (.iload_n 3, 1) := by decide +kernel
theorem dL_law_183 : decode cL_law 183 = .ok (.iconst 2, 1) := by decide +kernel
theorem dL_law_184 : decode cL_law 184 = .ok (.iadd, 1) := by decide +kernel
theorem dL_law_185 : decode cL_law 185 = .ok (.iaload, 1) := by decide +kernel
theorem dL_law_186 : decode cL_law 186 = .ok (.aload_n 0, 1) := by decide +kernel
theorem dL_law_187 : decode cL_law 187 = .ok (.iload_n 3, 1) := by decide +kernel
theorem dL_law_188 : decode cL_law 188 = .ok (.iconst 3, 1) := by decide +kernel
theorem dL_law_189 : decode cL_law 189 = .ok (.iadd, 1) := by decide +kernel
theorem dL_law_190 : decode cL_law 190 = .ok (.iaload, 1) := by decide +kernel
theorem dL_law_191 : decode cL_law 191 = .ok (.invokevirtual 17, 3) := by decide +kernel
theorem dL_law_194 : decode cL_law 194 = .ok (.if_icmp .eq 993, 3) := by decide +kernel
theorem dL_law_197 : decode cL_law 197 = .ok (.iconst 0, 1) := by decide +kernel
theorem dL_law_198 : decode cL_law 198 = .ok (.ireturn, 1) := by decide +kernel
theorem dL_law_199 : decode cL_law 199 = .ok (.aload_n 1, 1) := by decide +kernel
theorem dL_law_200 : decode cL_law 200 = .ok (.aload_n 0, 1) := by decide +kernel
theorem dL_law_201 : decode cL_law 201 = .ok (.iload_n 3, 1) := by decide +kernel
theorem dL_law_202 : decode cL_law 202 = .ok (.iconst 1, 1) := by decide +kernel
theorem dL_law_203 : decode cL_law 203 = .ok (.iadd, 1) := by decide +kernel
theorem dL_law_204 : decode cL_law 204 = .ok (.iaload, 1) := by decide +kernel
theorem dL_law_205 : decode cL_law 205 = .ok (.aload_n 0, 1) := by decide +kernel
theorem dL_law_206 : decode cL_law 206 = .ok (.iload_n 3, 1) := by decide +kernel
theorem dL_law_207 : decode cL_law 207 = .ok (.iconst 2, 1) := by decide +kernel
theorem dL_law_208 : decode cL_law 208 = .ok (.iadd, 1) := by decide +kernel
theorem dL_law_209 : decode cL_law 209 = .ok (.iaload, 1) := by decide +kernel
theorem dL_law_210 : decode cL_law 210 = .ok (.aload_n 0, 1) := by decide +kernel
theorem dL_law_211 : decode cL_law 211 = .ok (.iload_n 3, 1) := by decide +kernel
theorem dL_law_212 : decode cL_law 212 = .ok (.iconst 3, 1) := by decide +kernel
theorem dL_law_213 : decode cL_law 213 = .ok (.iadd, 1) := by decide +kernel
theorem dL_law_214 : decode cL_law 214 = .ok (.iaload, 1) := by decide +kernel
theorem dL_law_215 : decode cL_law 215 = .ok (.invokevirtual 18, 3) := by decide +kernel
theorem dL_law_218 : decode cL_law 218 = .ok (.aload_n 2, 1) := by decide +kernel
theorem dL_law_219 : decode cL_law 219 = .ok (.aload_n 0, 1) := by decide +kernel
theorem dL_law_220 : decode cL_law 220 = .ok (.iload_n 3, 1) := by decide +kernel
theorem dL_law_221 : decode cL_law 221 = .ok (.iconst 1, 1) := by decide +kernel
theorem dL_law_222 : decode cL_law 222 = .ok (.iadd, 1) := by decide +kernel
theorem dL_law_223 : decode cL_law 223 = .ok (.iaload, 1) := by decide +kernel
theorem dL_law_224 : decode cL_law 224 = .ok (.aload_n 0, 1) := by decide +kernel
theorem dL_law_225 : decode cL_law 225 = .ok (.iload_n 3, 1) := by decide +kernel
theorem dL_law_226 : decode cL_law 226 = .ok (.iconst 2, 1) := by decide +kernel
theorem dL_law_227 : decode cL_law 227 = .ok (.iadd, 1) := by decide +kernel
theorem dL_law_228 : decode cL_law 228 = .ok (.iaload, 1) := by decide +kernel
theorem dL_law_229 : decode cL_law 229 = .ok (.aload_n 0, 1) := by decide +kernel
theorem dL_law_230 : decode cL_law 230 = .ok (.iload_n 3, 1) := by decide +kernel
theorem dL_law_231 : decode cL_law 231 = .ok (.iconst 3, 1) := by decide +kernel
theorem dL_law_232 : decode cL_law 232 = .ok (.iadd, 1) := by decide +kernel
theorem dL_law_233 : decode cL_law 233 = .ok (.iaload, 1) := by decide +kernel
theorem dL_law_234 : decode cL_law 234 = .ok (.invokevirtual 21, 3) := by decide +kernel
theorem dL_law_237 : decode cL_law 237 = .ok (.if_icmp .eq 950, 3) := by decide +kernel
theorem dL_law_240 : decode cL_law 240 = .ok (.iconst 0, 1) := by decide +kernel
theorem dL_law_241 : decode cL_law 241 = .ok (.ireturn, 1) := by decide +kernel
theorem dL_law_242 : decode cL_law 242 = .ok (.aload_n 1, 1) := by decide +kernel
theorem dL_law_243 : decode cL_law 243 = .ok (.aload_n 0, 1) := by decide +kernel
theorem dL_law_244 : decode cL_law 244 = .ok (.iload_n 3, 1) := by decide +kernel
theorem dL_law_245 : decode cL_law 245 = .ok (.iconst 1, 1) := by decide +kernel
theorem dL_law_246 : decode cL_law 246 = .ok (.iadd, 1) := by decide +kernel
theorem dL_law_247 : decode cL_law 247 = .ok (.iaload, 1) := by decide +kernel
theorem dL_law_248 : decode cL_law 248 = .ok (.aload_n 0, 1) := by decide +kernel
theorem dL_law_249 : decode cL_law 249 = .ok (.iload_n 3, 1) := by decide +kernel
theorem dL_law_250 : decode cL_law 250 = .ok (.iconst 2, 1) := by decide +kernel
theorem dL_law_251 : decode cL_law 251 = .ok (.iadd, 1) := by decide +kernel
theorem dL_law_252 : decode cL_law 252 = .ok (.iaload, 1) := by decide +kernel
theorem dL_law_253 : decode cL_law 253 = .ok (.aload_n 0, 1) := by decide +kernel
theorem dL_law_254 : decode cL_law 254 = .ok (.iload_n 3, 1) := by decide +kernel
theorem dL_law_255 : decode cL_law 255 = .ok (.iconst 3, 1) := by decide +kernel
theorem dL_law_256 : decode cL_law 256 = .ok (.iadd, 1) := by decide +kernel
theorem dL_law_257 : decode cL_law 257 = .ok (.iaload, 1) := by decide +kernel
theorem dL_law_258 : decode cL_law 258 = .ok (.aload_n 0, 1) := by decide +kernel
theorem dL_law_259 : decode cL_law 259 = .ok (.iload_n 3, 1) := by decide +kernel
theorem dL_law_260 : decode cL_law 260 = .ok (.iconst 4, 1) := by decide +kernel
theorem dL_law_261 : decode cL_law 261 = .ok (.iadd, 1) := by decide +kernel
theorem dL_law_262 : decode cL_law 262 = .ok (.iaload, 1) := by decide +kernel
theorem dL_law_263 : decode cL_law 263 = .ok (.aload_n 0, 1) := by decide +kernel
theorem dL_law_264 : decode cL_law 264 = .ok (.iload_n 3, 1) := by decide +kernel
theorem dL_law_265 : decode cL_law 265 = .ok (.iconst 5, 1) := by decide +kernel
theorem dL_law_266 : decode cL_law 266 = .ok (.iadd, 1) := by decide +kernel
theorem dL_law_267 : decode cL_law 267 = .ok (.iaload, 1) := by decide +kernel
theorem dL_law_268 : decode cL_law 268 = .ok (.invokevirtual 22, 3) := by decide +kernel
theorem dL_law_271 : decode cL_law 271 = .ok (.aload_n 2, 1) := by decide +kernel
theorem dL_law_272 : decode cL_law 272 = .ok (.aload_n 0, 1) := by decide +kernel
theorem dL_law_273 : decode cL_law 273 = .ok (.iload_n 3, 1) := by decide +kernel
theorem dL_law_274 : decode cL_law 274 = .ok (.iconst 1, 1) := by decide +kernel
theorem dL_law_275 : decode cL_law 275 = .ok (.iadd, 1) := by decide +kernel
theorem dL_law_276 : decode cL_law 276 = .ok (.iaload, 1) := by decide +kernel
theorem dL_law_277 : decode cL_law 277 = .ok (.aload_n 0, 1) := by decide +kernel
theorem dL_law_278 : decode cL_law 278 = .ok (.iload_n 3, 1) := by decide +kernel
theorem dL_law_279 : decode cL_law 279 = .ok (.iconst 2, 1) := by decide +kernel
theorem dL_law_280 : decode cL_law 280 = .ok (.iadd, 1) := by decide +kernel
theorem dL_law_281 : decode cL_law 281 = .ok (.iaload, 1) := by decide +kernel
theorem dL_law_282 : decode cL_law 282 = .ok (.aload_n 0, 1) := by decide +kernel
theorem dL_law_283 : decode cL_law 283 = .ok (.iload_n 3, 1) := by decide +kernel
theorem dL_law_284 : decode cL_law 284 = .ok (.iconst 3, 1) := by decide +kernel
theorem dL_law_285 : decode cL_law 285 = .ok (.iadd, 1) := by decide +kernel
theorem dL_law_286 : decode cL_law 286 = .ok (.iaload, 1) := by decide +kernel
theorem dL_law_287 : decode cL_law 287 = .ok (.aload_n 0, 1) := by decide +kernel
theorem dL_law_288 : decode cL_law 288 = .ok (.iload_n 3, 1) := by decide +kernel
theorem dL_law_289 : decode cL_law 289 = .ok (.iconst 4, 1) := by decide +kernel
theorem dL_law_290 : decode cL_law 290 = .ok (.iadd, 1) := by decide +kernel
theorem dL_law_291 : decode cL_law 291 = .ok (.iaload, 1) := by decide +kernel
theorem dL_law_292 : decode cL_law 292 = .ok (.aload_n 0, 1) := by decide +kernel
theorem dL_law_293 : decode cL_law 293 = .ok (.iload_n 3, 1) := by decide +kernel
theorem dL_law_294 : decode cL_law 294 = .ok (.iconst 5, 1) := by decide +kernel
theorem dL_law_295 : decode cL_law 295 = .ok (.iadd, 1) := by decide +kernel
theorem dL_law_296 : decode cL_law 296 = .ok (.iaload, 1) := by decide +kernel
theorem dL_law_297 : decode cL_law 297 = .ok (.invokevirtual 26, 3) := by decide +kernel
theorem dL_law_300 : decode cL_law 300 = .ok (.if_icmp .eq 887, 3) := by decide +kernel
theorem dL_law_303 : decode cL_law 303 = .ok (.iconst 0, 1) := by decide +kernel
theorem dL_law_304 : decode cL_law 304 = .ok (.ireturn, 1) := by decide +kernel
theorem dL_law_305 : decode cL_law 305 = .ok (.aload_n 1, 1) := by decide +kernel
theorem dL_law_306 : decode cL_law 306 = .ok (.aload_n 0, 1) := by decide +kernel
theorem dL_law_307 : decode cL_law 307 = .ok (.iload_n 3, 1) := by decide +kernel
theorem dL_law_308 : decode cL_law 308 = .ok (.iconst 1, 1) := by decide +kernel
theorem dL_law_309 : decode cL_law 309 = .ok (.iadd, 1) := by decide +kernel
theorem dL_law_310 : decode cL_law 310 = .ok (.iaload, 1) := by decide +kernel
theorem dL_law_311 : decode cL_law 311 = .ok (.invokevirtual 27, 3) := by decide +kernel
theorem dL_law_314 : decode cL_law 314 = .ok (.aload_n 2, 1) := by decide +kernel
theorem dL_law_315 : decode cL_law 315 = .ok (.aload_n 0, 1) := by decide +kernel
theorem dL_law_316 : decode cL_law 316 = .ok (.iload_n 3, 1) := by decide +kernel
theorem dL_law_317 : decode cL_law 317 = .ok (.iconst 1, 1) := by decide +kernel
theorem dL_law_318 : decode cL_law 318 = .ok (.iadd, 1) := by decide +kernel
theorem dL_law_319 : decode cL_law 319 = .ok (.iaload, 1) := by decide +kernel
theorem dL_law_320 : decode cL_law 320 = .ok (.invokevirtual 31, 3) := by decide +kernel
theorem dL_law_323 : decode cL_law 323 = .ok (.if_icmp .eq 864, 3) := by decide +kernel
theorem dL_law_326 : decode cL_law 326 = .ok (.iconst 0, 1) := by decide +kernel
theorem dL_law_327 : decode cL_law 327 = .ok (.ireturn, 1) := by decide +kernel
theorem dL_law_328 : decode cL_law 328 = .ok (.aload_n 1, 1) := by decide +kernel
theorem dL_law_329 : decode cL_law 329 = .ok (.aload_n 0, 1) := by decide +kernel
theorem dL_law_330 : decode cL_law 330 = .ok (.iload_n 3, 1) := by decide +kernel
theorem dL_law_331 : decode cL_law 331 = .ok (.iconst 1, 1) := by decide +kernel
theorem dL_law_332 : decode cL_law 332 = .ok (.iadd, 1) := by decide +kernel
theorem dL_law_333 : decode cL_law 333 = .ok (.iaload, 1) := by decide +kernel
theorem dL_law_334 : decode cL_law 334 = .ok (.invokevirtual 32, 3) := by decide +kernel
theorem dL_law_337 : decode cL_law 337 = .ok (.aload_n 2, 1) := by decide +kernel
theorem dL_law_338 : decode cL_law 338 = .ok (.aload_n 0, 1) := by decide +kernel
theorem dL_law_339 : decode cL_law 339 = .ok (.iload_n 3, 1) := by decide +kernel
theorem dL_law_340 : decode cL_law 340 = .ok (.iconst 1, 1) := by decide +kernel
theorem dL_law_341 : decode cL_law 341 = .ok (.iadd, 1) := by decide +kernel
theorem dL_law_342 : decode cL_law 342 = .ok (.iaload, 1) := by decide +kernel
theorem dL_law_343 : decode cL_law 343 = .ok (.invokevirtual 35, 3) := by decide +kernel
theorem dL_law_346 : decode cL_law 346 = .ok (.if_icmp .eq 841, 3) := by decide +kernel
theorem dL_law_349 : decode cL_law 349 = .ok (.iconst 0, 1) := by decide +kernel
theorem dL_law_350 : decode cL_law 350 = .ok (.ireturn, 1) := by decide +kernel
theorem dL_law_351 : decode cL_law 351 = .ok (.aload_n 1, 1) := by decide +kernel
theorem dL_law_352 : decode cL_law 352 = .ok (.invokevirtual 36, 3) := by decide +kernel
theorem dL_law_355 : decode cL_law 355 = .ok (.aload_n 2, 1) := by decide +kernel
theorem dL_law_356 : decode cL_law 356 = .ok (.invokevirtual 40, 3) := by decide +kernel
theorem dL_law_359 : decode cL_law 359 = .ok (.if_icmp .eq 828, 3) := by decide +kernel
theorem dL_law_362 : decode cL_law 362 = .ok (.iconst 0, 1) := by decide +kernel
theorem dL_law_363 : decode cL_law 363 = .ok (.ireturn, 1) := by decide +kernel
theorem dL_law_364 : decode cL_law 364 = .ok (.aload_n 1, 1) := by decide +kernel
theorem dL_law_365 : decode cL_law 365 = .ok (.invokevirtual 41, 3) := by decide +kernel
theorem dL_law_368 : decode cL_law 368 = .ok (.aload_n 2, 1) := by decide +kernel
theorem dL_law_369 : decode cL_law 369 = .ok (.invokevirtual 44, 3) := by decide +kernel
theorem dL_law_372 : decode cL_law 372 = .ok (.if_icmp .eq 815, 3) := by decide +kernel
theorem dL_law_375 : decode cL_law 375 = .ok (.iconst 0, 1) := by decide +kernel
theorem dL_law_376 : decode cL_law 376 = .ok (.ireturn, 1) := by decide +kernel
theorem dL_law_377 : decode cL_law 377 = .ok (.aload_n 1, 1) := by decide +kernel
theorem dL_law_378 : decode cL_law 378 = .ok (.aload_n 0, 1) := by decide +kernel
theorem dL_law_379 : decode cL_law 379 = .ok (.iload_n 3, 1) := by decide +kernel
theorem dL_law_380 : decode cL_law 380 = .ok (.iconst 1, 1) := by decide +kernel
theorem dL_law_381 : decode cL_law 381 = .ok (.iadd, 1) := by decide +kernel
theorem dL_law_382 : decode cL_law 382 = .ok (.iaload, 1) := by decide +kernel
theorem dL_law_383 : decode cL_law 383 = .ok (.aload_n 0, 1) := by decide +kernel
theorem dL_law_384 : decode cL_law 384 = .ok (.iload_n 3, 1) := by decide +kernel
theorem dL_law_385 : decode cL_law 385 = .ok (.iconst 2, 1) := by decide +kernel
theorem dL_law_386 : decode cL_law 386 = .ok (.iadd, 1) := by decide +kernel
theorem dL_law_387 : decode cL_law 387 = .ok (.iaload, 1) := by decide +kernel
theorem dL_law_388 : decode cL_law 388 = .ok (.aload_n 0, 1) := by decide +kernel
theorem dL_law_389 : decode cL_law 389 = .ok (.iload_n 3, 1) := by decide +kernel
theorem dL_law_390 : decode cL_law 390 = .ok (.iconst 3, 1) := by decide +kernel
theorem dL_law_391 : decode cL_law 391 = .ok (.iadd, 1) := by decide +kernel
theorem dL_law_392 : decode cL_law 392 = .ok (.iaload, 1) := by decide +kernel
theorem dL_law_393 : decode cL_law 393 = .ok (.invokevirtual 45, 3) := by decide +kernel
theorem dL_law_396 : decode cL_law 396 = .ok (.aload_n 2, 1) := by decide +kernel
theorem dL_law_397 : decode cL_law 397 = .ok (.aload_n 0, 1) := by decide +kernel
theorem dL_law_398 : decode cL_law 398 = .ok (.iload_n 3, 1) := by decide +kernel
theorem dL_law_399 : decode cL_law 399 = .ok (.iconst 1, 1) := by decide +kernel
theorem dL_law_400 : decode cL_law 400 = .ok (.iadd, 1) := by decide +kernel
theorem dL_law_401 : decode cL_law 401 = .ok (.iaload, 1) := by decide +kernel
theorem dL_law_402 : decode cL_law 402 = .ok (.aload_n 0, 1) := by decide +kernel
theorem dL_law_403 : decode cL_law 403 = .ok (.iload_n 3, 1) := by decide +kernel
theorem dL_law_404 : decode cL_law 404 = .ok (.iconst 2, 1) := by decide +kernel
theorem dL_law_405 : decode cL_law 405 = .ok (.iadd, 1) := by decide +kernel
theorem dL_law_406 : decode cL_law 406 = .ok (.iaload, 1) := by decide +kernel
theorem dL_law_407 : decode cL_law 407 = .ok (.aload_n 0, 1) := by decide +kernel
theorem dL_law_408 : decode cL_law 408 = .ok (.iload_n 3, 1) := by decide +kernel
theorem dL_law_409 : decode cL_law 409 = .ok (.iconst 3, 1) := by decide +kernel
theorem dL_law_410 : decode cL_law 410 = .ok (.iadd, 1) := by decide +kernel
theorem dL_law_411 : decode cL_law 411 = .ok (.iaload, 1) := by decide +kernel
theorem dL_law_412 : decode cL_law 412 = .ok (.invokevirtual 48, 3) := by decide +kernel
theorem dL_law_415 : decode cL_law 415 = .ok (.if_icmp .eq 772, 3) := by decide +kernel
theorem dL_law_418 : decode cL_law 418 = .ok (.iconst 0, 1) := by decide +kernel
theorem dL_law_419 : decode cL_law 419 = .ok (.ireturn, 1) := by decide +kernel
theorem dL_law_420 : decode cL_law 420 = .ok (.aload_n 1, 1) := by decide +kernel
theorem dL_law_421 : decode cL_law 421 = .ok (.aload_n 0, 1) := by decide +kernel
theorem dL_law_422 : decode cL_law 422 = .ok (.iload_n 3, 1) := by decide +kernel
theorem dL_law_423 : decode cL_law 423 = .ok (.iconst 1, 1) := by decide +kernel
theorem dL_law_424 : decode cL_law 424 = .ok (.iadd, 1) := by decide +kernel
theorem dL_law_425 : decode cL_law 425 = .ok (.iaload, 1) := by decide +kernel
theorem dL_law_426 : decode cL_law 426 = .ok (.aload_n 0, 1) := by decide +kernel
theorem dL_law_427 : decode cL_law 427 = .ok (.iload_n 3, 1) := by decide +kernel
theorem dL_law_428 : decode cL_law 428 = .ok (.iconst 2, 1) := by decide +kernel
theorem dL_law_429 : decode cL_law 429 = .ok (.iadd, 1) := by decide +kernel
theorem dL_law_430 : decode cL_law 430 = .ok (.iaload, 1) := by decide +kernel
theorem dL_law_431 : decode cL_law 431 = .ok (.aload_n 0, 1) := by decide +kernel
theorem dL_law_432 : decode cL_law 432 = .ok (.iload_n 3, 1) := by decide +kernel
theorem dL_law_433 : decode cL_law 433 = .ok (.iconst 3, 1) := by decide +kernel
theorem dL_law_434 : decode cL_law 434 = .ok (.iadd, 1) := by decide +kernel
theorem dL_law_435 : decode cL_law 435 = .ok (.iaload, 1) := by decide +kernel
theorem dL_law_436 : decode cL_law 436 = .ok (.invokevirtual 49, 3) := by decide +kernel
theorem dL_law_439 : decode cL_law 439 = .ok (.aload_n 2, 1) := by decide +kernel
theorem dL_law_440 : decode cL_law 440 = .ok (.aload_n 0, 1) := by decide +kernel
theorem dL_law_441 : decode cL_law 441 = .ok (.iload_n 3, 1) := by decide +kernel
theorem dL_law_442 : decode cL_law 442 = .ok (.iconst 1, 1) := by decide +kernel
theorem dL_law_443 : decode cL_law 443 = .ok (.iadd, 1) := by decide +kernel
theorem dL_law_444 : decode cL_law 444 = .ok (.iaload, 1) := by decide +kernel
theorem dL_law_445 : decode cL_law 445 = .ok (.aload_n 0, 1) := by decide +kernel
theorem dL_law_446 : decode cL_law 446 = .ok (.iload_n 3, 1) := by decide +kernel
theorem dL_law_447 : decode cL_law 447 = .ok (.iconst 2, 1) := by decide +kernel
theorem dL_law_448 : decode cL_law 448 = .ok (.iadd, 1) := by decide +kernel
theorem dL_law_449 : decode cL_law 449 = .ok (.iaload, 1) := by decide +kernel
theorem dL_law_450 : decode cL_law 450 = .ok (.aload_n 0, 1) := by decide +kernel
theorem dL_law_451 : decode cL_law 451 = .ok (.iload_n 3, 1) := by decide +kernel
theorem dL_law_452 : decode cL_law 452 = .ok (.iconst 3, 1) := by decide +kernel
theorem dL_law_453 : decode cL_law 453 = .ok (.iadd, 1) := by decide +kernel
theorem dL_law_454 : decode cL_law 454 = .ok (.iaload, 1) := by decide +kernel
theorem dL_law_455 : decode cL_law 455 = .ok (.invokevirtual 52, 3) := by decide +kernel
theorem dL_law_458 : decode cL_law 458 = .ok (.if_icmp .eq 729, 3) := by decide +kernel
theorem dL_law_461 : decode cL_law 461 = .ok (.iconst 0, 1) := by decide +kernel
theorem dL_law_462 : decode cL_law 462 = .ok (.ireturn, 1) := by decide +kernel
theorem dL_law_463 : decode cL_law 463 = .ok (.aload_n 1, 1) := by decide +kernel
theorem dL_law_464 : decode cL_law 464 = .ok (.invokevirtual 53, 3) := by decide +kernel
theorem dL_law_467 : decode cL_law 467 = .ok (.aload_n 2, 1) := by decide +kernel
theorem dL_law_468 : decode cL_law 468 = .ok (.invokevirtual 56, 3) := by decide +kernel
theorem dL_law_471 : decode cL_law 471 = .ok (.if_icmp .eq 716, 3) := by decide +kernel
theorem dL_law_474 : decode cL_law 474 = .ok (.iconst 0, 1) := by decide +kernel
theorem dL_law_475 : decode cL_law 475 = .ok (.ireturn, 1) := by decide +kernel
theorem dL_law_476 : decode cL_law 476 = .ok (.aload_n 1, 1) := by decide +kernel
theorem dL_law_477 : decode cL_law 477 = .ok (.aload_n 0, 1) := by decide +kernel
theorem dL_law_478 : decode cL_law 478 = .ok (.iload_n 3, 1) := by decide +kernel
theorem dL_law_479 : decode cL_law 479 = .ok (.iconst 1, 1) := by decide +kernel
theorem dL_law_480 : decode cL_law 480 = .ok (.iadd, 1) := by decide +kernel
theorem dL_law_481 : decode cL_law 481 = .ok (.iaload, 1) := by decide +kernel
theorem dL_law_482 : decode cL_law 482 = .ok (.aload_n 0, 1) := by decide +kernel
theorem dL_law_483 : decode cL_law 483 = .ok (.iload_n 3, 1) := by decide +kernel
theorem dL_law_484 : decode cL_law 484 = .ok (.iconst 2, 1) := by decide +kernel
theorem dL_law_485 : decode cL_law 485 = .ok (.iadd, 1) := by decide +kernel
theorem dL_law_486 : decode cL_law 486 = .ok (.iaload, 1) := by decide +kernel
theorem dL_law_487 : decode cL_law 487 = .ok (.invokevirtual 57, 3) := by decide +kernel
theorem dL_law_490 : decode cL_law 490 = .ok (.aload_n 2, 1) := by decide +kernel
theorem dL_law_491 : decode cL_law 491 = .ok (.aload_n 0, 1) := by decide +kernel
theorem dL_law_492 : decode cL_law 492 = .ok (.iload_n 3, 1) := by decide +kernel
theorem dL_law_493 : decode cL_law 493 = .ok (.iconst 1, 1) := by decide +kernel
theorem dL_law_494 : decode cL_law 494 = .ok (.iadd, 1) := by decide +kernel
theorem dL_law_495 : decode cL_law 495 = .ok (.iaload, 1) := by decide +kernel
theorem dL_law_496 : decode cL_law 496 = .ok (.aload_n 0, 1) := by decide +kernel
theorem dL_law_497 : decode cL_law 497 = .ok (.iload_n 3, 1) := by decide +kernel
theorem dL_law_498 : decode cL_law 498 = .ok (.iconst 2, 1) := by decide +kernel
theorem dL_law_499 : decode cL_law 499 = .ok (.iadd, 1) := by decide +kernel
theorem dL_law_500 : decode cL_law 500 = .ok (.iaload, 1) := by decide +kernel
theorem dL_law_501 : decode cL_law 501 = .ok (.invokevirtual 61, 3) := by decide +kernel
theorem dL_law_504 : decode cL_law 504 = .ok (.if_icmp .eq 683, 3) := by decide +kernel
theorem dL_law_507 : decode cL_law 507 = .ok (.iconst 0, 1) := by decide +kernel
theorem dL_law_508 : decode cL_law 508 = .ok (.ireturn, 1) := by decide +kernel
theorem dL_law_509 : decode cL_law 509 = .ok (.aload_n 1, 1) := by decide +kernel
theorem dL_law_510 : decode cL_law 510 = .ok (.aload_n 0, 1) := by decide +kernel
theorem dL_law_511 : decode cL_law 511 = .ok (.iload_n 3, 1) := by decide +kernel
theorem dL_law_512 : decode cL_law 512 = .ok (.iconst 1, 1) := by decide +kernel
theorem dL_law_513 : decode cL_law 513 = .ok (.iadd, 1) := by decide +kernel
theorem dL_law_514 : decode cL_law 514 = .ok (.iaload, 1) := by decide +kernel
theorem dL_law_515 : decode cL_law 515 = .ok (.aload_n 0, 1) := by decide +kernel
theorem dL_law_516 : decode cL_law 516 = .ok (.iload_n 3, 1) := by decide +kernel
theorem dL_law_517 : decode cL_law 517 = .ok (.iconst 2, 1) := by decide +kernel
theorem dL_law_518 : decode cL_law 518 = .ok (.iadd, 1) := by decide +kernel
theorem dL_law_519 : decode cL_law 519 = .ok (.iaload, 1) := by decide +kernel
theorem dL_law_520 : decode cL_law 520 = .ok (.invokevirtual 62, 3) := by decide +kernel
theorem dL_law_523 : decode cL_law 523 = .ok (.aload_n 2, 1) := by decide +kernel
theorem dL_law_524 : decode cL_law 524 = .ok (.aload_n 0, 1) := by decide +kernel
theorem dL_law_525 : decode cL_law 525 = .ok (.iload_n 3, 1) := by decide +kernel
theorem dL_law_526 : decode cL_law 526 = .ok (.iconst 1, 1) := by decide +kernel
theorem dL_law_527 : decode cL_law 527 = .ok (.iadd, 1) := by decide +kernel
theorem dL_law_528 : decode cL_law 528 = .ok (.iaload, 1) := by decide +kernel
theorem dL_law_529 : decode cL_law 529 = .ok (.aload_n 0, 1) := by decide +kernel
theorem dL_law_530 : decode cL_law 530 = .ok (.iload_n 3, 1) := by decide +kernel
theorem dL_law_531 : decode cL_law 531 = .ok (.iconst 2, 1) := by decide +kernel
theorem dL_law_532 : decode cL_law 532 = .ok (.iadd, 1) := by decide +kernel
theorem dL_law_533 : decode cL_law 533 = .ok (.iaload, 1) := by decide +kernel
theorem dL_law_534 : decode cL_law 534 = .ok (.invokevirtual 65, 3) := by decide +kernel
theorem dL_law_537 : decode cL_law 537 = .ok (.if_icmp .eq 650, 3) := by decide +kernel
theorem dL_law_540 : decode cL_law 540 = .ok (.iconst 0, 1) := by decide +kernel
theorem dL_law_541 : decode cL_law 541 = .ok (.ireturn, 1) := by decide +kernel
theorem dL_law_542 : decode cL_law 542 = .ok (.aload_n 1, 1) := by decide +kernel
theorem dL_law_543 : decode cL_law 543 = .ok (.aload_n 0, 1) := by decide +kernel
theorem dL_law_544 : decode cL_law 544 = .ok (.iload_n 3, 1) := by decide +kernel
theorem dL_law_545 : decode cL_law 545 = .ok (.iconst 1, 1) := by decide +kernel
theorem dL_law_546 : decode cL_law 546 = .ok (.iadd, 1) := by decide +kernel
theorem dL_law_547 : decode cL_law 547 = .ok (.iaload, 1) := by decide +kernel
theorem dL_law_548 : decode cL_law 548 = .ok (.aload_n 0, 1) := by decide +kernel
theorem dL_law_549 : decode cL_law 549 = .ok (.iload_n 3, 1) := by decide +kernel
theorem dL_law_550 : decode cL_law 550 = .ok (.iconst 2, 1) := by decide +kernel
theorem dL_law_551 : decode cL_law 551 = .ok (.iadd, 1) := by decide +kernel
theorem dL_law_552 : decode cL_law 552 = .ok (.iaload, 1) := by decide +kernel
theorem dL_law_553 : decode cL_law 553 = .ok (.aload_n 0, 1) := by decide +kernel
theorem dL_law_554 : decode cL_law 554 = .ok (.iload_n 3, 1) := by decide +kernel
theorem dL_law_555 : decode cL_law 555 = .ok (.iconst 3, 1) := by decide +kernel
theorem dL_law_556 : decode cL_law 556 = .ok (.iadd, 1) := by decide +kernel
theorem dL_law_557 : decode cL_law 557 = .ok (.iaload, 1) := by decide +kernel
theorem dL_law_558 : decode cL_law 558 = .ok (.aload_n 0, 1) := by decide +kernel
theorem dL_law_559 : decode cL_law 559 = .ok (.iload_n 3, 1) := by decide +kernel
theorem dL_law_560 : decode cL_law 560 = .ok (.iconst 4, 1) := by decide +kernel
theorem dL_law_561 : decode cL_law 561 = .ok (.iadd, 1) := by decide +kernel
theorem dL_law_562 : decode cL_law 562 = .ok (.iaload, 1) := by decide +kernel
theorem dL_law_563 : decode cL_law 563 = .ok (.invokevirtual 66, 3) := by decide +kernel
theorem dL_law_566 : decode cL_law 566 = .ok (.aload_n 2, 1) := by decide +kernel
theorem dL_law_567 : decode cL_law 567 = .ok (.aload_n 0, 1) := by decide +kernel
theorem dL_law_568 : decode cL_law 568 = .ok (.iload_n 3, 1) := by decide +kernel
theorem dL_law_569 : decode cL_law 569 = .ok (.iconst 1, 1) := by decide +kernel
theorem dL_law_570 : decode cL_law 570 = .ok (.iadd, 1) := by decide +kernel
theorem dL_law_571 : decode cL_law 571 = .ok (.iaload, 1) := by decide +kernel
theorem dL_law_572 : decode cL_law 572 = .ok (.aload_n 0, 1) := by decide +kernel
theorem dL_law_573 : decode cL_law 573 = .ok (.iload_n 3, 1) := by decide +kernel
theorem dL_law_574 : decode cL_law 574 = .ok (.iconst 2, 1) := by decide +kernel
theorem dL_law_575 : decode cL_law 575 = .ok (.iadd, 1) := by decide +kernel
theorem dL_law_576 : decode cL_law 576 = .ok (.iaload, 1) := by decide +kernel
theorem dL_law_577 : decode cL_law 577 = .ok (.aload_n 0, 1) := by decide +kernel
theorem dL_law_578 : decode cL_law 578 = .ok (.iload_n 3, 1) := by decide +kernel
theorem dL_law_579 : decode cL_law 579 = .ok (.iconst 3, 1) := by decide +kernel
theorem dL_law_580 : decode cL_law 580 = .ok (.iadd, 1) := by decide +kernel
theorem dL_law_581 : decode cL_law 581 = .ok (.iaload, 1) := by decide +kernel
theorem dL_law_582 : decode cL_law 582 = .ok (.aload_n 0, 1) := by decide +kernel
theorem dL_law_583 : decode cL_law 583 = .ok (.iload_n 3, 1) := by decide +kernel
theorem dL_law_584 : decode cL_law 584 = .ok (.iconst 4, 1) := by decide +kernel
theorem dL_law_585 : decode cL_law 585 = .ok (.iadd, 1) := by decide +kernel
theorem dL_law_586 : decode cL_law 586 = .ok (.iaload, 1) := by decide +kernel
theorem dL_law_587 : decode cL_law 587 = .ok (.invokevirtual 70, 3) := by decide +kernel
theorem dL_law_590 : decode cL_law 590 = .ok (.if_icmp .eq 597, 3) := by decide +kernel
theorem dL_law_593 : decode cL_law 593 = .ok (.iconst 0, 1) := by decide +kernel
theorem dL_law_594 : decode cL_law 594 = .ok (.ireturn, 1) := by decide +kernel
theorem dL_law_595 : decode cL_law 595 = .ok (.aload_n 1, 1) := by decide +kernel
theorem dL_law_596 : decode cL_law 596 = .ok (.aload_n 0, 1) := by decide +kernel
theorem dL_law_597 : decode cL_law 597 = .ok (.iload_n 3, 1) := by decide +kernel
theorem dL_law_598 : decode cL_law 598 = .ok (.iconst 1, 1) := by decide +kernel
theorem dL_law_599 : decode cL_law 599 = .ok (.iadd, 1) := by decide +kernel
theorem dL_law_600 : decode cL_law 600 = .ok (.iaload, 1) := by decide +kernel
theorem dL_law_601 : decode cL_law 601 = .ok (.aload_n 0, 1) := by decide +kernel
theorem dL_law_602 : decode cL_law 602 = .ok (.iload_n 3, 1) := by decide +kernel
theorem dL_law_603 : decode cL_law 603 = .ok (.iconst 2, 1) := by decide +kernel
theorem dL_law_604 : decode cL_law 604 = .ok (.iadd, 1) := by decide +kernel
theorem dL_law_605 : decode cL_law 605 = .ok (.iaload, 1) := by decide +kernel
theorem dL_law_606 : decode cL_law 606 = .ok (.aload_n 0, 1) := by decide +kernel
theorem dL_law_607 : decode cL_law 607 = .ok (.iload_n 3, 1) := by decide +kernel
theorem dL_law_608 : decode cL_law 608 = .ok (.iconst 3, 1) := by decide +kernel
theorem dL_law_609 : decode cL_law 609 = .ok (.iadd, 1) := by decide +kernel
theorem dL_law_610 : decode cL_law 610 = .ok (.iaload, 1) := by decide +kernel
theorem dL_law_611 : decode cL_law 611 = .ok (.aload_n 0, 1) := by decide +kernel
theorem dL_law_612 : decode cL_law 612 = .ok (.iload_n 3, 1) := by decide +kernel
theorem dL_law_613 : decode cL_law 613 = .ok (.iconst 4, 1) := by decide +kernel
theorem dL_law_614 : decode cL_law 614 = .ok (.iadd, 1) := by decide +kernel
theorem dL_law_615 : decode cL_law 615 = .ok (.iaload, 1) := by decide +kernel
theorem dL_law_616 : decode cL_law 616 = .ok (.invokevirtual 71, 3) := by decide +kernel
theorem dL_law_619 : decode cL_law 619 = .ok (.aload_n 2, 1) := by decide +kernel
theorem dL_law_620 : decode cL_law 620 = .ok (.aload_n 0, 1) := by decide +kernel
theorem dL_law_621 : decode cL_law 621 = .ok (.iload_n 3, 1) := by decide +kernel
theorem dL_law_622 : decode cL_law 622 = .ok (.iconst 1, 1) := by decide +kernel
theorem dL_law_623 : decode cL_law 623 = .ok (.iadd, 1) := by decide +kernel
theorem dL_law_624 : decode cL_law 624 = .ok (.iaload, 1) := by decide +kernel
theorem dL_law_625 : decode cL_law 625 = .ok (.aload_n 0, 1) := by decide +kernel
theorem dL_law_626 : decode cL_law 626 = .ok (.iload_n 3, 1) := by decide +kernel
theorem dL_law_627 : decode cL_law 627 = .ok (.iconst 2, 1) := by decide +kernel
theorem dL_law_628 : decode cL_law 628 = .ok (.iadd, 1) := by decide +kernel
theorem dL_law_629 : decode cL_law 629 = .ok (.iaload, 1) := by decide +kernel
theorem dL_law_630 : decode cL_law 630 = .ok (.aload_n 0, 1) := by decide +kernel
theorem dL_law_631 : decode cL_law 631 = .ok (.iload_n 3, 1) := by decide +kernel
theorem dL_law_632 : decode cL_law 632 = .ok (.iconst 3, 1) := by decide +kernel
theorem dL_law_633 : decode cL_law 633 = .ok (.iadd, 1) := by decide +kernel
theorem dL_law_634 : decode cL_law 634 = .ok (.iaload, 1) := by decide +kernel
theorem dL_law_635 : decode cL_law 635 = .ok (.aload_n 0, 1) := by decide +kernel
theorem dL_law_636 : decode cL_law 636 = .ok (.iload_n 3, 1) := by decide +kernel
theorem dL_law_637 : decode cL_law 637 = .ok (.iconst 4, 1) := by decide +kernel
theorem dL_law_638 : decode cL_law 638 = .ok (.iadd, 1) := by decide +kernel
theorem dL_law_639 : decode cL_law 639 = .ok (.iaload, 1) := by decide +kernel
theorem dL_law_640 : decode cL_law 640 = .ok (.invokevirtual 74, 3) := by decide +kernel
theorem dL_law_643 : decode cL_law 643 = .ok (.if_icmp .eq 544, 3) := by decide +kernel
theorem dL_law_646 : decode cL_law 646 = .ok (.iconst 0, 1) := by decide +kernel
theorem dL_law_647 : decode cL_law 647 = .ok (.ireturn, 1) := by decide +kernel
theorem dL_law_648 : decode cL_law 648 = .ok (.aload_n 1, 1) := by decide +kernel
theorem dL_law_649 : decode cL_law 649 = .ok (.aload_n 0, 1) := by decide +kernel
theorem dL_law_650 : decode cL_law 650 = .ok (.iload_n 3, 1) := by decide +kernel
theorem dL_law_651 : decode cL_law 651 = .ok (.iconst 1, 1) := by decide +kernel
theorem dL_law_652 : decode cL_law 652 = .ok (.iadd, 1) := by decide +kernel
theorem dL_law_653 : decode cL_law 653 = .ok (.iaload, 1) := by decide +kernel
theorem dL_law_654 : decode cL_law 654 = .ok (.aload_n 0, 1) := by decide +kernel
theorem dL_law_655 : decode cL_law 655 = .ok (.iload_n 3, 1) := by decide +kernel
theorem dL_law_656 : decode cL_law 656 = .ok (.iconst 2, 1) := by decide +kernel
theorem dL_law_657 : decode cL_law 657 = .ok (.iadd, 1) := by decide +kernel
theorem dL_law_658 : decode cL_law 658 = .ok (.iaload, 1) := by decide +kernel
theorem dL_law_659 : decode cL_law 659 = .ok (.aload_n 0, 1) := by decide +kernel
theorem dL_law_660 : decode cL_law 660 = .ok (.iload_n 3, 1) := by decide +kernel
theorem dL_law_661 : decode cL_law 661 = .ok (.iconst 3, 1) := by decide +kernel
theorem dL_law_662 : decode cL_law 662 = .ok (.iadd, 1) := by decide +kernel
theorem dL_law_663 : decode cL_law 663 = .ok (.iaload, 1) := by decide +kernel
theorem dL_law_664 : decode cL_law 664 = .ok (.aload_n 0, 1) := by decide +kernel
theorem dL_law_665 : decode cL_law 665 = .ok (.iload_n 3, 1) := by decide +kernel
theorem dL_law_666 : decode cL_law 666 = .ok (.iconst 4, 1) := by decide +kernel
theorem dL_law_667 : decode cL_law 667 = .ok (.iadd, 1) := by decide +kernel
theorem dL_law_668 : decode cL_law 668 = .ok (.iaload, 1) := by decide +kernel
theorem dL_law_669 : decode cL_law 669 = .ok (.invokevirtual 75, 3) := by decide +kernel
theorem dL_law_672 : decode cL_law 672 = .ok (.aload_n 2, 1) := by decide +kernel
theorem dL_law_673 : decode cL_law 673 = .ok (.aload_n 0, 1) := by decide +kernel
theorem dL_law_674 : decode cL_law 674 = .ok (.iload_n 3, 1) := by decide +kernel
theorem dL_law_675 : decode cL_law 675 = .ok (.iconst 1, 1) := by decide +kernel
theorem dL_law_676 : decode cL_law 676 = .ok (.iadd, 1) := by decide +kernel
theorem dL_law_677 : decode cL_law 677 = .ok (.iaload, 1) := by decide +kernel
theorem dL_law_678 : decode cL_law 678 = .ok (.aload_n 0, 1) := by decide +kernel
theorem dL_law_679 : decode cL_law 679 = .ok (.iload_n 3, 1) := by decide +kernel
theorem dL_law_680 : decode cL_law 680 = .ok (.iconst 2, 1) := by decide +kernel
theorem dL_law_681 : decode cL_law 681 = .ok (.iadd, 1) := by decide +kernel
theorem dL_law_682 : decode cL_law 682 = .ok (.iaload, 1) := by decide +kernel
theorem dL_law_683 : decode cL_law 683 = .ok (.aload_n 0, 1) := by decide +kernel
theorem dL_law_684 : decode cL_law 684 = .ok (.iload_n 3, 1) := by decide +kernel
theorem dL_law_685 : decode cL_law 685 = .ok (.iconst 3, 1) := by decide +kernel
theorem dL_law_686 : decode cL_law 686 = .ok (.iadd, 1) := by decide +kernel
theorem dL_law_687 : decode cL_law 687 = .ok (.iaload, 1) := by decide +kernel
theorem dL_law_688 : decode cL_law 688 = .ok (.aload_n 0, 1) := by decide +kernel
theorem dL_law_689 : decode cL_law 689 = .ok (.iload_n 3, 1) := by decide +kernel
theorem dL_law_690 : decode cL_law 690 = .ok (.iconst 4, 1) := by decide +kernel
theorem dL_law_691 : decode cL_law 691 = .ok (.iadd, 1) := by decide +kernel
theorem dL_law_692 : decode cL_law 692 = .ok (.iaload, 1) := by decide +kernel
theorem dL_law_693 : decode cL_law 693 = .ok (.invokevirtual 78, 3) := by decide +kernel
theorem dL_law_696 : decode cL_law 696 = .ok (.if_icmp .eq 491, 3) := by decide +kernel
theorem dL_law_699 : decode cL_law 699 = .ok (.iconst 0, 1) := by decide +kernel
theorem dL_law_700 : decode cL_law 700 = .ok (.ireturn, 1) := by decide +kernel
theorem dL_law_701 : decode cL_law 701 = .ok (.aload_n 1, 1) := by decide +kernel
theorem dL_law_702 : decode cL_law 702 = .ok (.aload_n 0, 1) := by decide +kernel
theorem dL_law_703 : decode cL_law 703 = .ok (.iload_n 3, 1) := by decide +kernel
theorem dL_law_704 : decode cL_law 704 = .ok (.iconst 1, 1) := by decide +kernel
theorem dL_law_705 : decode cL_law 705 = .ok (.iadd, 1) := by decide +kernel
theorem dL_law_706 : decode cL_law 706 = .ok (.iaload, 1) := by decide +kernel
theorem dL_law_707 : decode cL_law 707 = .ok (.aload_n 0, 1) := by decide +kernel
theorem dL_law_708 : decode cL_law 708 = .ok (.iload_n 3, 1) := by decide +kernel
theorem dL_law_709 : decode cL_law 709 = .ok (.iconst 2, 1) := by decide +kernel
theorem dL_law_710 : decode cL_law 710 = .ok (.iadd, 1) := by decide +kernel
theorem dL_law_711 : decode cL_law 711 = .ok (.iaload, 1) := by decide +kernel
theorem dL_law_712 : decode cL_law 712 = .ok (.aload_n 0, 1) := by decide +kernel
theorem dL_law_713 : decode cL_law 713 = .ok (.iload_n 3, 1) := by decide +kernel
theorem dL_law_714 : decode cL_law 714 = .ok (.iconst 3, 1) := by decide +kernel
theorem dL_law_715 : decode cL_law 715 = .ok (.iadd, 1) := by decide +kernel
theorem dL_law_716 : decode cL_law 716 = .ok (.iaload, 1) := by decide +kernel
theorem dL_law_717 : decode cL_law 717 = .ok (.invokevirtual 79, 3) := by decide +kernel
theorem dL_law_720 : decode cL_law 720 = .ok (.aload_n 2, 1) := by decide +kernel
theorem dL_law_721 : decode cL_law 721 = .ok (.aload_n 0, 1) := by decide +kernel
theorem dL_law_722 : decode cL_law 722 = .ok (.iload_n 3, 1) := by decide +kernel
theorem dL_law_723 : decode cL_law 723 = .ok (.iconst 1, 1) := by decide +kernel
theorem dL_law_724 : decode cL_law 724 = .ok (.iadd, 1) := by decide +kernel
theorem dL_law_725 : decode cL_law 725 = .ok (.iaload, 1) := by decide +kernel
theorem dL_law_726 : decode cL_law 726 = .ok (.aload_n 0, 1) := by decide +kernel
theorem dL_law_727 : decode cL_law 727 = .ok (.iload_n 3, 1) := by decide +kernel
theorem dL_law_728 : decode cL_law 728 = .ok (.iconst 2, 1) := by decide +kernel
theorem dL_law_729 : decode cL_law 729 = .ok (.iadd, 1) := by decide +kernel
theorem dL_law_730 : decode cL_law 730 = .ok (.iaload, 1) := by decide +kernel
theorem dL_law_731 : decode cL_law 731 = .ok (.aload_n 0, 1) := by decide +kernel
theorem dL_law_732 : decode cL_law 732 = .ok (.iload_n 3, 1) := by decide +kernel
theorem dL_law_733 : decode cL_law 733 = .ok (.iconst 3, 1) := by decide +kernel
theorem dL_law_734 : decode cL_law 734 = .ok (.iadd, 1) := by decide +kernel
theorem dL_law_735 : decode cL_law 735 = .ok (.iaload, 1) := by decide +kernel
theorem dL_law_736 : decode cL_law 736 = .ok (.invokevirtual 82, 3) := by decide +kernel
theorem dL_law_739 : decode cL_law 739 = .ok (.if_icmp .eq 448, 3) := by decide +kernel
theorem dL_law_742 : decode cL_law 742 = .ok (.iconst 0, 1) := by decide +kernel
theorem dL_law_743 : decode cL_law 743 = .ok (.ireturn, 1) := by decide +kernel
theorem dL_law_744 : decode cL_law 744 = .ok (.aload_n 1, 1) := by decide +kernel
theorem dL_law_745 : decode cL_law 745 = .ok (.aload_n 0, 1) := by decide +kernel
theorem dL_law_746 : decode cL_law 746 = .ok (.iload_n 3, 1) := by decide +kernel
theorem dL_law_747 : decode cL_law 747 = .ok (.iconst 1, 1) := by decide +kernel
theorem dL_law_748 : decode cL_law 748 = .ok (.iadd, 1) := by decide +kernel
theorem dL_law_749 : decode cL_law 749 = .ok (.iaload, 1) := by decide +kernel
theorem dL_law_750 : decode cL_law 750 = .ok (.aload_n 0, 1) := by decide +kernel
theorem dL_law_751 : decode cL_law 751 = .ok (.iload_n 3, 1) := by decide +kernel
theorem dL_law_752 : decode cL_law 752 = .ok (.iconst 2, 1) := by decide +kernel
theorem dL_law_753 : decode cL_law 753 = .ok (.iadd, 1) := by decide +kernel
theorem dL_law_754 : decode cL_law 754 = .ok (.iaload, 1) := by decide +kernel
theorem dL_law_755 : decode cL_law 755 = .ok (.aload_n 0, 1) := by decide +kernel
theorem dL_law_756 : decode cL_law 756 = .ok (.iload_n 3, 1) := by decide +kernel
theorem dL_law_757 : decode cL_law 757 = .ok (.iconst 3, 1) := by decide +kernel
theorem dL_law_758 : decode cL_law 758 = .ok (.iadd, 1) := by decide +kernel
theorem dL_law_759 : decode cL_law 759 = .ok (.iaload, 1) := by decide +kernel
theorem dL_law_760 : decode cL_law 760 = .ok (.aload_n 0, 1) := by decide +kernel
theorem dL_law_761 : decode cL_law 761 = .ok (.iload_n 3, 1) := by decide +kernel
theorem dL_law_762 : decode cL_law 762 = .ok (.iconst 4, 1) := by decide +kernel
theorem dL_law_763 : decode cL_law 763 = .ok (.iadd, 1) := by decide +kernel
theorem dL_law_764 : decode cL_law 764 = .ok (.iaload, 1) := by decide +kernel
theorem dL_law_765 : decode cL_law 765 = .ok (.aload_n 0, 1) := by decide +kernel
theorem dL_law_766 : decode cL_law 766 = .ok (.iload_n 3, 1) := by decide +kernel
theorem dL_law_767 : decode cL_law 767 = .ok (.iconst 5, 1) := by decide +kernel
theorem dL_law_768 : decode cL_law 768 = .ok (.iadd, 1) := by decide +kernel
theorem dL_law_769 : decode cL_law 769 = .ok (.iaload, 1) := by decide +kernel
theorem dL_law_770 : decode cL_law 770 = .ok (.aload_n 0, 1) := by decide +kernel
theorem dL_law_771 : decode cL_law 771 = .ok (.iload_n 3, 1) := by decide +kernel
theorem dL_law_772 : decode cL_law 772 = .ok (.bipush 6, 2) := by decide +kernel
theorem dL_law_774 : decode cL_law 774 = .ok (.iadd, 1) := by decide +kernel
theorem dL_law_775 : decode cL_law 775 = .ok (.iaload, 1) := by decide +kernel
theorem dL_law_776 : decode cL_law 776 = .ok (.invokevirtual 83, 3) := by decide +kernel
theorem dL_law_779 : decode cL_law 779 = .ok (.aload_n 2, 1) := by decide +kernel
theorem dL_law_780 : decode cL_law 780 = .ok (.aload_n 0, 1) := by decide +kernel
theorem dL_law_781 : decode cL_law 781 = .ok (.iload_n 3, 1) := by decide +kernel
theorem dL_law_782 : decode cL_law 782 = .ok (.iconst 1, 1) := by decide +kernel
theorem dL_law_783 : decode cL_law 783 = .ok (.iadd, 1) := by decide +kernel
theorem dL_law_784 : decode cL_law 784 = .ok (.iaload, 1) := by decide +kernel
theorem dL_law_785 : decode cL_law 785 = .ok (.aload_n 0, 1) := by decide +kernel
theorem dL_law_786 : decode cL_law 786 = .ok (.iload_n 3, 1) := by decide +kernel
theorem dL_law_787 : decode cL_law 787 = .ok (.iconst 2, 1) := by decide +kernel
theorem dL_law_788 : decode cL_law 788 = .ok (.iadd, 1) := by decide +kernel
theorem dL_law_789 : decode cL_law 789 = .ok (.iaload, 1) := by decide +kernel
theorem dL_law_790 : decode cL_law 790 = .ok (.aload_n 0, 1) := by decide +kernel
theorem dL_law_791 : decode cL_law 791 = .ok (.iload_n 3, 1) := by decide +kernel
theorem dL_law_792 : decode cL_law 792 = .ok (.iconst 3, 1) := by decide +kernel
theorem dL_law_793 : decode cL_law 793 = .ok (.iadd, 1) := by decide +kernel
theorem dL_law_794 : decode cL_law 794 = .ok (.iaload, 1) := by decide +kernel
theorem dL_law_795 : decode cL_law 795 = .ok (.aload_n 0, 1) := by decide +kernel
theorem dL_law_796 : decode cL_law 796 = .ok (.iload_n 3, 1) := by decide +kernel
theorem dL_law_797 : decode cL_law 797 = .ok (.iconst 4, 1) := by decide +kernel
theorem dL_law_798 : decode cL_law 798 = .ok (.iadd, 1) := by decide +kernel
theorem dL_law_799 : decode cL_law 799 = .ok (.iaload, 1) := by decide +kernel
theorem dL_law_800 : decode cL_law 800 = .ok (.aload_n 0, 1) := by decide +kernel
theorem dL_law_801 : decode cL_law 801 = .ok (.iload_n 3, 1) := by decide +kernel
theorem dL_law_802 : decode cL_law 802 = .ok (.iconst 5, 1) := by decide +kernel
theorem dL_law_803 : decode cL_law 803 = .ok (.iadd, 1) := by decide +kernel
theorem dL_law_804 : decode cL_law 804 = .ok (.iaload, 1) := by decide +kernel
theorem dL_law_805 : decode cL_law 805 = .ok (.aload_n 0, 1) := by decide +kernel
theorem dL_law_806 : decode cL_law 806 = .ok (.iload_n 3, 1) := by decide +kernel
theorem dL_law_807 : decode cL_law 807 = .ok (.bipush 6, 2) := by decide +kernel
theorem dL_law_809 : decode cL_law 809 = .ok (.iadd, 1) := by decide +kernel
theorem dL_law_810 : decode cL_law 810 = .ok (.iaload, 1) := by decide +kernel
theorem dL_law_811 : decode cL_law 811 = .ok (.invokevirtual 87, 3) := by decide +kernel
theorem dL_law_814 : decode cL_law 814 = .ok (.if_icmp .eq 373, 3) := by decide +kernel
theorem dL_law_817 : decode cL_law 817 = .ok (.iconst 0, 1) := by decide +kernel
theorem dL_law_818 : decode cL_law 818 = .ok (.ireturn, 1) := by decide +kernel
theorem dL_law_819 : decode cL_law 819 = .ok (.aload_n 1, 1) := by decide +kernel
theorem dL_law_820 : decode cL_law 820 = .ok (.aload_n 0, 1) := by decide +kernel
theorem dL_law_821 : decode cL_law 821 = .ok (.iload_n 3, 1) := by decide +kernel
theorem dL_law_822 : decode cL_law 822 = .ok (.iconst 1, 1) := by decide +kernel
theorem dL_law_823 : decode cL_law 823 = .ok (.iadd, 1) := by decide +kernel
theorem dL_law_824 : decode cL_law 824 = .ok (.iaload, 1) := by decide +kernel
theorem dL_law_825 : decode cL_law 825 = .ok (.aload_n 0, 1) := by decide +kernel
theorem dL_law_826 : decode cL_law 826 = .ok (.iload_n 3, 1) := by decide +kernel
theorem dL_law_827 : decode cL_law 827 = .ok (.iconst 2, 1) := by decide +kernel
theorem dL_law_828 : decode cL_law 828 = .ok (.iadd, 1) := by decide +kernel
theorem dL_law_829 : decode cL_law 829 = .ok (.iaload, 1) := by decide +kernel
theorem dL_law_830 : decode cL_law 830 = .ok (.aload_n 0, 1) := by decide +kernel
theorem dL_law_831 : decode cL_law 831 = .ok (.iload_n 3, 1) := by decide +kernel
theorem dL_law_832 : decode cL_law 832 = .ok (.iconst 3, 1) := by decide +kernel
theorem dL_law_833 : decode cL_law 833 = .ok (.iadd, 1) := by decide +kernel
theorem dL_law_834 : decode cL_law 834 = .ok (.iaload, 1) := by decide +kernel
theorem dL_law_835 : decode cL_law 835 = .ok (.aload_n 0, 1) := by decide +kernel
theorem dL_law_836 : decode cL_law 836 = .ok (.iload_n 3, 1) := by decide +kernel
theorem dL_law_837 : decode cL_law 837 = .ok (.iconst 4, 1) := by decide +kernel
theorem dL_law_838 : decode cL_law 838 = .ok (.iadd, 1) := by decide +kernel
theorem dL_law_839 : decode cL_law 839 = .ok (.iaload, 1) := by decide +kernel
theorem dL_law_840 : decode cL_law 840 = .ok (.aload_n 0, 1) := by decide +kernel
theorem dL_law_841 : decode cL_law 841 = .ok (.iload_n 3, 1) := by decide +kernel
theorem dL_law_842 : decode cL_law 842 = .ok (.iconst 5, 1) := by decide +kernel
theorem dL_law_843 : decode cL_law 843 = .ok (.iadd, 1) := by decide +kernel
theorem dL_law_844 : decode cL_law 844 = .ok (.iaload, 1) := by decide +kernel
theorem dL_law_845 : decode cL_law 845 = .ok (.aload_n 0, 1) := by decide +kernel
theorem dL_law_846 : decode cL_law 846 = .ok (.iload_n 3, 1) := by decide +kernel
theorem dL_law_847 : decode cL_law 847 = .ok (.bipush 6, 2) := by decide +kernel
theorem dL_law_849 : decode cL_law 849 = .ok (.iadd, 1) := by decide +kernel
theorem dL_law_850 : decode cL_law 850 = .ok (.iaload, 1) := by decide +kernel
theorem dL_law_851 : decode cL_law 851 = .ok (.aload_n 0, 1) := by decide +kernel
theorem dL_law_852 : decode cL_law 852 = .ok (.iload_n 3, 1) := by decide +kernel
theorem dL_law_853 : decode cL_law 853 = .ok (.bipush 7, 2) := by decide +kernel
theorem dL_law_855 : decode cL_law 855 = .ok (.iadd, 1) := by decide +kernel
theorem dL_law_856 : decode cL_law 856 = .ok (.iaload, 1) := by decide +kernel
theorem dL_law_857 : decode cL_law 857 = .ok (.invokevirtual 88, 3) := by decide +kernel
theorem dL_law_860 : decode cL_law 860 = .ok (.aload_n 2, 1) := by decide +kernel
theorem dL_law_861 : decode cL_law 861 = .ok (.aload_n 0, 1) := by decide +kernel
theorem dL_law_862 : decode cL_law 862 = .ok (.iload_n 3, 1) := by decide +kernel
theorem dL_law_863 : decode cL_law 863 = .ok (.iconst 1, 1) := by decide +kernel
theorem dL_law_864 : decode cL_law 864 = .ok (.iadd, 1) := by decide +kernel
theorem dL_law_865 : decode cL_law 865 = .ok (.iaload, 1) := by decide +kernel
theorem dL_law_866 : decode cL_law 866 = .ok (.aload_n 0, 1) := by decide +kernel
theorem dL_law_867 : decode cL_law 867 = .ok (.iload_n 3, 1) := by decide +kernel
theorem dL_law_868 : decode cL_law 868 = .ok (.iconst 2, 1) := by decide +kernel
theorem dL_law_869 : decode cL_law 869 = .ok (.iadd, 1) := by decide +kernel
theorem dL_law_870 : decode cL_law 870 = .ok (.iaload, 1) := by decide +kernel
theorem dL_law_871 : decode cL_law 871 = .ok (.aload_n 0, 1) := by decide +kernel
theorem dL_law_872 : decode cL_law 872 = .ok (.iload_n 3, 1) := by decide +kernel
theorem dL_law_873 : decode cL_law 873 = .ok (.iconst 3, 1) := by decide +kernel
theorem dL_law_874 : decode cL_law 874 = .ok (.iadd, 1) := by decide +kernel
theorem dL_law_875 : decode cL_law 875 = .ok (.iaload, 1) := by decide +kernel
theorem dL_law_876 : decode cL_law 876 = .ok (.aload_n 0, 1) := by decide +kernel
theorem dL_law_877 : decode cL_law 877 = .ok (.iload_n 3, 1) := by decide +kernel
theorem dL_law_878 : decode cL_law 878 = .ok (.iconst 4, 1) := by decide +kernel
theorem dL_law_879 : decode cL_law 879 = .ok (.iadd, 1) := by decide +kernel
theorem dL_law_880 : decode cL_law 880 = .ok (.iaload, 1) := by decide +kernel
theorem dL_law_881 : decode cL_law 881 = .ok (.aload_n 0, 1) := by decide +kernel
theorem dL_law_882 : decode cL_law 882 = .ok (.iload_n 3, 1) := by decide +kernel
theorem dL_law_883 : decode cL_law 883 = .ok (.iconst 5, 1) := by decide +kernel
theorem dL_law_884 : decode cL_law 884 = .ok (.iadd, 1) := by decide +kernel
theorem dL_law_885 : decode cL_law 885 = .ok (.iaload, 1) := by decide +kernel
theorem dL_law_886 : decode cL_law 886 = .ok (.aload_n 0, 1) := by decide +kernel
theorem dL_law_887 : decode cL_law 887 = .ok (.iload_n 3, 1) := by decide +kernel
theorem dL_law_888 : decode cL_law 888 = .ok (.bipush 6, 2) := by decide +kernel
theorem dL_law_890 : decode cL_law 890 = .ok (.iadd, 1) := by decide +kernel
theorem dL_law_891 : decode cL_law 891 = .ok (.iaload, 1) := by decide +kernel
theorem dL_law_892 : decode cL_law 892 = .ok (.aload_n 0, 1) := by decide +kernel
theorem dL_law_893 : decode cL_law 893 = .ok (.iload_n 3, 1) := by decide +kernel
theorem dL_law_894 : decode cL_law 894 = .ok (.bipush 7, 2) := by decide +kernel
theorem dL_law_896 : decode cL_law 896 = .ok (.iadd, 1) := by decide +kernel
theorem dL_law_897 : decode cL_law 897 = .ok (.iaload, 1) := by decide +kernel
theorem dL_law_898 : decode cL_law 898 = .ok (.invokevirtual 92, 3) := by decide +kernel
theorem dL_law_901 : decode cL_law 901 = .ok (.if_icmp .eq 286, 3) := by decide +kernel
theorem dL_law_904 : decode cL_law 904 = .ok (.iconst 0, 1) := by decide +kernel
theorem dL_law_905 : decode cL_law 905 = .ok (.ireturn, 1) := by decide +kernel
theorem dL_law_906 : decode cL_law 906 = .ok (.aload_n 1, 1) := by decide +kernel
theorem dL_law_907 : decode cL_law 907 = .ok (.aload_n 0, 1) := by decide +kernel
theorem dL_law_908 : decode cL_law 908 = .ok (.iload_n 3, 1) := by decide +kernel
theorem dL_law_909 : decode cL_law 909 = .ok (.iconst 1, 1) := by decide +kernel
theorem dL_law_910 : decode cL_law 910 = .ok (.iadd, 1) := by decide +kernel
theorem dL_law_911 : decode cL_law 911 = .ok (.iaload, 1) := by decide +kernel
theorem dL_law_912 : decode cL_law 912 = .ok (.aload_n 0, 1) := by decide +kernel
theorem dL_law_913 : decode cL_law 913 = .ok (.iload_n 3, 1) := by decide +kernel
theorem dL_law_914 : decode cL_law 914 = .ok (.iconst 2, 1) := by decide +kernel
theorem dL_law_915 : decode cL_law 915 = .ok (.iadd, 1) := by decide +kernel
theorem dL_law_916 : decode cL_law 916 = .ok (.iaload, 1) := by decide +kernel
theorem dL_law_917 : decode cL_law 917 = .ok (.aload_n 0, 1) := by decide +kernel
theorem dL_law_918 : decode cL_law 918 = .ok (.iload_n 3, 1) := by decide +kernel
theorem dL_law_919 : decode cL_law 919 = .ok (.iconst 3, 1) := by decide +kernel
theorem dL_law_920 : decode cL_law 920 = .ok (.iadd, 1) := by decide +kernel
theorem dL_law_921 : decode cL_law 921 = .ok (.iaload, 1) := by decide +kernel
theorem dL_law_922 : decode cL_law 922 = .ok (.aload_n 0, 1) := by decide +kernel
theorem dL_law_923 : decode cL_law 923 = .ok (.iload_n 3, 1) := by decide +kernel
theorem dL_law_924 : decode cL_law 924 = .ok (.iconst 4, 1) := by decide +kernel
theorem dL_law_925 : decode cL_law 925 = .ok (.iadd, 1) := by decide +kernel
theorem dL_law_926 : decode cL_law 926 = .ok (.iaload, 1) := by decide +kernel
theorem dL_law_927 : decode cL_law 927 = .ok (.aload_n 0, 1) := by decide +kernel
theorem dL_law_928 : decode cL_law 928 = .ok (.iload_n 3, 1) := by decide +kernel
theorem dL_law_929 : decode cL_law 929 = .ok (.iconst 5, 1) := by decide +kernel
theorem dL_law_930 : decode cL_law 930 = .ok (.iadd, 1) := by decide +kernel
theorem dL_law_931 : decode cL_law 931 = .ok (.iaload, 1) := by decide +kernel
theorem dL_law_932 : decode cL_law 932 = .ok (.aload_n 0, 1) := by decide +kernel
theorem dL_law_933 : decode cL_law 933 = .ok (.iload_n 3, 1) := by decide +kernel
theorem dL_law_934 : decode cL_law 934 = .ok (.bipush 6, 2) := by decide +kernel
theorem dL_law_936 : decode cL_law 936 = .ok (.iadd, 1) := by decide +kernel
theorem dL_law_937 : decode cL_law 937 = .ok (.iaload, 1) := by decide +kernel
theorem dL_law_938 : decode cL_law 938 = .ok (.aload_n 0, 1) := by decide +kernel
theorem dL_law_939 : decode cL_law 939 = .ok (.iload_n 3, 1) := by decide +kernel
theorem dL_law_940 : decode cL_law 940 = .ok (.bipush 7, 2) := by decide +kernel
theorem dL_law_942 : decode cL_law 942 = .ok (.iadd, 1) := by decide +kernel
theorem dL_law_943 : decode cL_law 943 = .ok (.iaload, 1) := by decide +kernel
theorem dL_law_944 : decode cL_law 944 = .ok (.invokevirtual 93, 3) := by decide +kernel
theorem dL_law_947 : decode cL_law 947 = .ok (.aload_n 2, 1) := by decide +kernel
theorem dL_law_948 : decode cL_law 948 = .ok (.aload_n 0, 1) := by decide +kernel
theorem dL_law_949 : decode cL_law 949 = .ok (.iload_n 3, 1) := by decide +kernel
theorem dL_law_950 : decode cL_law 950 = .ok (.iconst 1, 1) := by decide +kernel
theorem dL_law_951 : decode cL_law 951 = .ok (.iadd, 1) := by decide +kernel
theorem dL_law_952 : decode cL_law 952 = .ok (.iaload, 1) := by decide +kernel
theorem dL_law_953 : decode cL_law 953 = .ok (.aload_n 0, 1) := by decide +kernel
theorem dL_law_954 : decode cL_law 954 = .ok (.iload_n 3, 1) := by decide +kernel
theorem dL_law_955 : decode cL_law 955 = .ok (.iconst 2, 1) := by decide +kernel
theorem dL_law_956 : decode cL_law 956 = .ok (.iadd, 1) := by decide +kernel
theorem dL_law_957 : decode cL_law 957 = .ok (.iaload, 1) := by decide +kernel
theorem dL_law_958 : decode cL_law 958 = .ok (.aload_n 0, 1) := by decide +kernel
theorem dL_law_959 : decode cL_law 959 = .ok (.iload_n 3, 1) := by decide +kernel
theorem dL_law_960 : decode cL_law 960 = .ok (.iconst 3, 1) := by decide +kernel
theorem dL_law_961 : decode cL_law 961 = .ok (.iadd, 1) := by decide +kernel
theorem dL_law_962 : decode cL_law 962 = .ok (.iaload, 1) := by decide +kernel
theorem dL_law_963 : decode cL_law 963 = .ok (.aload_n 0, 1) := by decide +kernel
theorem dL_law_964 : decode cL_law 964 = .ok (.iload_n 3, 1) := by decide +kernel
theorem dL_law_965 : decode cL_law 965 = .ok (.iconst 4, 1) := by decide +kernel
theorem dL_law_966 : decode cL_law 966 = .ok (.iadd, 1) := by decide +kernel
theorem dL_law_967 : decode cL_law 967 = .ok (.iaload, 1) := by decide +kernel
theorem dL_law_968 : decode cL_law 968 = .ok (.aload_n 0, 1) := by decide +kernel
theorem dL_law_969 : decode cL_law 969 = .ok (.iload_n 3, 1) := by decide +kernel
theorem dL_law_970 : decode cL_law 970 = .ok (.iconst 5, 1) := by decide +kernel
theorem dL_law_971 : decode cL_law 971 = .ok (.iadd, 1) := by decide +kernel
theorem dL_law_972 : decode cL_law 972 = .ok (.iaload, 1) := by decide +kernel
theorem dL_law_973 : decode cL_law 973 = .ok (.aload_n 0, 1) := by decide +kernel
theorem dL_law_974 : decode cL_law 974 = .ok (.iload_n 3, 1) := by decide +kernel
theorem dL_law_975 : decode cL_law 975 = .ok (.bipush 6, 2) := by decide +kernel
theorem dL_law_977 : decode cL_law 977 = .ok (.iadd, 1) := by decide +kernel
theorem dL_law_978 : decode cL_law 978 = .ok (.iaload, 1) := by decide +kernel
theorem dL_law_979 : decode cL_law 979 = .ok (.aload_n 0, 1) := by decide +kernel
theorem dL_law_980 : decode cL_law 980 = .ok (.iload_n 3, 1) := by decide +kernel
theorem dL_law_981 : decode cL_law 981 = .ok (.bipush 7, 2) := by decide +kernel
theorem dL_law_983 : decode cL_law 983 = .ok (.iadd, 1) := by decide +kernel
theorem dL_law_984 : decode cL_law 984 = .ok (.iaload, 1) := by decide +kernel
theorem dL_law_985 : decode cL_law 985 = .ok (.invokevirtual 96, 3) := by decide +kernel
theorem dL_law_988 : decode cL_law 988 = .ok (.if_icmp .eq 199, 3) := by decide +kernel
theorem dL_law_991 : decode cL_law 991 = .ok (.iconst 0, 1) := by decide +kernel
theorem dL_law_992 : decode cL_law 992 = .ok (.ireturn, 1) := by decide +kernel
theorem dL_law_993 : decode cL_law 993 = .ok (.aload_n 1, 1) := by decide +kernel
theorem dL_law_994 : decode cL_law 994 = .ok (.aload_n 0, 1) := by decide +kernel
theorem dL_law_995 : decode cL_law 995 = .ok (.iload_n 3, 1) := by decide +kernel
theorem dL_law_996 : decode cL_law 996 = .ok (.iconst 1, 1) := by decide +kernel
theorem dL_law_997 : decode cL_law 997 = .ok (.iadd, 1) := by decide +kernel
theorem dL_law_998 : decode cL_law 998 = .ok (.iaload, 1) := by decide +kernel
theorem dL_law_999 : decode cL_law 999 = .ok (.invokevirtual 97, 3) := by decide +kernel
theorem dL_law_1002 : decode cL_law 1002 = .ok (.aload_n 2, 1) := by decide +kernel
theorem dL_law_1003 : decode cL_law 1003 = .ok (.aload_n 0, 1) := by decide +kernel
theorem dL_law_1004 : decode cL_law 1004 = .ok (.iload_n 3, 1) := by decide +kernel
theorem dL_law_1005 : decode cL_law 1005 = .ok (.iconst 1, 1) := by decide +kernel
theorem dL_law_1006 : decode cL_law 1006 = .ok (.iadd, 1) := by decide +kernel
theorem dL_law_1007 : decode cL_law 1007 = .ok (.iaload, 1) := by decide +kernel
theorem dL_law_1008 : decode cL_law 1008 = .ok (.invokevirtual 100, 3) := by decide +kernel
theorem dL_law_1011 : decode cL_law 1011 = .ok (.if_icmp .eq 176, 3) := by decide +kernel
theorem dL_law_1014 : decode cL_law 1014 = .ok (.iconst 0, 1) := by decide +kernel
theorem dL_law_1015 : decode cL_law 1015 = .ok (.ireturn, 1) := by decide +kernel
theorem dL_law_1016 : decode cL_law 1016 = .ok (.aload_n 1, 1) := by decide +kernel
theorem dL_law_1017 : decode cL_law 1017 = .ok (.aload_n 0, 1) := by decide +kernel
theorem dL_law_1018 : decode cL_law 1018 = .ok (.iload_n 3, 1) := by decide +kernel
theorem dL_law_1019 : decode cL_law 1019 = .ok (.iconst 1, 1) := by decide +kernel
theorem dL_law_1020 : decode cL_law 1020 = .ok (.iadd, 1) := by decide +kernel
theorem dL_law_1021 : decode cL_law 1021 = .ok (.iaload, 1) := by decide +kernel
theorem dL_law_1022 : decode cL_law 1022 = .ok (.invokevirtual 101, 3) := by decide +kernel
theorem dL_law_1025 : decode cL_law 1025 = .ok (.aload_n 2, 1) := by decide +kernel
theorem dL_law_1026 : decode cL_law 1026 = .ok (.aload_n 0, 1) := by decide +kernel
theorem dL_law_1027 : decode cL_law 1027 = .ok (.iload_n 3, 1) := by decide +kernel
theorem dL_law_1028 : decode cL_law 1028 = .ok (.iconst 1, 1) := by decide +kernel
theorem dL_law_1029 : decode cL_law 1029 = .ok (.iadd, 1) := by decide +kernel
theorem dL_law_1030 : decode cL_law 1030 = .ok (.iaload, 1) := by decide +kernel
theorem dL_law_1031 : decode cL_law 1031 = .ok (.invokevirtual 104, 3) := by decide +kernel
theorem dL_law_1034 : decode cL_law 1034 = .ok (.if_icmp .eq 153, 3) := by decide +kernel
theorem dL_law_1037 : decode cL_law 1037 = .ok (.iconst 0, 1) := by decide +kernel
theorem dL_law_1038 : decode cL_law 1038 = .ok (.ireturn, 1) := by decide +kernel
theorem dL_law_1039 : decode cL_law 1039 = .ok (.aload_n 1, 1) := by decide +kernel
theorem dL_law_1040 : decode cL_law 1040 = .ok (.aload_n 0, 1) := by decide +kernel
theorem dL_law_1041 : decode cL_law 1041 = .ok (.iload_n 3, 1) := by decide +kernel
theorem dL_law_1042 : decode cL_law 1042 = .ok (.iconst 1, 1) := by decide +kernel
theorem dL_law_1043 : decode cL_law 1043 = .ok (.iadd, 1) := by decide +kernel
theorem dL_law_1044 : decode cL_law 1044 = .ok (.iaload, 1) := by decide +kernel
theorem dL_law_1045 : decode cL_law 1045 = .ok (.invokevirtual 105, 3) := by decide +kernel
theorem dL_law_1048 : decode cL_law 1048 = .ok (.aload_n 2, 1) := by decide +kernel
theorem dL_law_1049 : decode cL_law 1049 = .ok (.aload_n 0, 1) := by decide +kernel
theorem dL_law_1050 : decode cL_law 1050 = .ok (.iload_n 3, 1) := by decide +kernel
theorem dL_law_1051 : decode cL_law 1051 = .ok (.iconst 1, 1) := by decide +kernel
theorem dL_law_1052 : decode cL_law 1052 = .ok (.iadd, 1) := by decide +kernel
theorem dL_law_1053 : decode cL_law 1053 = .ok (.iaload, 1) := by decide +kernel
theorem dL_law_1054 : decode cL_law 1054 = .ok (.invokevirtual 108, 3) := by decide +kernel
theorem dL_law_1057 : decode cL_law 1057 = .ok (.if_icmp .eq 130, 3) := by decide +kernel
theorem dL_law_1060 : decode cL_law 1060 = .ok (.iconst 0, 1) := by decide +kernel
theorem dL_law_1061 : decode cL_law 1061 = .ok (.ireturn, 1) := by decide +kernel
theorem dL_law_1062 : decode cL_law 1062 = .ok (.aload_n 1, 1) := by decide +kernel
theorem dL_law_1063 : decode cL_law 1063 = .ok (.aload_n 0, 1) := by decide +kernel
theorem dL_law_1064 : decode cL_law 1064 = .ok (.iload_n 3, 1) := by decide +kernel
theorem dL_law_1065 : decode cL_law 1065 = .ok (.iconst 1, 1) := by decide +kernel
theorem dL_law_1066 : decode cL_law 1066 = .ok (.iadd, 1) := by decide +kernel
theorem dL_law_1067 : decode cL_law 1067 = .ok (.iaload, 1) := by decide +kernel
theorem dL_law_1068 : decode cL_law 1068 = .ok (.aload_n 0, 1) := by decide +kernel
theorem dL_law_1069 : decode cL_law 1069 = .ok (.iload_n 3, 1) := by decide +kernel
theorem dL_law_1070 : decode cL_law 1070 = .ok (.iconst 2, 1) := by decide +kernel
theorem dL_law_1071 : decode cL_law 1071 = .ok (.iadd, 1) := by decide +kernel
theorem dL_law_1072 : decode cL_law 1072 = .ok (.iaload, 1) := by decide +kernel
theorem dL_law_1073 : decode cL_law 1073 = .ok (.invokevirtual 109, 3) := by decide +kernel
theorem dL_law_1076 : decode cL_law 1076 = .ok (.aload_n 2, 1) := by decide +kernel
theorem dL_law_1077 : decode cL_law 1077 = .ok (.aload_n 0, 1) := by decide +kernel
theorem dL_law_1078 : decode cL_law 1078 = .ok (.iload_n 3, 1) := by decide +kernel
theorem dL_law_1079 : decode cL_law 1079 = .ok (.iconst 1, 1) := by decide +kernel
theorem dL_law_1080 : decode cL_law 1080 = .ok (.iadd, 1) := by decide +kernel
theorem dL_law_1081 : decode cL_law 1081 = .ok (.iaload, 1) := by decide +kernel
theorem dL_law_1082 : decode cL_law 1082 = .ok (.aload_n 0, 1) := by decide +kernel
theorem dL_law_1083 : decode cL_law 1083 = .ok (.iload_n 3, 1) := by decide +kernel
theorem dL_law_1084 : decode cL_law 1084 = .ok (.iconst 2, 1) := by decide +kernel
theorem dL_law_1085 : decode cL_law 1085 = .ok (.iadd, 1) := by decide +kernel
theorem dL_law_1086 : decode cL_law 1086 = .ok (.iaload, 1) := by decide +kernel
theorem dL_law_1087 : decode cL_law 1087 = .ok (.invokevirtual 112, 3) := by decide +kernel
theorem dL_law_1090 : decode cL_law 1090 = .ok (.if_icmp .eq 97, 3) := by decide +kernel
theorem dL_law_1093 : decode cL_law 1093 = .ok (.iconst 0, 1) := by decide +kernel
theorem dL_law_1094 : decode cL_law 1094 = .ok (.ireturn, 1) := by decide +kernel
theorem dL_law_1095 : decode cL_law 1095 = .ok (.aload_n 1, 1) := by decide +kernel
theorem dL_law_1096 : decode cL_law 1096 = .ok (.aload_n 0, 1) := by decide +kernel
theorem dL_law_1097 : decode cL_law 1097 = .ok (.iload_n 3, 1) := by decide +kernel
theorem dL_law_1098 : decode cL_law 1098 = .ok (.iconst 1, 1) := by decide +kernel
theorem dL_law_1099 : decode cL_law 1099 = .ok (.iadd, 1) := by decide +kernel
theorem dL_law_1100 : decode cL_law 1100 = .ok (.iaload, 1) := by decide +kernel
theorem dL_law_1101 : decode cL_law 1101 = .ok (.aload_n 0, 1) := by decide +kernel
theorem dL_law_1102 : decode cL_law 1102 = .ok (.iload_n 3, 1) := by decide +kernel
theorem dL_law_1103 : decode cL_law 1103 = .ok (.iconst 2, 1) := by decide +kernel
theorem dL_law_1104 : decode cL_law 1104 = .ok (.iadd, 1) := by decide +kernel
theorem dL_law_1105 : decode cL_law 1105 = .ok (.iaload, 1) := by decide +kernel
theorem dL_law_1106 : decode cL_law 1106 = .ok (.invokevirtual 113, 3) := by decide +kernel
theorem dL_law_1109 : decode cL_law 1109 = .ok (.aload_n 2, 1) := by decide +kernel
theorem dL_law_1110 : decode cL_law 1110 = .ok (.aload_n 0, 1) := by decide +kernel
theorem dL_law_1111 : decode cL_law 1111 = .ok (.iload_n 3, 1) := by decide +kernel
theorem dL_law_1112 : decode cL_law 1112 = .ok (.iconst 1, 1) := by decide +kernel
theorem dL_law_1113 : decode cL_law 1113 = .ok (.iadd, 1) := by decide +kernel
theorem dL_law_1114 : decode cL_law 1114 = .ok (.iaload, 1) := by decide +kernel
theorem dL_law_1115 : decode cL_law 1115 = .ok (.aload_n 0, 1) := by decide +kernel
theorem dL_law_1116 : decode cL_law 1116 = .ok (.iload_n 3, 1) := by decide +kernel
theorem dL_law_1117 : decode cL_law 1117 = .ok (.iconst 2, 1) := by decide +kernel
theorem dL_law_1118 : decode cL_law 1118 = .ok (.iadd, 1) := by decide +kernel
theorem dL_law_1119 : decode cL_law 1119 = .ok (.iaload, 1) := by decide +kernel
theorem dL_law_1120 : decode cL_law 1120 = .ok (.invokevirtual 116, 3) := by decide +kernel
theorem dL_law_1123 : decode cL_law 1123 = .ok (.if_icmp .eq 64, 3) := by decide +kernel
theorem dL_law_1126 : decode cL_law 1126 = .ok (.iconst 0, 1) := by decide +kernel
theorem dL_law_1127 : decode cL_law 1127 = .ok (.ireturn, 1) := by decide +kernel
theorem dL_law_1128 : decode cL_law 1128 = .ok (.aload_n 1, 1) := by decide +kernel
theorem dL_law_1129 : decode cL_law 1129 = .ok (.aload_n 0, 1) := by decide +kernel
theorem dL_law_1130 : decode cL_law 1130 = .ok (.iload_n 3, 1) := by decide +kernel
theorem dL_law_1131 : decode cL_law 1131 = .ok (.iconst 1, 1) := by decide +kernel
theorem dL_law_1132 : decode cL_law 1132 = .ok (.iadd, 1) := by decide +kernel
theorem dL_law_1133 : decode cL_law 1133 = .ok (.iaload, 1) := by decide +kernel
theorem dL_law_1134 : decode cL_law 1134 = .ok (.invokevirtual 117, 3) := by decide +kernel
theorem dL_law_1137 : decode cL_law 1137 = .ok (.aload_n 2, 1) := by decide +kernel
theorem dL_law_1138 : decode cL_law 1138 = .ok (.aload_n 0, 1) := by decide +kernel
theorem dL_law_1139 : decode cL_law 1139 = .ok (.iload_n 3, 1) := by decide +kernel
theorem dL_law_1140 : decode cL_law 1140 = .ok (.iconst 1, 1) := by decide +kernel
theorem dL_law_1141 : decode cL_law 1141 = .ok (.iadd, 1) := by decide +kernel
theorem dL_law_1142 : decode cL_law 1142 = .ok (.iaload, 1) := by decide +kernel
theorem dL_law_1143 : decode cL_law 1143 = .ok (.invokevirtual 120, 3) := by decide +kernel
theorem dL_law_1146 : decode cL_law 1146 = .ok (.if_icmp .eq 41, 3) := by decide +kernel
theorem dL_law_1149 : decode cL_law 1149 = .ok (.iconst 0, 1) := by decide +kernel
theorem dL_law_1150 : decode cL_law 1150 = .ok (.ireturn, 1) := by decide +kernel
theorem dL_law_1151 : decode cL_law 1151 = .ok (.aload_n 1, 1) := by decide +kernel
theorem dL_law_1152 : decode cL_law 1152 = .ok (.aload_n 0, 1) := by decide +kernel
theorem dL_law_1153 : decode cL_law 1153 = .ok (.iload_n 3, 1) := by decide +kernel
theorem dL_law_1154 : decode cL_law 1154 = .ok (.iconst 1, 1) := by decide +kernel
theorem dL_law_1155 : decode cL_law 1155 = .ok (.iadd, 1) := by decide +kernel
theorem dL_law_1156 : decode cL_law 1156 = .ok (.iaload, 1) := by decide +kernel
theorem dL_law_1157 : decode cL_law 1157 = .ok (.invokevirtual 121, 3) := by decide +kernel
theorem dL_law_1160 : decode cL_law 1160 = .ok (.aload_n 2, 1) := by decide +kernel
theorem dL_law_1161 : decode cL_law 1161 = .ok (.aload_n 0, 1) := by decide +kernel
theorem dL_law_1162 : decode cL_law 1162 = .ok (.iload_n 3, 1) := by decide +kernel
theorem dL_law_1163 : decode cL_law 1163 = .ok (.iconst 1, 1) := by decide +kernel
theorem dL_law_1164 : decode cL_law 1164 = .ok (.iadd, 1) := by decide +kernel
theorem dL_law_1165 : decode cL_law 1165 = .ok (.iaload, 1) := by decide +kernel
theorem dL_law_1166 : decode cL_law 1166 = .ok (.invokevirtual 124, 3) := by decide +kernel
theorem dL_law_1169 : decode cL_law 1169 = .ok (.if_icmp .eq 18, 3) := by decide +kernel
theorem dL_law_1172 : decode cL_law 1172 = .ok (.iconst 0, 1) := by decide +kernel
theorem dL_law_1173 : decode cL_law 1173 = .ok (.ireturn, 1) := by decide +kernel
theorem dL_law_1174 : decode cL_law 1174 = .ok (.aload_n 1, 1) := by decide +kernel
theorem dL_law_1175 : decode cL_law 1175 = .ok (.invokevirtual 125, 3) := by decide +kernel
theorem dL_law_1178 : decode cL_law 1178 = .ok (.aload_n 2, 1) := by decide +kernel
theorem dL_law_1179 : decode cL_law 1179 = .ok (.invokevirtual 128, 3) := by decide +kernel
theorem dL_law_1182 : decode cL_law 1182 = .ok (.if_icmp .eq 5, 3) := by decide +kernel
theorem dL_law_1185 : decode cL_law 1185 = .ok (.iconst 0, 1) := by decide +kernel
theorem dL_law_1186 : decode cL_law 1186 = .ok (.ireturn, 1) := by decide +kernel
theorem dL_law_1187 : decode cL_law 1187 = .ok (.iinc 3 8, 3) := by decide +kernel
theorem dL_law_1190 : decode cL_law 1190 = .ok (.goto (-1172), 3) := by decide +kernel
theorem dL_law_1193 : decode cL_law 1193 = .ok (.iconst 1, 1) := by decide +kernel
theorem dL_law_1194 : decode cL_law 1194 = .ok (.ireturn, 1) := by decide +kernel
end
section
/-! ===== the layout: after both constructors the heap is a fixed list of cells; its state is m : cell -> place -> Int32 ===== -/
abbrev jM : Type := Nat → Nat → Int32
abbrev jG : Type := va_G × (Nat → ClassId) × (Nat → Nat)
abbrev jMeth : Type := MethodName × ByteArray × Nat × Option FieldType × String × Nat × Nat
abbrev jMode : Type := Room × Nat × Nat × (jG → State → (Nat → Prop) → Array Value → List Frame → State → Prop) × (jG → State → (Nat → Prop) → Prop)
/-- (kind, length or class): 0 ints, 1 booleans, 2 Row[], 3 Kitchen[], 4 int[][], 5 an object -/
def jKit : List (Nat × Nat) := [(5, 0), (0, 3), (0, 3), (0, 3), (0, 5), (0, 5), (0, 5), (0, 3), (0, 5), (0, 5), (0, 5)]
def jlayL : List (Nat × Nat) :=
  [(5, 3), (2, 8), (5, 1), (0, 40), (5, 1), (0, 40), (5, 1), (0, 40), (5, 1), (0, 40), (5, 1), (0, 40), (5, 1), (0, 40), (5, 1), (0, 40), (5, 1), (0, 40), (5, 2), (0, 120)] ++
  (jKit ++ (jKit ++ ([(3, 2)] ++ (jKit ++ (jKit ++ ([(4, 24)] ++ (List.replicate 24 (0, 19) ++ ([(0, 3), (0, 16), (4, 4)] ++ (List.replicate 4 (0, 19) ++
  [(0, 16), (5, 4), (0, 8), (0, 8), (0, 320), (0, 51), (0, 40), (0, 120), (0, 51), (0, 3), (0, 1224), (0, 51), (0, 4), (1, 2), (0, 102), (0, 16)])))))))))
def jlay (c : Nat) : Nat × Nat := jlayL.getD c (9, 0)
/-- fields: 0 a number, k + 1: a reference to the cell k + 1 places behind the object -/
def jfoL : List (List Nat) :=
  [[0, 0, 0, 1, 2, 3, 0, 4, 5, 6, 0, 7, 8, 9, 10], [0, 0, 0, 1], [1, 0, 0, 0, 0, 0, 0], [1, 18, 20, 31, 42, 65, 0, 0, 90, 91, 92, 0, 0, 0, 97, 0, 0, 0],
   [1, 2, 3, 0, 0, 4, 5, 6, 0, 0, 0, 0, 0, 0, 0, 7, 8, 9, 0, 10, 11, 0, 12, 13, 14, 0]]
def jfo (ci k : Nat) : Nat := (jfoL.getD ci []).getD k 0
def jCl : List vw_C := [(RX0, TX0, 15), (RX1, TX1, 4), (RX2, TX2, 7), (RX3, TX3, 18), (RX4, TX4, 26)]
def jN (ci : Nat) : Nat := ([15, 4, 7, 18, 26] : List Nat).getD ci 0
def jtg (c j : Nat) : Nat := if c = 1 then 2 + 2 * j else if c = 42 then 43 + 11 * j else if c = 65 then 66 + j else 93 + j
def jfv (G : jG) (m : jM) (c ci k : Nat) : Value := if jfo ci k = 0 then .int (m c k) else .ref (G.2.2 (c + jfo ci k))
def jent (G : jG) (m : jM) (c : Nat) : va_E :=
  if (jlay c).1 = 5 then .inr ((jlay c).2, (List.range (jN (jlay c).2)).map (jfv G m c (jlay c).2))
  else if (jlay c).1 < 2 then .inl (G.2.1 (jlay c).1, (jlay c).2, .inl (m c))
  else .inl (G.2.1 (jlay c).1, (jlay c).2, .inr (.inr (.inr (.inr (fun j => some (G.2.2 (jtg c j)))))))
def jw (G : jG) (m : jM) : va_W := (List.range 113).map (fun c => (G.2.2 c, jent G m c))
def jtys (G : jG) : List (ClassId × FieldType) := [(G.2.1 0, .int), (G.2.1 1, .boolean), (G.2.1 2, .object "JamSongs$Row"), (G.2.1 3, .object "JamSongs$Kitchen"), (G.2.1 4, .array .int)]
def jA (G : jG) : Nat → Prop := fun q => ∃ c, c < 113 ∧ q = G.2.2 c
def jInj (G : jG) : Prop := ∀ i j : Nat, i < 113 → j < 113 → G.2.2 i = G.2.2 j → i = j
def jtr (G : jG) : Value → Value
  | .ref a => .ref (G.2.2 a)
  | v => v
def jnear (j : Nat) : Int32 := ([0, 0, 1, 1, 0, 4] : List Int32).getD j 0
def jNear (G : jG) (A : Nat → Prop) (s : State) (H : Heap) : Prop := va_Z "JamSongs" "NEAREST" "[I" (.ref (G.2.2 113)) A s H ∧ va_T .int (G.2.2 113) 6 (fun j => .int (jnear j)) A s H
/-- the row c becomes f -/
def jup (m : jM) (c : Nat) (f : Nat → Int32) : jM := fun a => if a = c then f else m a
theorem jup_s (m : jM) (c : Nat) (f : Nat → Int32) : jup m c f c = f := if_pos rfl
theorem jup_n (m : jM) {c a : Nat} (f : Nat → Int32) (h : a ≠ c) : jup m c f a = m a := if_neg h
theorem jw_get (G : jG) (m : jM) {c : Nat} (h : c < 113) : (jw G m)[c]? = some (G.2.2 c, jent G m c) := by
  simp [jw, h]
theorem jlay_lt {c k n : Nat} (h : jlay c = (k, n)) (hk : k < 6) : c < 113 := by
  rcases Nat.lt_or_ge c 113 with q | q
  · exact q
  · exfalso
    have e : jlayL.length = 113 := by decide +kernel
    unfold jlay at h
    rw [List.getD_eq_getElem?_getD, List.getElem?_eq_none (by omega)] at h
    have : (9 : Nat) = k := congrArg Prod.fst h
    omega
theorem jent_to {G : jG} {m m' : jM} {a : Nat} (h : m' a = m a) : jent G m' a = jent G m a := by
  unfold jent
  have e : ∀ ci, jfv G m' a ci = jfv G m a ci := fun ci => by funext k; unfold jfv; rw [h]
  rw [h, e]
theorem jw_set {G : jG} {m : jM} {c : Nat} {f : Nat → Int32} {e : va_E} (he : jent G (jup m c f) c = e) : (jw G m).set c (G.2.2 c, e) = jw G (jup m c f) := by
  apply List.ext_getElem?
  intro i
  by_cases hi : i < 113
  · rw [jw_get G _ hi]
    by_cases hc : i = c
    · subst hc
      rw [List.getElem?_set_self (by simp [jw, hi]), he]
    · rw [List.getElem?_set_ne (Ne.symm hc), jw_get G m hi, jent_to (jup_n m f hc)]
  · have l1 : (jw G m).length = 113 := by simp [jw]
    have l2 : (jw G (jup m c f)).length = 113 := by simp [jw]
    rw [List.getElem?_eq_none (by rw [List.length_set]; omega), List.getElem?_eq_none (by omega)]
theorem jw_D {G : jG} {m : jM} {A : Nat → Prop} (hi : jInj G) (hA : ∀ c, c < 113 → A (G.2.2 c)) : va_D A (jw G m) := by
  have key : ∀ (k : Nat) (q : Nat × va_E), (jw G m)[k]? = some q → k < 113 ∧ q.1 = G.2.2 k := by
    intro k q h
    have hl : k < 113 := by
      have := (List.getElem?_eq_some_iff.mp h).1
      simpa [jw] using this
    rw [jw_get G m hl] at h
    exact ⟨hl, by rw [← Option.some.inj h]⟩
  refine ⟨fun i j p q h1 h2 e => ?_, fun k q h => ?_⟩
  · obtain ⟨a1, b1⟩ := key i p h1
    obtain ⟨a2, b2⟩ := key j q h2
    exact hi i j a1 a2 (by rw [← b1, ← b2]; exact e)
  · obtain ⟨a1, b1⟩ := key k q h
    rw [b1]
    exact hA k a1
/-- locals: those that are told are held -/
def jlv (G : jG) (ls : Array Slot) (nL : Nat) (L : List (Option Value)) : Prop := ls.size = nL ∧ lv_wf ls ∧ ∀ (i : Nat) (v : Value), L[i]? = some (some v) → ls[i]? = some (.val (jtr G v))
/-- no long in a place -/
def jnl (o : Option Value) : Bool := match o with
  | some (.long _) => false
  | some (.double _) => false
  | _ => true
def jpr (G : jG) (L : List (Option Value)) : List (Nat × Value) := (List.range L.length).filterMap (fun i => (L[i]?.getD none).map (fun v => (i, jtr G v)))
theorem jpr_mem {G : jG} {L : List (Option Value)} {i : Nat} {v : Value} (h : L[i]? = some (some v)) : (i, jtr G v) ∈ jpr G L := by
  refine List.mem_filterMap.mpr ⟨i, List.mem_range.mpr (List.getElem?_eq_some_iff.mp h).1, ?_⟩
  rw [h]
  rfl
theorem jpr_of {G : jG} {L : List (Option Value)} {q : Nat × Value} (h : q ∈ jpr G L) : ∃ v, L[q.1]? = some (some v) ∧ q.2 = jtr G v := by
  obtain ⟨i, -, h2⟩ := List.mem_filterMap.mp h
  cases hL : L[i]? with
  | none => rw [hL] at h2; cases h2
  | some o =>
    cases o with
    | none => rw [hL] at h2; cases h2
    | some v =>
      rw [hL] at h2
      have e : (i, jtr G v) = q := Option.some.inj h2
      subst e
      exact ⟨v, hL, rfl⟩
theorem jlv_has {G : jG} {ls : Array Slot} {nL : Nat} {L : List (Option Value)} (h : jlv G ls nL L) : lv_has ls nL (jpr G L) :=
  ⟨h.1, h.2.1, fun q hq => by
    obtain ⟨v, h1, h2⟩ := jpr_of hq
    rw [h2]
    exact h.2.2 _ _ h1⟩
theorem jtr_cat (G : jG) (v : Value) : (jtr G v).category = v.category := by cases v <;> rfl
theorem jlv_store {G : jG} {ls' : Array Slot} {nL i : Nat} {L : List (Option Value)} {v : Value} (hn : ∀ j, j + 1 = i → jnl (L[j]?.getD none) = true) (hi : i < L.length)
    (h : lv_has ls' nL ((i, jtr G v) :: (jpr G L).filter (fun q => !(q.1 == i) && !(q.1 + 1 == i && q.2.category == 2)))) : jlv G ls' nL (L.set i (some v)) := by
  refine ⟨h.1, h.2.1, fun j w hj => ?_⟩
  by_cases e : j = i
  · subst e
    rw [List.getElem?_set_self hi] at hj
    cases hj
    exact h.2.2 (j, jtr G v) List.mem_cons_self
  · rw [List.getElem?_set_ne (Ne.symm e)] at hj
    refine h.2.2 (j, jtr G w) (List.mem_cons_of_mem _ (List.mem_filter.mpr ⟨jpr_mem hj, ?_⟩))
    have c : ¬ (j + 1 = i ∧ w.category = 2) := by
      rintro ⟨c1, c2⟩
      have := hn j c1
      rw [hj] at this
      cases w <;> simp_all [jnl, Value.category]
    simp only [Bool.and_eq_true, Bool.not_eq_true', beq_eq_false_iff_ne, ne_eq, Bool.and_eq_false_iff, jtr_cat]
    refine ⟨e, ?_⟩
    by_cases c1 : j + 1 = i
    · exact Or.inr (fun z => c ⟨c1, z⟩)
    · exact Or.inl c1
/-! ===== contracts ===== -/
def jrm (M : jMeth) : Room := { frames := M.2.2.2.2.2.1, cells := 0, slots := 0, locals := M.2.2.2.2.2.2 }
def jws (M : jMeth) : List Cond := .code M.1 M.2.1 M.2.2.1 M.2.2.2.1 :: wsL_law
def jPc (G : jG) (as : List Value) (m : jM) : Array Value → State → Prop := va_Pc (as.map (jtr G)) (fun U => va_P G.1 jCl (jw G m) U.heap ∧ va_K G.1 jCl (jtys G) U ∧ jNear G (jA G) U U.heap ∧ jInj G)
def jQc (G : jG) (Post : Option Value → jM → Prop) : Array Value → State → Outcome → State → Prop := fun _ st oc t => (∃ (r : Option Value) (m' : jM), Post r m' ∧ oc = .returned (r.map (jtr G)) ∧ va_P G.1 jCl (jw G m') t.heap) ∧ va_F (jA G) st t
def jX (M : jMeth) (as : List Value) (m : jM) (Post : Option Value → jM → Prop) : Prop := ∀ (l : Launch) (G : jG), Met l M.1 (jws M) (jrm M) (jPc G as m) (jQc G Post) 0 0 (jA G)
def jC (G : jG) (A : Nat → Prop) (M : jMeth) (p : Program) (s : State) (mth : MethodId) (args : Array Value) (meth : Method) (c : Code) : Prop :=
  p.tables.exec = Jvm.exec ∧ c.code = M.2.1 ∧ c.maxLocals = M.2.2.1 ∧ meth.sig.returnType = M.2.2.2.1 ∧ meth.locks = false ∧ s.vm.findClass M.2.2.2.2.1 = some mth.cls ∧ (∀ w ∈ wsL_law, w.before args s = true) ∧ va_K G.1 jCl (jtys G) s ∧ jNear G A s s.heap ∧ jInj G ∧ ∀ k, k < 113 → A (G.2.2 k)
def jE (B : jMode) (M : jMeth) (pc : Nat) (L : List (Option Value)) (S : List Value) (m : jM) : Prop :=
  ∀ (p : Program) (l : Launch) (e : Env) (G : jG) (A : Nat → Prop) (s : State) (mth : MethodId) (args : Array Value) (below : List Frame) (meth : Method) (c : Code), jC G A M p s mth args meth c → B.2.2.2.2 G s A →
    ∀ (H : Heap) (locs : List Loc) (ls : Array Slot), jlv G ls M.2.2.1 L → va_P G.1 jCl (jw G m) H → va_S A s.heap H locs → W p l e B.1 s mth args below meth c H locs B.2.1 B.2.2.1 (B.2.2.2.1 G s A args below) (F0 mth pc ls (S.map (jtr G)))
def jmd (M : jMeth) (Post : Option Value → jM → Prop) : jMode := (jrm M, 0, 0, fun G s A args below => MQ below (jQc G Post) args s 0 0 A, fun G _ A => A = jA G)
/-- what answers a number; what answers nothing -/
def iP (Q : Int32 → jM → Prop) : Option Value → jM → Prop := fun r m1 => ∃ v : Int32, r = some (.int v) ∧ Q v m1
def vP (Q : jM → Prop) : Option Value → jM → Prop := fun r m1 => r = none ∧ Q m1
abbrev iX (M : jMeth) (as : List Value) (m : jM) (Q : Int32 → jM → Prop) : Prop := jX M as m (iP Q)
abbrev vX (M : jMeth) (as : List Value) (m : jM) (Q : jM → Prop) : Prop := jX M as m (vP Q)
theorem jgood : ∀ w ∈ wsL_law, (w.onTables && w.keeps) = true ∨ ∃ ty, w = .arrayClass ty := by
  have h : wsL_law.all goodWord = true := by decide +kernel
  exact fun w hw => good_of_word (List.all_eq_true.mp h w hw)
theorem jgoodIn {ws : List Cond} (h : ∀ w ∈ ws, w ∈ wsL_law) : GoodIn wsL_law ws := fun w hw => ⟨h w hw, jgood w (h w hw)⟩
def jloc : List Value → List (Option Value)
  | [] => []
  | v :: vs => if v.category = 2 then some v :: none :: jloc vs else some v :: jloc vs
theorem jloc_in (G : jG) : ∀ (vs : List Value) (k i : Nat) (v : Value), (jloc vs)[i]? = some (some v) → (k + i, jtr G v) ∈ lv_args k (vs.map (jtr G))
  | [], k, i, v, h => by simp [jloc] at h
  | u :: us, k, i, v, h => by
    show (k + i, jtr G v) ∈ (k, jtr G u) :: lv_args (if (jtr G u).category = 2 then k + 2 else k + 1) (us.map (jtr G))
    rw [jtr_cat]
    unfold jloc at h
    by_cases c : u.category = 2
    · rw [if_pos c] at h ⊢
      match i, h with
      | 0, h => cases h; exact List.mem_cons_self
      | 1, h => cases h
      | i + 2, h =>
        have := jloc_in G us (k + 2) i v (by simpa using h)
        rw [show k + (i + 2) = k + 2 + i by omega]
        exact List.mem_cons_of_mem _ this
    · rw [if_neg c] at h ⊢
      match i, h with
      | 0, h => cases h; exact List.mem_cons_self
      | i + 1, h =>
        have := jloc_in G us (k + 1) i v (by simpa using h)
        rw [show k + (i + 1) = k + 1 + i by omega]
        exact List.mem_cons_of_mem _ this
theorem lg_sl_tr (G : jG) (vs : List Value) : (lg_sl (vs.map (jtr G))).length = (jloc vs).length := by
  induction vs with
  | nil => rfl
  | cons v vs ih =>
    have e : lg_sl ((v :: vs).map (jtr G)) = (if (jtr G v).category = 2 then [.val (jtr G v), .second] else [.val (jtr G v)]) ++ lg_sl (vs.map (jtr G)) := rfl
    have e2 : jloc (v :: vs) = if v.category = 2 then some v :: none :: jloc vs else some v :: jloc vs := rfl
    rw [e, e2, List.length_append, ih, jtr_cat]
    by_cases c : v.category = 2
    · rw [if_pos c, if_pos c]; simp; omega
    · rw [if_neg c, if_neg c]; simp; omega
/-- a method's contract out of a walk from its entry -/
theorem jX_of {M : jMeth} {as : List Value} {m : jM} {Post : Option Value → jM → Prop} {L : List (Option Value)} (n : Nat) (hL : jloc as ++ List.replicate n none = L) (hn : (jloc as).length + n = M.2.2.1) (hp : plainName M.1.cls = true) (ho : M.2.2.2.2.1 = M.1.cls)
    (h : jE (jmd M Post) M 0 L [] m) : jX M as m Post := by
  intro l G
  refine Met.ofW (cc := M.2.1) (maxL := M.2.2.1) (ret := M.2.2.2.1) hp rfl ?_
  intro p e s mth args below meth c s₁ B hml hv
  obtain ⟨rfl, hP, hK, hN, hI⟩ := hv
  have hts := atoms_spec (ws := jws M) B.pre
  have hC : jC G (jA G) M p s mth (as.map (jtr G)).toArray meth c :=
    ⟨B.exec, B.bytes, hml, B.returns, B.notSynchronized, by rw [ho]; exact findClass_of_methodNamed B.named, fun w hw => hts w (List.mem_cons_of_mem _ hw), hK, hN, hI, fun k hk => ⟨k, hk, rfl⟩⟩
  have hl := lv_entry (as.map (jtr G)) (n := M.2.2.1) (by rw [lg_sl_tr]; omega)
  rw [lg_entry_eq]
  refine h p l e G (jA G) s mth _ below meth c hC rfl s.heap [] _ ⟨hl.1, hl.2.1, fun i v hi => ?_⟩ hP va_S.rf
  refine hl.2.2 (i, jtr G v) ?_
  rw [← hL] at hi
  have hi2 : (jloc as)[i]? = some (some v) := by
    rcases Nat.lt_or_ge i (jloc as).length with q | q
    · rw [List.getElem?_append_left q] at hi
      exact hi
    · rw [List.getElem?_append_right q, List.getElem?_replicate] at hi
      split at hi <;> cases hi
  have := jloc_in G as 0 i v hi2
  rwa [Nat.zero_add] at this
end
section
theorem jw_native : Cond.native arraycopyName ∈ wsL_law := List.mem_of_getElem? (i := 170) (by decide +kernel)
theorem jw_static : Cond.static arraycopyName ∈ wsL_law := List.mem_of_getElem? (i := 171) (by decide +kernel)
theorem jw_system : Cond.initialized "java/lang/System" ∈ wsL_law := List.mem_of_getElem? (i := 172) (by decide +kernel)
theorem e_iconst {B : jMode} {M : jMeth} {pc : Nat} {L : List (Option Value)} {S : List Value} {m : jM} {n : Int} {v : Int32} (hd : decode M.2.1 pc = .ok (.iconst n, 1)) (hv : Int32.ofInt n = v) (k : jE B M (pc + 1) L (.int v :: S) m) : jE B M pc L S m := by
  intro p l e G A s mth args below meth c C X H locs ls hl hP hS
  exact lv_iconst C.1 C.2.1 hd hv (k p l e G A s mth args below meth c C X H locs ls hl hP hS)
theorem e_bipush {B : jMode} {M : jMeth} {pc : Nat} {L : List (Option Value)} {S : List Value} {m : jM} {n : Int} {v : Int32} (hd : decode M.2.1 pc = .ok (.bipush n, 2)) (hv : (Int8.ofInt n).toInt32 = v) (k : jE B M (pc + 2) L (.int v :: S) m) : jE B M pc L S m := by
  intro p l e G A s mth args below meth c C X H locs ls hl hP hS
  exact lv_bipush C.1 C.2.1 hd hv (k p l e G A s mth args below meth c C X H locs ls hl hP hS)
theorem e_sipush {B : jMode} {M : jMeth} {pc : Nat} {L : List (Option Value)} {S : List Value} {m : jM} {n : Int} {v : Int32} (hd : decode M.2.1 pc = .ok (.sipush n, 3)) (hv : (Int16.ofInt n).toInt32 = v) (k : jE B M (pc + 3) L (.int v :: S) m) : jE B M pc L S m := by
  intro p l e G A s mth args below meth c C X H locs ls hl hP hS
  exact lv_sipush C.1 C.2.1 hd hv (k p l e G A s mth args below meth c C X H locs ls hl hP hS)
theorem e_lconst {B : jMode} {M : jMeth} {pc : Nat} {L : List (Option Value)} {S : List Value} {m : jM} {n : Fin 2} {v : Int64} (hd : decode M.2.1 pc = .ok (.lconst n, 1)) (hv : Int64.ofNat (n : Nat) = v) (k : jE B M (pc + 1) L (.long v :: S) m) : jE B M pc L S m := by
  intro p l e G A s mth args below meth c C X H locs ls hl hP hS
  exact lv_lconst C.1 C.2.1 hd hv (k p l e G A s mth args below meth c C X H locs ls hl hP hS)
theorem e_ldc {B : jMode} {M : jMeth} {pc : Nat} {L : List (Option Value)} {S : List Value} {m : jM} {index : Nat} {v : Int32} (hd : decode M.2.1 pc = .ok (.ldc index, 2)) (hc : Cond.constant M.2.2.2.2.1 index v ∈ wsL_law) (k : jE B M (pc + 2) L (.int v :: S) m) : jE B M pc L S m := by
  intro p l e G A s mth args below meth c C X H locs ls hl hP hS
  exact lv_ldc C.1 C.2.1 C.2.2.2.2.2.1 (C.2.2.2.2.2.2.1 _ hc) hd (k p l e G A s mth args below meth c C X H locs ls hl hP hS)
theorem e_ldcw {B : jMode} {M : jMeth} {pc : Nat} {L : List (Option Value)} {S : List Value} {m : jM} {index : Nat} {v : Int32} (hd : decode M.2.1 pc = .ok (.ldc_w index, 3)) (hc : Cond.constant M.2.2.2.2.1 index v ∈ wsL_law) (k : jE B M (pc + 3) L (.int v :: S) m) : jE B M pc L S m := by
  intro p l e G A s mth args below meth c C X H locs ls hl hP hS
  exact lv_ldcw C.1 C.2.1 C.2.2.2.2.2.1 (C.2.2.2.2.2.2.1 _ hc) hd (k p l e G A s mth args below meth c C X H locs ls hl hP hS)
theorem e_ldc2 {B : jMode} {M : jMeth} {pc : Nat} {L : List (Option Value)} {S : List Value} {m : jM} {index : Nat} {v : Int64} (hd : decode M.2.1 pc = .ok (.ldc2_w index, 3)) (hc : Cond.constantLong M.2.2.2.2.1 index v ∈ wsL_law) (k : jE B M (pc + 3) L (.long v :: S) m) : jE B M pc L S m := by
  intro p l e G A s mth args below meth c C X H locs ls hl hP hS
  exact lv_ldc2 C.1 C.2.1 C.2.2.2.2.2.1 (C.2.2.2.2.2.2.1 _ hc) hd (k p l e G A s mth args below meth c C X H locs ls hl hP hS)
theorem e_iload_n {B : jMode} {M : jMeth} {pc : Nat} {L : List (Option Value)} {S : List Value} {m : jM} {q : Fin 4} {x : Int32} (hd : decode M.2.1 pc = .ok (.iload_n q, 1)) (hL : L[(q : Nat)]? = some (some (.int x))) (k : jE B M (pc + 1) L (.int x :: S) m) : jE B M pc L S m := by
  intro p l e G A s mth args below meth c C X H locs ls hl hP hS
  exact lv_iload_n C.1 C.2.1 hd rfl (hl.2.2 _ _ hL) (k p l e G A s mth args below meth c C X H locs ls hl hP hS)
theorem e_iload {B : jMode} {M : jMeth} {pc : Nat} {L : List (Option Value)} {S : List Value} {m : jM} {i : Nat} {x : Int32} (hd : decode M.2.1 pc = .ok (.iload i, 2)) (hL : L[i]? = some (some (.int x))) (k : jE B M (pc + 2) L (.int x :: S) m) : jE B M pc L S m := by
  intro p l e G A s mth args below meth c C X H locs ls hl hP hS
  exact lv_iload C.1 C.2.1 hd (hl.2.2 _ _ hL) (k p l e G A s mth args below meth c C X H locs ls hl hP hS)
theorem e_lload_n {B : jMode} {M : jMeth} {pc : Nat} {L : List (Option Value)} {S : List Value} {m : jM} {q : Fin 4} {x : Int64} (hd : decode M.2.1 pc = .ok (.lload_n q, 1)) (hL : L[(q : Nat)]? = some (some (.long x))) (k : jE B M (pc + 1) L (.long x :: S) m) : jE B M pc L S m := by
  intro p l e G A s mth args below meth c C X H locs ls hl hP hS
  exact lv_lload_n C.1 C.2.1 hd rfl (hl.2.2 _ _ hL) (k p l e G A s mth args below meth c C X H locs ls hl hP hS)
theorem e_lload {B : jMode} {M : jMeth} {pc : Nat} {L : List (Option Value)} {S : List Value} {m : jM} {i : Nat} {x : Int64} (hd : decode M.2.1 pc = .ok (.lload i, 2)) (hL : L[i]? = some (some (.long x))) (k : jE B M (pc + 2) L (.long x :: S) m) : jE B M pc L S m := by
  intro p l e G A s mth args below meth c C X H locs ls hl hP hS
  exact lv_lload C.1 C.2.1 hd (hl.2.2 _ _ hL) (k p l e G A s mth args below meth c C X H locs ls hl hP hS)
theorem e_aload_n {B : jMode} {M : jMeth} {pc : Nat} {L : List (Option Value)} {S : List Value} {m : jM} {q : Fin 4} {x : Nat} (hd : decode M.2.1 pc = .ok (.aload_n q, 1)) (hL : L[(q : Nat)]? = some (some (.ref x))) (k : jE B M (pc + 1) L (.ref x :: S) m) : jE B M pc L S m := by
  intro p l e G A s mth args below meth c C X H locs ls hl hP hS
  exact lv_aload_n C.1 C.2.1 hd rfl (hl.2.2 _ _ hL) (k p l e G A s mth args below meth c C X H locs ls hl hP hS)
theorem e_aload {B : jMode} {M : jMeth} {pc : Nat} {L : List (Option Value)} {S : List Value} {m : jM} {i : Nat} {x : Nat} (hd : decode M.2.1 pc = .ok (.aload i, 2)) (hL : L[i]? = some (some (.ref x))) (k : jE B M (pc + 2) L (.ref x :: S) m) : jE B M pc L S m := by
  intro p l e G A s mth args below meth c C X H locs ls hl hP hS
  exact lv_aload C.1 C.2.1 hd (hl.2.2 _ _ hL) (k p l e G A s mth args below meth c C X H locs ls hl hP hS)
theorem e_istore_n {B : jMode} {M : jMeth} {pc : Nat} {L : List (Option Value)} {S : List Value} {m : jM} {q : Fin 4} {x : Int32} {L' : List (Option Value)} (hd : decode M.2.1 pc = .ok (.istore_n q, 1)) (hi : (q : Nat) < M.2.2.1) (hi2 : (q : Nat) < L.length) (hn : ∀ j, j + 1 = (q : Nat) → jnl (L[j]?.getD none) = true) (hL : L.set q (some (.int x)) = L') (k : jE B M (pc + 1) L' S m) : jE B M pc L (.int x :: S) m := by
  intro p l e G A s mth args below meth c C X H locs ls hl hP hS
  subst hL
  exact lv_istore_n C.1 C.2.1 hd rfl (jlv_has hl) hi rfl (fun ls' h => k p l e G A s mth args below meth c C X H locs ls' (jlv_store hn hi2 h) hP hS)
theorem e_istore {B : jMode} {M : jMeth} {pc : Nat} {L : List (Option Value)} {S : List Value} {m : jM} {i : Nat} {x : Int32} {L' : List (Option Value)} (hd : decode M.2.1 pc = .ok (.istore i, 2)) (hi : i < M.2.2.1) (hi2 : i < L.length) (hn : ∀ j, j + 1 = i → jnl (L[j]?.getD none) = true) (hL : L.set i (some (.int x)) = L') (k : jE B M (pc + 2) L' S m) : jE B M pc L (.int x :: S) m := by
  intro p l e G A s mth args below meth c C X H locs ls hl hP hS
  subst hL
  exact lv_istore C.1 C.2.1 hd (jlv_has hl) hi rfl (fun ls' h => k p l e G A s mth args below meth c C X H locs ls' (jlv_store hn hi2 h) hP hS)
theorem e_astore_n {B : jMode} {M : jMeth} {pc : Nat} {L : List (Option Value)} {S : List Value} {m : jM} {q : Fin 4} {x : Nat} {L' : List (Option Value)} (hd : decode M.2.1 pc = .ok (.astore_n q, 1)) (hi : (q : Nat) < M.2.2.1) (hi2 : (q : Nat) < L.length) (hn : ∀ j, j + 1 = (q : Nat) → jnl (L[j]?.getD none) = true) (hL : L.set q (some (.ref x)) = L') (k : jE B M (pc + 1) L' S m) : jE B M pc L (.ref x :: S) m := by
  intro p l e G A s mth args below meth c C X H locs ls hl hP hS
  subst hL
  exact lv_astore_n C.1 C.2.1 hd rfl (jlv_has hl) hi rfl (fun ls' h => k p l e G A s mth args below meth c C X H locs ls' (jlv_store hn hi2 h) hP hS)
theorem e_astore {B : jMode} {M : jMeth} {pc : Nat} {L : List (Option Value)} {S : List Value} {m : jM} {i : Nat} {x : Nat} {L' : List (Option Value)} (hd : decode M.2.1 pc = .ok (.astore i, 2)) (hi : i < M.2.2.1) (hi2 : i < L.length) (hn : ∀ j, j + 1 = i → jnl (L[j]?.getD none) = true) (hL : L.set i (some (.ref x)) = L') (k : jE B M (pc + 2) L' S m) : jE B M pc L (.ref x :: S) m := by
  intro p l e G A s mth args below meth c C X H locs ls hl hP hS
  subst hL
  exact lv_astore C.1 C.2.1 hd (jlv_has hl) hi rfl (fun ls' h => k p l e G A s mth args below meth c C X H locs ls' (jlv_store hn hi2 h) hP hS)
theorem e_iinc {B : jMode} {M : jMeth} {pc : Nat} {L : List (Option Value)} {S : List Value} {m : jM} {i : Nat} {n : Int} {x v : Int32} {L' : List (Option Value)} (hd : decode M.2.1 pc = .ok (.iinc i n, 3)) (hx : L[i]? = some (some (.int x))) (hv : x + Int32.ofInt n = v) (hi : i < M.2.2.1) (hn : ∀ j, j + 1 = i → jnl (L[j]?.getD none) = true) (hL : L.set i (some (.int v)) = L') (k : jE B M (pc + 3) L' S m) : jE B M pc L S m := by
  intro p l e G A s mth args below meth c C X H locs ls hl hP hS
  subst hL
  obtain ⟨k0, hk0⟩ := List.getElem?_of_mem (jpr_mem (G := G) hx)
  exact lv_iinc C.1 C.2.1 hd (jlv_has hl) (k := k0) hk0 hv hi rfl (fun ls' h => k p l e G A s mth args below meth c C X H locs ls' (jlv_store (v := .int v) hn (List.getElem?_eq_some_iff.mp hx).1 h) hP hS)
theorem e_iadd {B : jMode} {M : jMeth} {pc : Nat} {L : List (Option Value)} {S : List Value} {m : jM} {x y : Int32} (hd : decode M.2.1 pc = .ok (.iadd, 1)) (k : jE B M (pc + 1) L (.int (x + y) :: S) m) : jE B M pc L (.int y :: .int x :: S) m := by
  intro p l e G A s mth args below meth c C X H locs ls hl hP hS
  exact lv_iadd C.1 C.2.1 hd (k p l e G A s mth args below meth c C X H locs ls hl hP hS)
theorem e_isub {B : jMode} {M : jMeth} {pc : Nat} {L : List (Option Value)} {S : List Value} {m : jM} {x y : Int32} (hd : decode M.2.1 pc = .ok (.isub, 1)) (k : jE B M (pc + 1) L (.int (x - y) :: S) m) : jE B M pc L (.int y :: .int x :: S) m := by
  intro p l e G A s mth args below meth c C X H locs ls hl hP hS
  exact lv_isub C.1 C.2.1 hd (k p l e G A s mth args below meth c C X H locs ls hl hP hS)
theorem e_imul {B : jMode} {M : jMeth} {pc : Nat} {L : List (Option Value)} {S : List Value} {m : jM} {x y : Int32} (hd : decode M.2.1 pc = .ok (.imul, 1)) (k : jE B M (pc + 1) L (.int (x * y) :: S) m) : jE B M pc L (.int y :: .int x :: S) m := by
  intro p l e G A s mth args below meth c C X H locs ls hl hP hS
  exact lv_imul C.1 C.2.1 hd (k p l e G A s mth args below meth c C X H locs ls hl hP hS)
theorem e_iand {B : jMode} {M : jMeth} {pc : Nat} {L : List (Option Value)} {S : List Value} {m : jM} {x y : Int32} (hd : decode M.2.1 pc = .ok (.iand, 1)) (k : jE B M (pc + 1) L (.int (x &&& y) :: S) m) : jE B M pc L (.int y :: .int x :: S) m := by
  intro p l e G A s mth args below meth c C X H locs ls hl hP hS
  exact lv_iand C.1 C.2.1 hd (k p l e G A s mth args below meth c C X H locs ls hl hP hS)
theorem e_ior {B : jMode} {M : jMeth} {pc : Nat} {L : List (Option Value)} {S : List Value} {m : jM} {x y : Int32} (hd : decode M.2.1 pc = .ok (.ior, 1)) (k : jE B M (pc + 1) L (.int (x ||| y) :: S) m) : jE B M pc L (.int y :: .int x :: S) m := by
  intro p l e G A s mth args below meth c C X H locs ls hl hP hS
  exact lv_ior C.1 C.2.1 hd (k p l e G A s mth args below meth c C X H locs ls hl hP hS)
theorem e_ixor {B : jMode} {M : jMeth} {pc : Nat} {L : List (Option Value)} {S : List Value} {m : jM} {x y : Int32} (hd : decode M.2.1 pc = .ok (.ixor, 1)) (k : jE B M (pc + 1) L (.int (x ^^^ y) :: S) m) : jE B M pc L (.int y :: .int x :: S) m := by
  intro p l e G A s mth args below meth c C X H locs ls hl hP hS
  exact lv_ixor C.1 C.2.1 hd (k p l e G A s mth args below meth c C X H locs ls hl hP hS)
theorem e_ishl {B : jMode} {M : jMeth} {pc : Nat} {L : List (Option Value)} {S : List Value} {m : jM} {x y : Int32} (hd : decode M.2.1 pc = .ok (.ishl, 1)) (k : jE B M (pc + 1) L (.int (x <<< (y &&& 31)) :: S) m) : jE B M pc L (.int y :: .int x :: S) m := by
  intro p l e G A s mth args below meth c C X H locs ls hl hP hS
  exact lv_ishl C.1 C.2.1 hd (k p l e G A s mth args below meth c C X H locs ls hl hP hS)
theorem e_ishr {B : jMode} {M : jMeth} {pc : Nat} {L : List (Option Value)} {S : List Value} {m : jM} {x y : Int32} (hd : decode M.2.1 pc = .ok (.ishr, 1)) (k : jE B M (pc + 1) L (.int (x >>> (y &&& 31)) :: S) m) : jE B M pc L (.int y :: .int x :: S) m := by
  intro p l e G A s mth args below meth c C X H locs ls hl hP hS
  exact lv_ishr C.1 C.2.1 hd (k p l e G A s mth args below meth c C X H locs ls hl hP hS)
theorem e_iushr {B : jMode} {M : jMeth} {pc : Nat} {L : List (Option Value)} {S : List Value} {m : jM} {x y : Int32} (hd : decode M.2.1 pc = .ok (.iushr, 1)) (k : jE B M (pc + 1) L (.int ((x.toUInt32 >>> (y.toUInt32 &&& Int32.toUInt32 31)).toInt32) :: S) m) : jE B M pc L (.int y :: .int x :: S) m := by
  intro p l e G A s mth args below meth c C X H locs ls hl hP hS
  exact lv_iushr C.1 C.2.1 hd rfl (k p l e G A s mth args below meth c C X H locs ls hl hP hS)
theorem e_ineg {B : jMode} {M : jMeth} {pc : Nat} {L : List (Option Value)} {S : List Value} {m : jM} {x : Int32} (hd : decode M.2.1 pc = .ok (.ineg, 1)) (k : jE B M (pc + 1) L (.int (-x) :: S) m) : jE B M pc L (.int x :: S) m := by
  intro p l e G A s mth args below meth c C X H locs ls hl hP hS
  exact lv_ineg C.1 C.2.1 hd (k p l e G A s mth args below meth c C X H locs ls hl hP hS)
theorem e_idiv {B : jMode} {M : jMeth} {pc : Nat} {L : List (Option Value)} {S : List Value} {m : jM} {x y : Int32} (hd : decode M.2.1 pc = .ok (.idiv, 1)) (hne : ¬ y = 0) (k : jE B M (pc + 1) L (.int (x / y) :: S) m) : jE B M pc L (.int y :: .int x :: S) m := by
  intro p l e G A s mth args below meth c C X H locs ls hl hP hS
  exact lv_idiv C.1 C.2.1 hd hne (k p l e G A s mth args below meth c C X H locs ls hl hP hS)
theorem e_irem {B : jMode} {M : jMeth} {pc : Nat} {L : List (Option Value)} {S : List Value} {m : jM} {x y : Int32} (hd : decode M.2.1 pc = .ok (.irem, 1)) (hne : ¬ y = 0) (k : jE B M (pc + 1) L (.int (x - x / y * y) :: S) m) : jE B M pc L (.int y :: .int x :: S) m := by
  intro p l e G A s mth args below meth c C X H locs ls hl hP hS
  exact lv_irem C.1 C.2.1 hd hne (k p l e G A s mth args below meth c C X H locs ls hl hP hS)
theorem e_i2l {B : jMode} {M : jMeth} {pc : Nat} {L : List (Option Value)} {S : List Value} {m : jM} {x : Int32} (hd : decode M.2.1 pc = .ok (.i2l, 1)) (k : jE B M (pc + 1) L (.long x.toInt64 :: S) m) : jE B M pc L (.int x :: S) m := by
  intro p l e G A s mth args below meth c C X H locs ls hl hP hS
  exact lv_i2l C.1 C.2.1 hd rfl (k p l e G A s mth args below meth c C X H locs ls hl hP hS)
theorem e_i2b {B : jMode} {M : jMeth} {pc : Nat} {L : List (Option Value)} {S : List Value} {m : jM} {x : Int32} (hd : decode M.2.1 pc = .ok (.i2b, 1)) (k : jE B M (pc + 1) L (.int x.toInt8.toInt32 :: S) m) : jE B M pc L (.int x :: S) m := by
  intro p l e G A s mth args below meth c C X H locs ls hl hP hS
  exact lv_i2b C.1 C.2.1 hd rfl (k p l e G A s mth args below meth c C X H locs ls hl hP hS)
theorem e_i2s {B : jMode} {M : jMeth} {pc : Nat} {L : List (Option Value)} {S : List Value} {m : jM} {x : Int32} (hd : decode M.2.1 pc = .ok (.i2s, 1)) (k : jE B M (pc + 1) L (.int x.toInt16.toInt32 :: S) m) : jE B M pc L (.int x :: S) m := by
  intro p l e G A s mth args below meth c C X H locs ls hl hP hS
  exact lv_i2s C.1 C.2.1 hd rfl (k p l e G A s mth args below meth c C X H locs ls hl hP hS)
theorem e_lsub {B : jMode} {M : jMeth} {pc : Nat} {L : List (Option Value)} {S : List Value} {m : jM} {x y : Int64} (hd : decode M.2.1 pc = .ok (.lsub, 1)) (k : jE B M (pc + 1) L (.long (x - y) :: S) m) : jE B M pc L (.long y :: .long x :: S) m := by
  intro p l e G A s mth args below meth c C X H locs ls hl hP hS
  exact lv_lsub C.1 C.2.1 hd (k p l e G A s mth args below meth c C X H locs ls hl hP hS)
theorem e_lcmp {B : jMode} {M : jMeth} {pc : Nat} {L : List (Option Value)} {S : List Value} {m : jM} {x y : Int64} (hd : decode M.2.1 pc = .ok (.lcmp, 1)) (k : jE B M (pc + 1) L (.int (lg_cmp x y) :: S) m) : jE B M pc L (.long y :: .long x :: S) m := by
  intro p l e G A s mth args below meth c C X H locs ls hl hP hS
  exact W.lcmp C.1 C.2.1 hd (k p l e G A s mth args below meth c C X H locs ls hl hP hS)
theorem e_dup {B : jMode} {M : jMeth} {pc : Nat} {L : List (Option Value)} {S : List Value} {m : jM} {v : Value} (hd : decode M.2.1 pc = .ok (.dup, 1)) (hv : v.category = 1) (k : jE B M (pc + 1) L (v :: v :: S) m) : jE B M pc L (v :: S) m := by
  intro p l e G A s mth args below meth c C X H locs ls hl hP hS
  exact lv_dup C.1 C.2.1 hd (by rw [jtr_cat]; exact hv) (k p l e G A s mth args below meth c C X H locs ls hl hP hS)
theorem e_dup2 {B : jMode} {M : jMeth} {pc : Nat} {L : List (Option Value)} {S : List Value} {m : jM} {u v : Value} (hd : decode M.2.1 pc = .ok (.dup2, 1)) (hu : u.category = 1) (hv : v.category = 1) (k : jE B M (pc + 1) L (u :: v :: u :: v :: S) m) : jE B M pc L (u :: v :: S) m := by
  intro p l e G A s mth args below meth c C X H locs ls hl hP hS
  exact lv_dup2_11 C.1 C.2.1 hd (by rw [jtr_cat]; exact hu) (by rw [jtr_cat]; exact hv) (k p l e G A s mth args below meth c C X H locs ls hl hP hS)
theorem e_if_eq {B : jMode} {M : jMeth} {pc : Nat} {L : List (Option Value)} {S : List Value} {m : jM} {x : Int32} {off : Int} (tgt : Nat) (hd : decode M.2.1 pc = .ok (.ifCond .eq off, 3)) (ht : (pc : Int) + off = (tgt : Int)) (kt : x = 0 → jE B M tgt L S m) (kf : ¬ x = 0 → jE B M (pc + 3) L S m) : jE B M pc L (.int x :: S) m := by
  intro p l e G A s mth args below meth c C X H locs ls hl hP hS
  exact lv_if_eq C.1 C.2.1 hd ht (fun h => kt h p l e G A s mth args below meth c C X H locs ls hl hP hS) (fun h => kf h p l e G A s mth args below meth c C X H locs ls hl hP hS)
theorem e_icmp_eq {B : jMode} {M : jMeth} {pc : Nat} {L : List (Option Value)} {S : List Value} {m : jM} {x y : Int32} {off : Int} (tgt : Nat) (hd : decode M.2.1 pc = .ok (.if_icmp .eq off, 3)) (ht : (pc : Int) + off = (tgt : Int)) (kt : x = y → jE B M tgt L S m) (kf : ¬ x = y → jE B M (pc + 3) L S m) : jE B M pc L (.int y :: .int x :: S) m := by
  intro p l e G A s mth args below meth c C X H locs ls hl hP hS
  exact lv_icmp_eq C.1 C.2.1 hd ht (fun h => kt h p l e G A s mth args below meth c C X H locs ls hl hP hS) (fun h => kf h p l e G A s mth args below meth c C X H locs ls hl hP hS)
theorem e_if_ne {B : jMode} {M : jMeth} {pc : Nat} {L : List (Option Value)} {S : List Value} {m : jM} {x : Int32} {off : Int} (tgt : Nat) (hd : decode M.2.1 pc = .ok (.ifCond .ne off, 3)) (ht : (pc : Int) + off = (tgt : Int)) (kt : ¬ x = 0 → jE B M tgt L S m) (kf : x = 0 → jE B M (pc + 3) L S m) : jE B M pc L (.int x :: S) m := by
  intro p l e G A s mth args below meth c C X H locs ls hl hP hS
  exact lv_if_ne C.1 C.2.1 hd ht (fun h => kt h p l e G A s mth args below meth c C X H locs ls hl hP hS) (fun h => kf h p l e G A s mth args below meth c C X H locs ls hl hP hS)
theorem e_icmp_ne {B : jMode} {M : jMeth} {pc : Nat} {L : List (Option Value)} {S : List Value} {m : jM} {x y : Int32} {off : Int} (tgt : Nat) (hd : decode M.2.1 pc = .ok (.if_icmp .ne off, 3)) (ht : (pc : Int) + off = (tgt : Int)) (kt : ¬ x = y → jE B M tgt L S m) (kf : x = y → jE B M (pc + 3) L S m) : jE B M pc L (.int y :: .int x :: S) m := by
  intro p l e G A s mth args below meth c C X H locs ls hl hP hS
  exact lv_icmp_ne C.1 C.2.1 hd ht (fun h => kt h p l e G A s mth args below meth c C X H locs ls hl hP hS) (fun h => kf h p l e G A s mth args below meth c C X H locs ls hl hP hS)
theorem e_if_lt {B : jMode} {M : jMeth} {pc : Nat} {L : List (Option Value)} {S : List Value} {m : jM} {x : Int32} {off : Int} (tgt : Nat) (hd : decode M.2.1 pc = .ok (.ifCond .lt off, 3)) (ht : (pc : Int) + off = (tgt : Int)) (kt : x < 0 → jE B M tgt L S m) (kf : ¬ x < 0 → jE B M (pc + 3) L S m) : jE B M pc L (.int x :: S) m := by
  intro p l e G A s mth args below meth c C X H locs ls hl hP hS
  exact lv_if_lt C.1 C.2.1 hd ht (fun h => kt h p l e G A s mth args below meth c C X H locs ls hl hP hS) (fun h => kf h p l e G A s mth args below meth c C X H locs ls hl hP hS)
theorem e_icmp_lt {B : jMode} {M : jMeth} {pc : Nat} {L : List (Option Value)} {S : List Value} {m : jM} {x y : Int32} {off : Int} (tgt : Nat) (hd : decode M.2.1 pc = .ok (.if_icmp .lt off, 3)) (ht : (pc : Int) + off = (tgt : Int)) (kt : x < y → jE B M tgt L S m) (kf : ¬ x < y → jE B M (pc + 3) L S m) : jE B M pc L (.int y :: .int x :: S) m := by
  intro p l e G A s mth args below meth c C X H locs ls hl hP hS
  exact lv_icmp_lt C.1 C.2.1 hd ht (fun h => kt h p l e G A s mth args below meth c C X H locs ls hl hP hS) (fun h => kf h p l e G A s mth args below meth c C X H locs ls hl hP hS)
theorem e_if_ge {B : jMode} {M : jMeth} {pc : Nat} {L : List (Option Value)} {S : List Value} {m : jM} {x : Int32} {off : Int} (tgt : Nat) (hd : decode M.2.1 pc = .ok (.ifCond .ge off, 3)) (ht : (pc : Int) + off = (tgt : Int)) (kt : 0 ≤ x → jE B M tgt L S m) (kf : ¬ 0 ≤ x → jE B M (pc + 3) L S m) : jE B M pc L (.int x :: S) m := by
  intro p l e G A s mth args below meth c C X H locs ls hl hP hS
  exact lv_if_ge C.1 C.2.1 hd ht (fun h => kt h p l e G A s mth args below meth c C X H locs ls hl hP hS) (fun h => kf h p l e G A s mth args below meth c C X H locs ls hl hP hS)
theorem e_icmp_ge {B : jMode} {M : jMeth} {pc : Nat} {L : List (Option Value)} {S : List Value} {m : jM} {x y : Int32} {off : Int} (tgt : Nat) (hd : decode M.2.1 pc = .ok (.if_icmp .ge off, 3)) (ht : (pc : Int) + off = (tgt : Int)) (kt : y ≤ x → jE B M tgt L S m) (kf : ¬ y ≤ x → jE B M (pc + 3) L S m) : jE B M pc L (.int y :: .int x :: S) m := by
  intro p l e G A s mth args below meth c C X H locs ls hl hP hS
  exact lv_icmp_ge C.1 C.2.1 hd ht (fun h => kt h p l e G A s mth args below meth c C X H locs ls hl hP hS) (fun h => kf h p l e G A s mth args below meth c C X H locs ls hl hP hS)
theorem e_if_gt {B : jMode} {M : jMeth} {pc : Nat} {L : List (Option Value)} {S : List Value} {m : jM} {x : Int32} {off : Int} (tgt : Nat) (hd : decode M.2.1 pc = .ok (.ifCond .gt off, 3)) (ht : (pc : Int) + off = (tgt : Int)) (kt : 0 < x → jE B M tgt L S m) (kf : ¬ 0 < x → jE B M (pc + 3) L S m) : jE B M pc L (.int x :: S) m := by
  intro p l e G A s mth args below meth c C X H locs ls hl hP hS
  exact lv_if_gt C.1 C.2.1 hd ht (fun h => kt h p l e G A s mth args below meth c C X H locs ls hl hP hS) (fun h => kf h p l e G A s mth args below meth c C X H locs ls hl hP hS)
theorem e_icmp_gt {B : jMode} {M : jMeth} {pc : Nat} {L : List (Option Value)} {S : List Value} {m : jM} {x y : Int32} {off : Int} (tgt : Nat) (hd : decode M.2.1 pc = .ok (.if_icmp .gt off, 3)) (ht : (pc : Int) + off = (tgt : Int)) (kt : y < x → jE B M tgt L S m) (kf : ¬ y < x → jE B M (pc + 3) L S m) : jE B M pc L (.int y :: .int x :: S) m := by
  intro p l e G A s mth args below meth c C X H locs ls hl hP hS
  exact lv_icmp_gt C.1 C.2.1 hd ht (fun h => kt h p l e G A s mth args below meth c C X H locs ls hl hP hS) (fun h => kf h p l e G A s mth args below meth c C X H locs ls hl hP hS)
theorem e_if_le {B : jMode} {M : jMeth} {pc : Nat} {L : List (Option Value)} {S : List Value} {m : jM} {x : Int32} {off : Int} (tgt : Nat) (hd : decode M.2.1 pc = .ok (.ifCond .le off, 3)) (ht : (pc : Int) + off = (tgt : Int)) (kt : x ≤ 0 → jE B M tgt L S m) (kf : ¬ x ≤ 0 → jE B M (pc + 3) L S m) : jE B M pc L (.int x :: S) m := by
  intro p l e G A s mth args below meth c C X H locs ls hl hP hS
  exact lv_if_le C.1 C.2.1 hd ht (fun h => kt h p l e G A s mth args below meth c C X H locs ls hl hP hS) (fun h => kf h p l e G A s mth args below meth c C X H locs ls hl hP hS)
theorem e_icmp_le {B : jMode} {M : jMeth} {pc : Nat} {L : List (Option Value)} {S : List Value} {m : jM} {x y : Int32} {off : Int} (tgt : Nat) (hd : decode M.2.1 pc = .ok (.if_icmp .le off, 3)) (ht : (pc : Int) + off = (tgt : Int)) (kt : x ≤ y → jE B M tgt L S m) (kf : ¬ x ≤ y → jE B M (pc + 3) L S m) : jE B M pc L (.int y :: .int x :: S) m := by
  intro p l e G A s mth args below meth c C X H locs ls hl hP hS
  exact lv_icmp_le C.1 C.2.1 hd ht (fun h => kt h p l e G A s mth args below meth c C X H locs ls hl hP hS) (fun h => kf h p l e G A s mth args below meth c C X H locs ls hl hP hS)
theorem e_goto {B : jMode} {M : jMeth} {pc : Nat} {L : List (Option Value)} {S : List Value} {m : jM} {off : Int} (tgt : Nat) (hd : decode M.2.1 pc = .ok (.goto off, 3)) (ht : (pc : Int) + off = (tgt : Int)) (k : jE B M tgt L S m) : jE B M pc L S m := by
  intro p l e G A s mth args below meth c C X H locs ls hl hP hS
  exact lv_goto C.1 C.2.1 hd ht (k p l e G A s mth args below meth c C X H locs ls hl hP hS)
theorem e_tsOut {B : jMode} {M : jMeth} {pc : Nat} {L : List (Option Value)} {S : List Value} {m : jM} {dflt lo hi : Int} {offs : Array Int} {len : Nat} {x : Int32} (tgt : Nat) (hd : decode M.2.1 pc = .ok (.tableswitch dflt lo hi offs, len)) (h : x.toInt < lo ∨ hi < x.toInt) (ht : (pc : Int) + dflt = (tgt : Int)) (k : jE B M tgt L S m) : jE B M pc L (.int x :: S) m := by
  intro p l e G A s mth args below meth c C X H locs ls hl hP hS
  exact lv_tableOut C.1 C.2.1 hd h ht (k p l e G A s mth args below meth c C X H locs ls hl hP hS)
theorem e_tsIn {B : jMode} {M : jMeth} {pc : Nat} {L : List (Option Value)} {S : List Value} {m : jM} {dflt lo hi : Int} {offs : Array Int} {len : Nat} {x : Int32} {off : Int} (tgt : Nat) (hd : decode M.2.1 pc = .ok (.tableswitch dflt lo hi offs, len)) (h1 : ¬ x.toInt < lo) (h2 : ¬ hi < x.toInt) (ho : offs[(x.toInt - lo).toNat]? = some off) (ht : (pc : Int) + off = (tgt : Int)) (k : jE B M tgt L S m) : jE B M pc L (.int x :: S) m := by
  intro p l e G A s mth args below meth c C X H locs ls hl hP hS
  exact lv_tableIn C.1 C.2.1 hd h1 h2 ho ht (k p l e G A s mth args below meth c C X H locs ls hl hP hS)
theorem e_iret {M : jMeth} {pc : Nat} {L : List (Option Value)} {m : jM} {v : Int32} {Q : Int32 → jM → Prop} (hd : decode M.2.1 pc = .ok (.ireturn, 1)) (hr : M.2.2.2.1 = some .int) (hq : Q v m) : jE (jmd M (iP Q)) M pc L [.int v] m := by
  intro p l e G A s mth args below meth c C X H locs ls hl hP hS
  have X : A = jA G := X
  subst X
  exact W.iret C.1 C.2.1 (C.2.2.2.1.trans hr) (fun t ht hW => ⟨⟨some (.int v), m, ⟨v, rfl, hq⟩, rfl, by rw [ht]; exact hP⟩, hS.F ht⟩) hS.2.2 hd C.2.2.2.2.1
theorem e_zret {M : jMeth} {pc : Nat} {L : List (Option Value)} {m : jM} {v : Int32} {Q : Int32 → jM → Prop} (hd : decode M.2.1 pc = .ok (.ireturn, 1)) (hr : M.2.2.2.1 = some .boolean) (h01 : v = 0 ∨ v = 1) (hq : Q v m) : jE (jmd M (iP Q)) M pc L [.int v] m := by
  intro p l e G A s mth args below meth c C X H locs ls hl hP hS
  have X : A = jA G := X
  subst X
  exact W.zret C.1 C.2.1 (C.2.2.2.1.trans hr) (by rcases h01 with rfl | rfl <;> rfl) (fun t ht hW => ⟨⟨some (.int v), m, ⟨v, rfl, hq⟩, rfl, by rw [ht]; exact hP⟩, hS.F ht⟩) hS.2.2 hd C.2.2.2.2.1
theorem e_vret {M : jMeth} {pc : Nat} {L : List (Option Value)} {m : jM} {Q : jM → Prop} (hd : decode M.2.1 pc = .ok (.return_, 1)) (hr : M.2.2.2.1 = none) (hq : Q m) : jE (jmd M (vP Q)) M pc L [] m := by
  intro p l e G A s mth args below meth c C X H locs ls hl hP hS
  have X : A = jA G := X
  subst X
  exact W.vret C.1 C.2.1 (C.2.2.2.1.trans hr) (fun t ht hW => ⟨⟨none, m, ⟨rfl, hq⟩, rfl, by rw [ht]; exact hP⟩, hS.F ht⟩) hS.2.2 hd C.2.2.2.2.1
theorem jent_arr {G : jG} {m : jM} {c k n : Nat} (h : jlay c = (k, n)) (hk : k < 2) : jent G m c = .inl (G.2.1 k, n, .inl (m c)) := by
  unfold jent
  rw [h]
  rw [if_neg (by show ¬ k = 5; omega), if_pos (show k < 2 from hk)]
theorem jent_refs {G : jG} {m : jM} {c k n : Nat} (h : jlay c = (k, n)) (hk : 2 ≤ k) (hk2 : k < 5) : jent G m c = .inl (G.2.1 k, n, .inr (.inr (.inr (.inr (fun j => some (G.2.2 (jtg c j))))))) := by
  unfold jent
  rw [h]
  rw [if_neg (by show ¬ k = 5; omega), if_neg (show ¬ k < 2 by omega)]
theorem jent_obj {G : jG} {m : jM} {c ci : Nat} (h : jlay c = (5, ci)) : jent G m c = .inr (ci, (List.range (jN ci)).map (jfv G m c ci)) := by
  unfold jent
  rw [h]
  rw [if_pos (show (5 : Nat) = 5 from rfl)]
/-- a field link of the tables: in the class 'own', at the place idx of its pool, the field k of the class ci -/
def jFL (own : String) (idx ci k : Nat) : Prop := ∃ (C : String) (T : u_T) (N : Nat), jCl[ci]? = some (C, T, N) ∧ jN ci = N ∧ k < N ∧ (T k).1 = C ∧ Cond.fieldLink own idx C (T k).2.1 (T k).2.2.1 ∈ wsL_law
theorem jin {ci : Nat} {C : String} {T : u_T} {N : Nat} (h : jCl[ci]? = some (C, T, N)) : ∀ w ∈ u_ws C T N, w ∈ wsL_law := by
  match ci, h with
  | 0, h => cases h; exact inlX0
  | 1, h => cases h; exact inlX1
  | 2, h => cases h; exact inlX2
  | 3, h => cases h; exact inlX3
  | 4, h => cases h; exact inlX4
  | n + 5, h => simp [jCl] at h
theorem e_getI {B : jMode} {M : jMeth} {pc : Nat} {L : List (Option Value)} {S : List Value} {m : jM} {index a ci f : Nat} (hd : decode M.2.1 pc = .ok (.getfield index, 3)) (hf : jFL M.2.2.2.2.1 index ci f) (ha : jlay a = (5, ci)) (hi : jfo ci f = 0) (k : jE B M (pc + 3) L (.int (m a f) :: S) m) : jE B M pc L (.ref a :: S) m := by
  intro p l e G A s mth args below meth c C X H locs ls hl hP hS
  obtain ⟨Cn, T, N, h1, h1b, h2, h3, h4⟩ := hf
  refine va_get (own := M.2.2.2.2.1) (ref := Cn) (v := .int (m a f)) C.1 C.2.1 C.2.2.2.2.2.2.1 (jin h1) C.2.2.2.2.2.1 C.2.2.2.2.2.2.2.1 hP a ((jw_get G m (jlay_lt ha (by omega))).trans (by rw [jent_obj ha])) h1 f h2 (C.2.2.2.2.2.2.1 _ h4) (fun x h => by rw [h3] at h; exact h) ?_ hd (k p l e G A s mth args below meth c C X H locs ls hl hP hS)
  rw [List.getElem?_map, List.getElem?_range (by omega), Option.map_some]
  unfold jfv
  rw [if_pos hi]
theorem e_getR {B : jMode} {M : jMeth} {pc : Nat} {L : List (Option Value)} {S : List Value} {m : jM} {index a ci f o : Nat} (hd : decode M.2.1 pc = .ok (.getfield index, 3)) (hf : jFL M.2.2.2.2.1 index ci f) (ha : jlay a = (5, ci)) (hi : jfo ci f = o) (ho : o ≠ 0) {b : Nat} (hb : a + o = b) (k : jE B M (pc + 3) L (.ref b :: S) m) : jE B M pc L (.ref a :: S) m := by
  intro p l e G A s mth args below meth c C X H locs ls hl hP hS
  obtain ⟨Cn, T, N, h1, h1b, h2, h3, h4⟩ := hf
  subst hb
  refine va_get (own := M.2.2.2.2.1) (ref := Cn) (v := .ref (G.2.2 (a + o))) C.1 C.2.1 C.2.2.2.2.2.2.1 (jin h1) C.2.2.2.2.2.1 C.2.2.2.2.2.2.2.1 hP a ((jw_get G m (jlay_lt ha (by omega))).trans (by rw [jent_obj ha])) h1 f h2 (C.2.2.2.2.2.2.1 _ h4) (fun x h => by rw [h3] at h; exact h) ?_ hd (k p l e G A s mth args below meth c C X H locs ls hl hP hS)
  rw [List.getElem?_map, List.getElem?_range (by omega), Option.map_some]
  unfold jfv
  rw [hi, if_neg ho]
def jty (ci : Nat) : Nat → FieldType := match ci with
  | 0 => tyX0
  | 1 => tyX1
  | 2 => tyX2
  | 3 => tyX3
  | _ => tyX4
theorem jty_ok {ci : Nat} {C : String} {T : u_T} {N : Nat} (h : jCl[ci]? = some (C, T, N)) : (∀ k, k < N → parseFieldDescriptor (T k).2.2.1 = some (jty ci k)) ∧ ∀ a, a < N → ∀ b, b < N → a ≠ b → (T a).2.1 ≠ (T b).2.1 := by
  match ci, h with
  | 0, h => cases h; exact ⟨tyX0_ok, nmX0⟩
  | 1, h => cases h; exact ⟨tyX1_ok, nmX1⟩
  | 2, h => cases h; exact ⟨tyX2_ok, nmX2⟩
  | 3, h => cases h; exact ⟨tyX3_ok, nmX3⟩
  | 4, h => cases h; exact ⟨tyX4_ok, nmX4⟩
  | n + 5, h => simp [jCl] at h
/-- a number's field is written: not final, an int or a boolean -/
def jFW (ci k : Nat) : Prop := ∀ (C : String) (T : u_T) (N : Nat), jCl[ci]? = some (C, T, N) → (T k).2.2.2 = false
theorem jfv_set {G : jG} {m : jM} {a ci f : Nat} {x : Int32} (hi : jfo ci f = 0) (hf : f < jN ci) : ((List.range (jN ci)).map (jfv G m a ci)).set f (.int x) = (List.range (jN ci)).map (jfv G (jup m a (upd (m a) f x)) a ci) := by
  apply List.ext_getElem?
  intro i
  by_cases h : i < jN ci
  · rw [List.getElem?_map, List.getElem?_range h, Option.map_some]
    by_cases e : i = f
    · subst e
      rw [List.getElem?_set_self (by simpa using h)]
      unfold jfv
      rw [if_pos hi, jup_s]
      simp [upd]
    · rw [List.getElem?_set_ne (Ne.symm e), List.getElem?_map, List.getElem?_range h, Option.map_some]
      unfold jfv
      rw [jup_s]
      simp [upd, e]
  · rw [List.getElem?_eq_none (by simpa using h), List.getElem?_eq_none (by simpa using h)]
theorem e_putI {B : jMode} {M : jMeth} {pc : Nat} {L : List (Option Value)} {S : List Value} {m : jM} {index a ci f : Nat} {x : Int32} (hd : decode M.2.1 pc = .ok (.putfield index, 3)) (hf : jFL M.2.2.2.2.1 index ci f) (ha : jlay a = (5, ci)) (hi : jfo ci f = 0) (hw : jFW ci f) (ht : jty ci f = .int ∨ (jty ci f = .boolean ∧ (x = 0 ∨ x = 1))) (k : ∀ m1 : jM, m1 = jup m a (upd (m a) f x) → jE B M (pc + 3) L S m1) : jE B M pc L (.int x :: .ref a :: S) m := by
  intro p l e G A s mth args below meth c C X H locs ls hl hP hS
  obtain ⟨Cn, T, N, h1, h1b, h2, h3, h4⟩ := hf
  obtain ⟨g1, g2⟩ := jty_ok h1
  have hn : narrow (jty ci f) (.int x) = .int x ∧ fits (jty ci f) (.int x) = true := by
    rcases ht with h | ⟨h, h0⟩
    · rw [h]; exact ⟨rfl, rfl⟩
    · rw [h]
      rcases h0 with rfl | rfl <;> exact ⟨rfl, rfl⟩
  refine va_put (own := M.2.2.2.2.1) (ref := Cn) (v := .int x) (ty := jty ci f) C.1 C.2.1 C.2.2.2.2.2.2.1 (jin h1) (jty ci) g1 g2 C.2.2.2.2.2.1 C.2.2.2.2.2.2.2.1 hP (jw_D C.2.2.2.2.2.2.2.2.2.1 C.2.2.2.2.2.2.2.2.2.2) hS a ((jw_get G m (jlay_lt ha (by omega))).trans (by rw [jent_obj ha])) h1 f h2 (C.2.2.2.2.2.2.1 _ h4) (fun x h => by rw [h3] at h; exact h) (hw _ _ _ h1) (g1 f h2) hn.1 hn.2 (by simpa [h1b] using h2) hd (fun H1 locs1 hP1 hD1 hS1 => ?_)
  refine k _ rfl p l e G A s mth args below meth c C X H1 locs1 ls hl ?_ hS1
  have e2 : (jw G m).set a (G.2.2 a, .inr (ci, ((List.range (jN ci)).map (jfv G m a ci)).set f (.int x))) = jw G (jup m a (upd (m a) f x)) := jw_set (by rw [jent_obj ha, jfv_set hi (by omega)])
  rw [← e2]
  exact hP1
theorem e_iald {B : jMode} {M : jMeth} {pc : Nat} {L : List (Option Value)} {S : List Value} {m : jM} {a n : Nat} {i : Int32} (hd : decode M.2.1 pc = .ok (.iaload, 1)) (ha : jlay a = (0, n)) (j : Nat) (hi : i = nI j) (hj : j < n) (hn : n < 2 ^ 31) (k : jE B M (pc + 1) L (.int (m a j) :: S) m) : jE B M pc L (.int i :: .ref a :: S) m := by
  intro p l e G A s mth args below meth c C X H locs ls hl hP hS
  subst hi
  refine va_iald C.1 C.2.1 C.2.2.2.2.2.2.2.1 hP a 0 ((jw_get G m (jlay_lt ha (by omega))).trans (by rw [jent_arr ha (by omega)])) rfl (vp_in_nI hj hn) hd ?_
  rw [nI_clamp (by omega)]
  exact k p l e G A s mth args below meth c C X H locs ls hl hP hS
theorem e_zald {B : jMode} {M : jMeth} {pc : Nat} {L : List (Option Value)} {S : List Value} {m : jM} {a n : Nat} {i : Int32} (hd : decode M.2.1 pc = .ok (.baload, 1)) (ha : jlay a = (1, n)) (j : Nat) (hi : i = nI j) (hj : j < n) (hn : n < 2 ^ 31) (k : jE B M (pc + 1) L (.int (m a j) :: S) m) : jE B M pc L (.int i :: .ref a :: S) m := by
  intro p l e G A s mth args below meth c C X H locs ls hl hP hS
  subst hi
  refine va_zald C.1 C.2.1 C.2.2.2.2.2.2.2.1 hP a 1 ((jw_get G m (jlay_lt ha (by omega))).trans (by rw [jent_arr ha (by omega)])) rfl (vp_in_nI hj hn) hd ?_
  rw [nI_clamp (by omega)]
  exact k p l e G A s mth args below meth c C X H locs ls hl hP hS
theorem e_aald {B : jMode} {M : jMeth} {pc : Nat} {L : List (Option Value)} {S : List Value} {m : jM} {a kd n : Nat} {i : Int32} (hd : decode M.2.1 pc = .ok (.aaload, 1)) (ha : jlay a = (kd, n)) (hk : 2 ≤ kd ∧ kd < 5) (j : Nat) (hi : i = nI j) (hj : j < n) (hn : n < 2 ^ 31) {b : Nat} (hb : jtg a j = b) (k : jE B M (pc + 1) L (.ref b :: S) m) : jE B M pc L (.int i :: .ref a :: S) m := by
  intro p l e G A s mth args below meth c C X H locs ls hl hP hS
  subst hi
  subst hb
  have hin : vp_in (nI j) n := vp_in_nI hj hn
  have hcl : (nI j).toNatClampNeg = j := nI_clamp (by omega)
  have hc : H[G.2.2 a]? = some (vp_cell (G.2.1 kd) (n, .inr (.inr (.inr (.inr (fun j => some (G.2.2 (jtg a j)))))))) := by
    have := hP a _ ((jw_get G m (jlay_lt ha (by omega))).trans (by rw [jent_refs ha hk.1 hk.2]))
    exact this
  obtain ⟨ty, t0, ht, hr⟩ : ∃ (ty : FieldType) (t0 : Nat), (jtys G)[t0]? = some (G.2.1 kd, ty) ∧ ty.isReference = true := by
    have : kd = 2 ∨ kd = 3 ∨ kd = 4 := by omega
    rcases this with rfl | rfl | rfl
    · exact ⟨_, 2, rfl, rfl⟩
    · exact ⟨_, 3, rfl, rfl⟩
    · exact ⟨_, 4, rfl, rfl⟩
  refine W.aald (v := .ref (G.2.2 (jtg a j))) (ty := ty) C.1 C.2.1 hc ((C.2.2.2.2.2.2.2.1.2 t0 _ ht).1 n (fun j => va_rf (some (G.2.2 (jtg a j))))) hr (fun q => by cases q) (by show ¬ (nI j < 0 ∨ (arrV _ _ _).slots.size ≤ _); rw [arrV_size]; exact hin) (by show (arrV _ _ _).slots[_]? = _; rw [arrV_read _ _ (by rw [hcl]; exact hj), hcl]; rfl) rfl rfl hd (k p l e G A s mth args below meth c C X H locs ls hl hP hS)
theorem e_iast {B : jMode} {M : jMeth} {pc : Nat} {L : List (Option Value)} {S : List Value} {m : jM} {a n : Nat} {i x : Int32} (hd : decode M.2.1 pc = .ok (.iastore, 1)) (ha : jlay a = (0, n)) (j : Nat) (hi : i = nI j) (hj : j < n) (hn : n < 2 ^ 31) (k : ∀ m1 : jM, m1 = jup m a (upd (m a) j x) → jE B M (pc + 1) L S m1) : jE B M pc L (.int x :: .int i :: .ref a :: S) m := by
  intro p l e G A s mth args below meth c C X H locs ls hl hP hS
  subst hi
  refine va_iast C.1 C.2.1 C.2.2.2.2.2.2.2.1 hP (jw_D C.2.2.2.2.2.2.2.2.2.1 C.2.2.2.2.2.2.2.2.2.2) hS a 0 ((jw_get G m (jlay_lt ha (by omega))).trans (by rw [jent_arr ha (by omega)])) rfl (vp_in_nI hj hn) hd (fun H1 locs1 hP1 hD1 hS1 => ?_)
  rw [nI_clamp (by omega)] at hP1
  refine k _ rfl p l e G A s mth args below meth c C X H1 locs1 ls hl ?_ hS1
  have e2 : (jw G m).set a (G.2.2 a, .inl (G.2.1 0, n, .inl (upd (m a) j x))) = jw G (jup m a (upd (m a) j x)) := jw_set (by rw [jent_arr ha (by omega), jup_s])
  rw [← e2]
  exact hP1
theorem e_zast {B : jMode} {M : jMeth} {pc : Nat} {L : List (Option Value)} {S : List Value} {m : jM} {a n : Nat} {i x : Int32} (hd : decode M.2.1 pc = .ok (.bastore, 1)) (ha : jlay a = (1, n)) (j : Nat) (hi : i = nI j) (hj : j < n) (hn : n < 2 ^ 31) (hx : x = 0 ∨ x = 1) (k : ∀ m1 : jM, m1 = jup m a (upd (m a) j x) → jE B M (pc + 1) L S m1) : jE B M pc L (.int x :: .int i :: .ref a :: S) m := by
  intro p l e G A s mth args below meth c C X H locs ls hl hP hS
  subst hi
  refine va_zast C.1 C.2.1 C.2.2.2.2.2.2.2.1 hP (jw_D C.2.2.2.2.2.2.2.2.2.1 C.2.2.2.2.2.2.2.2.2.2) hS a 1 ((jw_get G m (jlay_lt ha (by omega))).trans (by rw [jent_arr ha (by omega)])) rfl (vp_in_nI hj hn) hd (fun H1 locs1 hP1 hD1 hS1 => ?_)
  rw [nI_clamp (by omega), show vp_nar .boolean x = x by rcases hx with rfl | rfl <;> rfl] at hP1
  refine k _ rfl p l e G A s mth args below meth c C X H1 locs1 ls hl ?_ hS1
  have e2 : (jw G m).set a (G.2.2 a, .inl (G.2.1 1, n, .inl (upd (m a) j x))) = jw G (jup m a (upd (m a) j x)) := jw_set (by rw [jent_arr ha (by omega), jup_s])
  rw [← e2]
  exact hP1
theorem e_alen {B : jMode} {M : jMeth} {pc : Nat} {L : List (Option Value)} {S : List Value} {m : jM} {a n : Nat} (hd : decode M.2.1 pc = .ok (.arraylength, 1)) (ha : jlay a = (0, n)) (k : jE B M (pc + 1) L (.int (nI n) :: S) m) : jE B M pc L (.ref a :: S) m := by
  intro p l e G A s mth args below meth c C X H locs ls hl hP hS
  exact va_alen (v := nI n) C.1 C.2.1 C.2.2.2.2.2.2.2.1 hP a 0 ((jw_get G m (jlay_lt ha (by omega))).trans (by rw [jent_arr ha (by omega)])) rfl rfl hd (k p l e G A s mth args below meth c C X H locs ls hl hP hS)
theorem e_copy {B : jMode} {M : jMeth} {pc : Nat} {L : List (Option Value)} {S : List Value} {m : jM} {index a b na nb : Nat} {i j n : Int32} (hd : decode M.2.1 pc = .ok (.invokestatic index, 3)) (hlk : Cond.methodLink M.2.2.2.2.1 index arraycopyName ∈ wsL_law) (ha : jlay a = (0, na)) (hb : jlay b = (0, nb)) (i' j' n' : Nat) (hi : i = nI i') (hj : j = nI j') (hn : n = nI n') (h1 : i' + n' ≤ na) (h2 : j' + n' ≤ nb) (ha2 : na < 2 ^ 31) (hb2 : nb < 2 ^ 31)
    (hfr : 1 ≤ B.1.frames) (hlo : (S.map fun v => v.category).sum + (nativeFrameWords "java/lang/System" "arraycopy" 5 + 11) ≤ B.1.locals) (k : ∀ m1 : jM, m1 = jup m b (va_cpy (m a) (m b) i' j' n') → jE B M (pc + 3) L S m1) : jE B M pc L (.int n :: .int j :: .ref b :: .int i :: .ref a :: S) m := by
  intro p l e G A s mth args below meth c C X H locs ls hl hP hS
  subst hi hj hn
  have ci : (nI i').toNatClampNeg = i' := nI_clamp (by omega)
  have cj : (nI j').toNatClampNeg = j' := nI_clamp (by omega)
  have cn : (nI n').toNatClampNeg = n' := nI_clamp (by omega)
  have hcat : ((S.map (jtr G)).map fun v => v.category).sum = (S.map fun v => v.category).sum := by
    rw [List.map_map]
    congr 1
    exact List.map_congr_left (fun v _ => jtr_cat G v)
  refine va_copyi C.1 C.2.1 (by rw [C.2.2.1, hl.1]) C.2.2.2.2.2.1 (C.2.2.2.2.2.2.1 _ hlk) (C.2.2.2.2.2.2.1 _ jw_native) (C.2.2.2.2.2.2.1 _ jw_static) (C.2.2.2.2.2.2.1 _ jw_system) C.2.2.2.2.2.2.2.1 hP (jw_D C.2.2.2.2.2.2.2.2.2.1 C.2.2.2.2.2.2.2.2.2.2) hS a b 0 0 ((jw_get G m (jlay_lt ha (by omega))).trans (by rw [jent_arr ha (by omega)])) ((jw_get G m (jlay_lt hb (by omega))).trans (by rw [jent_arr hb (by omega)])) rfl rfl rfl (nI_pos (by omega)) (nI_pos (by omega)) (nI_pos (by omega)) (by rw [ci, cn]; exact h1) (by rw [cj, cn]; exact h2) (fun _ _ => rfl) hfr (by rw [hcat]; exact hlo) hd (fun H1 locs1 hP1 hD1 hS1 => ?_)
  rw [ci, cj, cn] at hP1
  refine k _ rfl p l e G A s mth args below meth c C X H1 locs1 ls hl ?_ hS1
  have e2 : (jw G m).set b (G.2.2 b, .inl (G.2.1 0, nb, .inl (va_cpy (m a) (m b) i' j' n'))) = jw G (jup m b (va_cpy (m a) (m b) i' j' n')) := jw_set (by rw [jent_arr hb (by omega), jup_s])
  rw [← e2]
  exact hP1
/-- the table NEAREST: the cell 113, that nobody writes -/
theorem e_near {B : jMode} {M : jMeth} {pc : Nat} {L : List (Option Value)} {S : List Value} {m : jM} {index : Nat} (hd : decode M.2.1 pc = .ok (.getstatic index, 3)) (hlk : Cond.fieldLink M.2.2.2.2.1 index "JamSongs" "NEAREST" "[I" ∈ wsL_law) (k : jE B M (pc + 3) L (.ref 113 :: S) m) : jE B M pc L S m := by
  intro p l e G A s mth args below meth c C X H locs ls hl hP hS
  exact va_gets C.1 C.2.1 C.2.2.2.2.2.2.2.2.1.1 hS C.2.2.2.2.2.1 (C.2.2.2.2.2.2.1 _ hlk) (fun _ h => h) hd (k p l e G A s mth args below meth c C X H locs ls hl hP hS)
theorem e_nlen {B : jMode} {M : jMeth} {pc : Nat} {L : List (Option Value)} {S : List Value} {m : jM} (hd : decode M.2.1 pc = .ok (.arraylength, 1)) (k : jE B M (pc + 1) L (.int 6 :: S) m) : jE B M pc L (.ref 113 :: S) m := by
  intro p l e G A s mth args below meth c C X H locs ls hl hP hS
  obtain ⟨cell, h1, h2, h3, h4, h5, h6, h7⟩ := C.2.2.2.2.2.2.2.2.1.2
  exact W.alen (n := 6) C.1 C.2.1 ((hS.2.1 _ (Array.getElem?_eq_some_iff.mp h1).1 h7).trans h1) h2 h5 rfl rfl hd (k p l e G A s mth args below meth c C X H locs ls hl hP hS)
theorem e_nld {B : jMode} {M : jMeth} {pc : Nat} {L : List (Option Value)} {S : List Value} {m : jM} {i : Int32} (hd : decode M.2.1 pc = .ok (.iaload, 1)) (j : Nat) (hi : i = nI j) (hj : j < 6) (k : jE B M (pc + 1) L (.int (jnear j) :: S) m) : jE B M pc L (.int i :: .ref 113 :: S) m := by
  intro p l e G A s mth args below meth c C X H locs ls hl hP hS
  subst hi
  obtain ⟨cell, h1, h2, h3, h4, h5, h6, h7⟩ := C.2.2.2.2.2.2.2.2.1.2
  have hcl : (nI j).toNatClampNeg = j := nI_clamp (by omega)
  exact W.iald (v := .int (jnear j)) C.1 C.2.1 ((hS.2.1 _ (Array.getElem?_eq_some_iff.mp h1).1 h7).trans h1) h2 h3 (fun q => by rcases q with q | q; exact nI_pos (by omega) q; omega) (by rw [hcl]; exact h6 j hj) rfl rfl hd (k p l e G A s mth args below meth c C X H locs ls hl hP hS)
/-! calls -/
def jCS (own : String) (idx : Nat) (M' : jMeth) : Prop := Cond.methodLink own idx M'.1 ∈ wsL_law ∧ Cond.static M'.1 ∈ wsL_law ∧ Cond.initialized M'.1.cls ∈ wsL_law ∧ Cond.code M'.1 M'.2.1 M'.2.2.1 M'.2.2.2.1 ∈ wsL_law
def jCV (own : String) (idx : Nat) (M' : jMeth) : Prop := Cond.methodLink own idx M'.1 ∈ wsL_law ∧ Cond.instanceMethod M'.1 ∈ wsL_law ∧ Cond.selects M'.1.cls M'.1 M'.1 ∈ wsL_law ∧ Cond.initialized M'.1.cls ∈ wsL_law ∧ Cond.code M'.1 M'.2.1 M'.2.2.1 M'.2.2.2.1 ∈ wsL_law
def jar (M' : jMeth) (n : Nat) : Bool := decide (M'.1.cls ≠ "java/lang/invoke/MethodHandle") && decide (M'.1.cls ≠ "java/lang/invoke/VarHandle") && decide ((parseMethodDescriptor M'.1.desc).map (fun d => d.parameters.length) = some n)
theorem jar_ok {M' : jMeth} {n : Nat} (h : jar M' n = true) : M'.1.cls ≠ "java/lang/invoke/MethodHandle" ∧ M'.1.cls ≠ "java/lang/invoke/VarHandle" ∧ (parseMethodDescriptor M'.1.desc).map (fun d => d.parameters.length) = some n := by
  unfold jar at h
  rw [Bool.and_eq_true, Bool.and_eq_true] at h
  exact ⟨of_decide_eq_true h.1.1, of_decide_eq_true h.1.2, of_decide_eq_true h.2⟩
theorem jPc_blind (G : jG) (as : List Value) (m : jM) : FrameBlind (jPc G as m) := by
  intro a U g mk q
  obtain ⟨e, hP, hK, hN, hI⟩ := q
  exact ⟨e, hP, va_K.moved (u := U) (U := U.calling g mk a) (Vm.Alike.refl U.vm) hK, ⟨va_Z.moved (u := U) (U := U.calling g mk a) (Vm.Alike.refl U.vm) hN.1, va_T.moved (u := U) (U := U.calling g mk a) (Vm.Alike.refl U.vm) hN.2⟩, hI⟩
theorem jNear_at {G : jG} {A : Nat → Prop} {s U : State} {H : Heap} {locs : List Loc} (h : jNear G A s s.heap) (hS : va_S A s.heap H locs) (hA : ∀ q, jA G q → A q) (hU : U.heap = H) (hvm : s.vm.Alike U.vm) : jNear G (jA G) U U.heap := by
  subst hU
  exact ⟨((h.1.kept (fun a h1 h2 => hS.2.1 a h1 h2)).narrow hA).moved hvm, ((h.2.kept (fun a h1 h2 => hS.2.1 a h1 h2)).narrow hA).moved hvm⟩
theorem e_run {B : jMode} {M : jMeth} {pc : Nat} {L : List (Option Value)} {S st0 : List Value} {Post : Option Value → jM → Prop} {as : Array Value} {p : Program} {l : Launch} {e : Env} {G : jG} {A : Nat → Prop} {s : State} {mth : MethodId} {args : Array Value} {below : List Frame} {meth : Method} {c : Code} (C : jC G A M p s mth args meth c) (X : B.2.2.2.2 G s A) {H : Heap} {locs : List Loc} {ls : Array Slot} (hl : jlv G ls M.2.2.1 L) (hS : va_S A s.heap H locs)
    (hr : va_Run p l e B.1 s mth args below meth c H locs B.2.1 B.2.2.1 0 0 (F0 mth pc ls st0) (S.map (jtr G)) (jQc G Post as) (jA G)) (k : ∀ (r : Option Value) (m1 : jM), Post r m1 → jE B M (pc + 3) L (r.toList ++ S) m1) : W p l e B.1 s mth args below meth c H locs B.2.1 B.2.2.1 (B.2.2.2.1 G s A args below) (F0 mth pc ls st0) := by
  have hA : ∀ q, jA G q → A q := fun q ⟨k, h1, h2⟩ => by rw [h2]; exact C.2.2.2.2.2.2.2.2.2.2 k h1
  intro T hT Xs
  obtain ⟨v, st₀, t, T', L', h0, X', hL, e1, e2, ⟨⟨r, m1, hpost, hv, hp⟩, hz, hk⟩, st⟩ := hr T hT Xs
  have hv : v = r.map (jtr G) := Outcome.returned.inj hv
  subst hv
  rw [h0] at hz hk
  have hS1 : va_S A s.heap T'.heap (locs ++ L') := ⟨Nat.le_trans hS.1 (by rw [e1]; exact hz), fun q h1 h2 => by rw [e1, hk q (Nat.lt_of_lt_of_le h1 hS.1) (fun z => h2 (hA q z))]; exact hS.2.1 q h1 h2, fun q hq => by
      rcases List.mem_append.mp hq with h | h
      · exact hS.2.2 q h
      · exact hA _ (hL q h)⟩
  have e3 : (r.map (jtr G)).toList ++ S.map (jtr G) = (r.toList ++ S).map (jtr G) := by cases r <;> rfl
  have := k r m1 hpost p l e G A s mth args below meth c C X T'.heap (locs ++ L') ls hl (by rw [e1]; exact hp) hS1 T' rfl X'
  rw [← e3] at this
  obtain ⟨t2, a1, b1⟩ := this
  exact ⟨t2, st t2 a1, b1⟩
theorem jsum {G : jG} {S : List Value} (h : (S.map fun v => v.category).sum ≤ 8) : ((S.map (jtr G)).map fun v => v.category).sum ≤ 8 := by
  rw [List.map_map]
  have : (S.map ((fun v : Value => v.category) ∘ jtr G)) = S.map fun v => v.category := List.map_congr_left (fun v _ => jtr_cat G v)
  rw [this]
  exact h
def jfit (R : Room) (M' : jMeth) : Bool := Nat.ble (M'.2.2.2.2.2.1 + 1) R.frames && Nat.ble (8 + (M'.2.2.1 + 11) + M'.2.2.2.2.2.2) R.locals
theorem jfit_ok {R : Room} {M' : jMeth} (h : jfit R M' = true) : (jrm M').frames + 1 ≤ R.frames ∧ 8 + (M'.2.2.1 + 11) + (jrm M').locals ≤ R.locals := by
  unfold jfit at h
  rw [Bool.and_eq_true] at h
  exact ⟨Nat.le_of_ble_eq_true h.1, Nat.le_of_ble_eq_true h.2⟩
theorem e_callS {B : jMode} {M : jMeth} (M' : jMeth) {pc : Nat} {L : List (Option Value)} {S st : List Value} {m : jM} {Post : Option Value → jM → Prop} {index n : Nat} (as : List Value) (hd : decode M.2.1 pc = .ok (.invokestatic index, 3)) (hc : jCS M.2.2.2.2.1 index M') (hn : as.length = n) (har : jar M' n = true) (hfit : jfit B.1 M' = true) (hst : st = as.reverse ++ S) (hsum : (S.map fun v => v.category).sum ≤ 8) (hx : jX M' as m Post) (k : ∀ (r : Option Value) (m1 : jM), Post r m1 → jE B M (pc + 3) L (r.toList ++ S) m1) (hBc : B.2.1 ≤ B.1.cells ∧ B.2.2.1 ≤ B.1.slots) : jE B M pc L st m := by
  intro p l e G A s mth args below meth c C X H locs ls hl hP hS
  subst hst
  have hA : ∀ q, jA G q → A q := fun q ⟨k, h1, h2⟩ => by rw [h2]; exact C.2.2.2.2.2.2.2.2.2.2 k h1
  have est : (as.reverse ++ S).map (jtr G) = (as.map (jtr G)).reverse ++ S.map (jtr G) := by rw [List.map_append, List.map_reverse]
  rw [est]
  refine e_run C X hl hS (as := (as.map (jtr G)).toArray) ?_ k
  exact va_runS (Ts := wsL_law) (own := M.2.2.2.2.1) (y := M'.1) (bytes := M'.2.1) (maxL := M'.2.2.1) (ret := M'.2.2.2.1) (ws := jws M') (rm := jrm M') (n := n) ⟨C.1, C.2.1, C.2.2.1, C.2.2.2.2.2.1, C.2.2.2.2.2.2.1⟩ (hx l G)
    (va_cwS n C.2.2.2.2.2.2.1 (jgoodIn (fun w hw => by
      rcases List.mem_append.mp hw with h | h
      · simp only [List.mem_cons, List.not_mem_nil, or_false] at h
        rcases h with rfl | rfl | rfl
        · exact hc.1
        · exact hc.2.1
        · exact hc.2.2.1
      · rcases List.mem_cons.mp h with rfl | h
        · exact hc.2.2.2
        · exact h)) rfl rfl rfl (jar_ok har) (jfit_ok hfit))
    ⟨jPc_blind G as m, fun U hU hW => ⟨rfl, by rw [hU]; exact hP, va_K.moved hW.alike C.2.2.2.2.2.2.2.1, jNear_at C.2.2.2.2.2.2.2.2.1 hS hA hU hW.alike, C.2.2.2.2.2.2.2.2.2.1⟩⟩ rfl (by rw [List.length_map]; exact hn) hl.1 rfl (lv_room (jsum hsum)) hd hBc
theorem e_callV {B : jMode} {M : jMeth} (M' : jMeth) {pc : Nat} {L : List (Option Value)} {S st : List Value} {m : jM} {Post : Option Value → jM → Prop} {index n a ci : Nat} (as : List Value) (hd : decode M.2.1 pc = .ok (.invokevirtual index, 3)) (hc : jCV M.2.2.2.2.1 index M') (hn : as.length = n) (har : jar M' n = true) (hfit : jfit B.1 M' = true) (ha : jlay a = (5, ci)) (hci : (jCl[ci]?).map (fun q => q.1) = some M'.1.cls) (hst : st = as.reverse ++ .ref a :: S) (hsum : (S.map fun v => v.category).sum ≤ 8) (hx : jX M' (.ref a :: as) m Post) (k : ∀ (r : Option Value) (m1 : jM), Post r m1 → jE B M (pc + 3) L (r.toList ++ S) m1) (hBc : B.2.1 ≤ B.1.cells ∧ B.2.2.1 ≤ B.1.slots) : jE B M pc L st m := by
  intro p l e G A s mth args below meth c C X H locs ls hl hP hS
  subst hst
  have hA : ∀ q, jA G q → A q := fun q ⟨k, h1, h2⟩ => by rw [h2]; exact C.2.2.2.2.2.2.2.2.2.2 k h1
  have est : (as.reverse ++ .ref a :: S).map (jtr G) = (as.map (jtr G)).reverse ++ .ref (G.2.2 a) :: S.map (jtr G) := by rw [List.map_append, List.map_reverse]; rfl
  rw [est]
  obtain ⟨cl, hcl⟩ : ∃ q, jCl[ci]? = some q := by
    cases h : jCl[ci]? with
    | none => rw [h] at hci; cases hci
    | some q => exact ⟨q, rfl⟩
  have hcls : cl.1 = M'.1.cls := by rw [hcl] at hci; exact Option.some.inj hci
  have hrecv := va_recv (cl := jCl) C.2.2.2.2.2.2.2.1 hP hcl (q0 := a) ((jw_get G m (jlay_lt ha (by omega))).trans (by rw [jent_obj ha]))
  rw [hcls] at hrecv
  refine e_run C X hl hS (as := (Value.ref (G.2.2 a) :: as.map (jtr G)).toArray) ?_ k
  exact va_runV (Ts := wsL_law) (own := M.2.2.2.2.1) (C := M'.1.cls) (y := M'.1) (bytes := M'.2.1) (maxL := M'.2.2.1) (ret := M'.2.2.2.1) (ws := jws M') (rm := jrm M') (n := n) ⟨C.1, C.2.1, C.2.2.1, C.2.2.2.2.2.1, C.2.2.2.2.2.2.1⟩ (hx l G)
    (cwV n C.2.2.2.2.2.2.1 (jgoodIn (fun w hw => by
      rcases List.mem_append.mp hw with h | h
      · simp only [List.mem_cons, List.not_mem_nil, or_false] at h
        rcases h with rfl | rfl | rfl | rfl
        · exact hc.1
        · exact hc.2.1
        · exact hc.2.2.1
        · exact hc.2.2.2.1
      · rcases List.mem_cons.mp h with rfl | h
        · exact hc.2.2.2.2
        · exact h)) rfl rfl rfl ⟨rfl, jar_ok har⟩ (jfit_ok hfit))
    ⟨jPc_blind G (.ref a :: as) m, hrecv, fun U hU hW => ⟨rfl, by rw [hU]; exact hP, va_K.moved hW.alike C.2.2.2.2.2.2.2.1, jNear_at C.2.2.2.2.2.2.2.2.1 hS hA hU hW.alike, C.2.2.2.2.2.2.2.2.2.1⟩⟩ rfl (by rw [List.length_map]; exact hn) hl.1 rfl (lv_room (jsum hsum)) hd hBc
theorem e_callSi {B : jMode} {M : jMeth} (M' : jMeth) {pc : Nat} {L : List (Option Value)} {S st : List Value} {m : jM}  {Q : Int32 → jM → Prop} {index n : Nat} (as : List Value) (hd : decode M.2.1 pc = .ok (.invokestatic index, 3)) (hc : jCS M.2.2.2.2.1 index M') (hn : as.length = n) (har : jar M' n = true) (hfit : jfit B.1 M' = true) (hst : st = as.reverse ++ S) (hsum : (S.map fun v => v.category).sum ≤ 8) (hBc : B.2.1 ≤ B.1.cells ∧ B.2.2.1 ≤ B.1.slots) (hx : iX M' as m Q) (k : ∀ (v : Int32) (m1 : jM), Q v m1 → jE B M (pc + 3) L (.int v :: S) m1) : jE B M pc L st m :=
  e_callS M' as hd hc hn har hfit hst hsum hx (fun r m1 ⟨v, hr, hq⟩ => by subst hr; exact k v m1 hq) hBc
theorem e_callSv {B : jMode} {M : jMeth} (M' : jMeth) {pc : Nat} {L : List (Option Value)} {S st : List Value} {m : jM}  {Q : jM → Prop} {index n : Nat} (as : List Value) (hd : decode M.2.1 pc = .ok (.invokestatic index, 3)) (hc : jCS M.2.2.2.2.1 index M') (hn : as.length = n) (har : jar M' n = true) (hfit : jfit B.1 M' = true) (hst : st = as.reverse ++ S) (hsum : (S.map fun v => v.category).sum ≤ 8) (hBc : B.2.1 ≤ B.1.cells ∧ B.2.2.1 ≤ B.1.slots) (hx : vX M' as m Q) (k : ∀ (m1 : jM), Q m1 → jE B M (pc + 3) L S m1) : jE B M pc L st m :=
  e_callS M' as hd hc hn har hfit hst hsum hx (fun r m1 ⟨hr, hq⟩ => by subst hr; exact k m1 hq) hBc
theorem e_callVi {B : jMode} {M : jMeth} (M' : jMeth) {pc : Nat} {L : List (Option Value)} {S st : List Value} {m : jM}  {Q : Int32 → jM → Prop} {index n a ci : Nat} (as : List Value) (hd : decode M.2.1 pc = .ok (.invokevirtual index, 3)) (hc : jCV M.2.2.2.2.1 index M') (hn : as.length = n) (har : jar M' n = true) (hfit : jfit B.1 M' = true) (ha : jlay a = (5, ci)) (hci : (jCl[ci]?).map (fun q => q.1) = some M'.1.cls) (hst : st = as.reverse ++ .ref a :: S) (hsum : (S.map fun v => v.category).sum ≤ 8) (hBc : B.2.1 ≤ B.1.cells ∧ B.2.2.1 ≤ B.1.slots) (hx : iX M' (.ref a :: as) m Q) (k : ∀ (v : Int32) (m1 : jM), Q v m1 → jE B M (pc + 3) L (.int v :: S) m1) : jE B M pc L st m :=
  e_callV M' as hd hc hn har hfit ha hci hst hsum hx (fun r m1 ⟨v, hr, hq⟩ => by subst hr; exact k v m1 hq) hBc
theorem e_callVv {B : jMode} {M : jMeth} (M' : jMeth) {pc : Nat} {L : List (Option Value)} {S st : List Value} {m : jM}  {Q : jM → Prop} {index n a ci : Nat} (as : List Value) (hd : decode M.2.1 pc = .ok (.invokevirtual index, 3)) (hc : jCV M.2.2.2.2.1 index M') (hn : as.length = n) (har : jar M' n = true) (hfit : jfit B.1 M' = true) (ha : jlay a = (5, ci)) (hci : (jCl[ci]?).map (fun q => q.1) = some M'.1.cls) (hst : st = as.reverse ++ .ref a :: S) (hsum : (S.map fun v => v.category).sum ≤ 8) (hBc : B.2.1 ≤ B.1.cells ∧ B.2.2.1 ≤ B.1.slots) (hx : vX M' (.ref a :: as) m Q) (k : ∀ (m1 : jM), Q m1 → jE B M (pc + 3) L S m1) : jE B M pc L st m :=
  e_callV M' as hd hc hn har hfit ha hci hst hsum hx (fun r m1 ⟨hr, hq⟩ => by subst hr; exact k m1 hq) hBc
end
section
def mX3_row : jMeth := (yX3_row, cX3_row, 4, (some .int), RX3, 2, 45)
def mX3_isNot : jMeth := (yX3_isNot, cX3_isNot, 2, (some .boolean), RX3, 0, 0)
def mX3_found : jMeth := (yX3_found, cX3_found, 2, (some .int), RX3, 0, 0)
def mX1_begin : jMeth := (yX1_begin, cX1_begin, 3, none, RX1, 1, 23)
def mArr_fill : jMeth := (yJ7_fill_53178, cJ7_fill_53178, 4, none, RJ7, 0, 0)
def mX3_fine : jMeth := (yX3_fine, cX3_fine, 2, (some .int), RX3, 0, 0)
def mX4_row : jMeth := (yX4_row, cX4_row, 5, (some .int), RX4, 2, 45)
def mX4_isRow : jMeth := (yX4_isRow, cX4_isRow, 1, (some .boolean), RX4, 1, 25)
def mX4_in : jMeth := (yX4_in, cX4_in, 6, (some .boolean), RX4, 0, 0)
def mX4_find : jMeth := (yX4_find, cX4_find, 2, (some .int), RX4, 0, 0)
def mX4_well : jMeth := (yX4_well, cX4_well, 2, (some .int), RX4, 0, 0)
def mX3_set : jMeth := (yX3_set, cX3_set, 5, (some .int), RX3, 1, 22)
def mX1_reaches : jMeth := (yX1_reaches, cX1_reaches, 3, (some .boolean), RX1, 0, 0)
def mX1_cut : jMeth := (yX1_cut, cX1_cut, 2, (some .int), RX1, 0, 0)
def mX4_set : jMeth := (yX4_set, cX4_set, 4, (some .int), RX4, 2, 45)
def mX4_asLane : jMeth := (yX4_asLane, cX4_asLane, 2, (some .int), RX4, 0, 0)
def mX3_copy : jMeth := (yX3_copy, cX3_copy, 8, (some .int), RX3, 1, 26)
def mX4_copy : jMeth := (yX4_copy, cX4_copy, 7, (some .int), RX4, 2, 45)
def mX3_drop : jMeth := (yX3_drop, cX3_drop, 3, (some .int), RX3, 1, 21)
def mX4_drop : jMeth := (yX4_drop, cX4_drop, 3, (some .int), RX4, 2, 45)
def mX3_feed : jMeth := (yX3_feed, cX3_feed, 2, (some .int), RX3, 1, 21)
def mX4_feed : jMeth := (yX4_feed, cX4_feed, 2, (some .int), RX4, 1, 25)
def mX3_kitchen : jMeth := (yX3_kitchen, cX3_kitchen, 1, (some .int), RX3, 6, 130)
def mX2_readInto : jMeth := (yX2_readInto, cX2_readInto, 3, none, RX2, 5, 108)
def mX0_begin : jMeth := (yX0_begin, cX0_begin, 1, none, RX0, 1, 23)
def mX2_step : jMeth := (yX2_step, cX2_step, 3, none, RX2, 2, 41)
def mX2_isFigure : jMeth := (yX2_isFigure, cX2_isFigure, 1, (some .boolean), RX2, 0, 0)
def mX2_stepNumber : jMeth := (yX2_stepNumber, cX2_stepNumber, 1, none, RX2, 1, 21)
def mMath_min : jMeth := (Lib.Math.min.name, Lib.Math.min.code, 2, (some .int), "java/lang/Math", 0, 0)
def mX2_take : jMeth := (yX2_take, cX2_take, 2, none, RX2, 3, 63)
def mX2_takeNumber : jMeth := (yX2_takeNumber, cX2_takeNumber, 4, (some .int), RX2, 3, 63)
def mX2_readSinger : jMeth := (yX2_readSinger, cX2_readSinger, 3, none, RX2, 4, 86)
def mX2_kindOf : jMeth := (yX2_kindOf, cX2_kindOf, 1, (some .int), RX2, 0, 0)
def mX2_readPan : jMeth := (yX2_readPan, cX2_readPan, 3, none, RX2, 4, 86)
def mX0_takeFrom : jMeth := (yX0_takeFrom, cX0_takeFrom, 2, none, RX0, 1, 26)
def mX4_kitchen : jMeth := (yX4_kitchen, cX4_kitchen, 3, (some .int), RX4, 6, 134)
def mX4_readKitchen : jMeth := (yX4_readKitchen, cX4_readKitchen, 3, (some .boolean), RX4, 5, 112)
def mX4_nextToken : jMeth := (yX4_nextToken, cX4_nextToken, 1, none, RX4, 1, 25)
def mX4_takes : jMeth := (yX4_takes, cX4_takes, 2, (some .boolean), RX4, 2, 45)
def mX4_isLetter : jMeth := (yX4_isLetter, cX4_isLetter, 2, (some .boolean), RX4, 0, 0)
def mX4_faults : jMeth := (yX4_faults, cX4_faults, 2, (some .boolean), RX4, 0, 0)
def mX4_takesNumber : jMeth := (yX4_takesNumber, cX4_takesNumber, 5, (some .boolean), RX4, 3, 66)
def mX4_readPan : jMeth := (yX4_readPan, cX4_readPan, 3, (some .boolean), RX4, 4, 90)
def mX4_readSinger : jMeth := (yX4_readSinger, cX4_readSinger, 2, (some .boolean), RX4, 4, 90)
def mX3_fault : jMeth := (yX3_fault, cX3_fault, 1, (some .int), RX3, 0, 0)
def mX4_fault : jMeth := (yX4_fault, cX4_fault, 1, (some .int), RX4, 0, 0)
def mX3_bar : jMeth := (yX3_bar, cX3_bar, 5, (some .int), RX3, 4, 90)
def mX0_can : jMeth := (yX0_can, cX0_can, 3, (some .boolean), RX0, 0, 0)
def mX3_keepAct : jMeth := (yX3_keepAct, cX3_keepAct, 1, none, RX3, 2, 47)
def mX0_keep : jMeth := (yX0_keep, cX0_keep, 2, none, RX0, 1, 26)
def mX0_singBar : jMeth := (yX0_singBar, cX0_singBar, 3, none, RX0, 3, 68)
def mX0_isSet : jMeth := (yX0_isSet, cX0_isSet, 2, (some .boolean), RX0, 0, 0)
def mX0_hear : jMeth := (yX0_hear, cX0_hear, 5, none, RX0, 2, 44)
def mInt_numberOfTrailingZeros : jMeth := (yJ6_numberOfTrailingZeros_0f7a4, cJ6_numberOfTrailingZeros_0f7a4, 2, (some .int), RJ6, 0, 0)
def mX0_judge : jMeth := (yX0_judge, cX0_judge, 5, (some .int), RX0, 1, 20)
def mMath_abs : jMeth := (Lib.Math.abs.name, Lib.Math.abs.code, 1, (some .int), "java/lang/Math", 0, 0)
def mX0_thickBy : jMeth := (yX0_thickBy, cX0_thickBy, 3, (some .int), RX0, 1, 21)
def mMath_max : jMeth := (Lib.Math.max.name, Lib.Math.max.code, 2, (some .int), "java/lang/Math", 0, 0)
def mX0_setPans : jMeth := (yX0_setPans, cX0_setPans, 3, (some .int), RX0, 1, 21)
def mX4_bar : jMeth := (yX4_bar, cX4_bar, 6, (some .int), RX4, 3, 68)
def mX4_canSing : jMeth := (yX4_canSing, cX4_canSing, 3, (some .boolean), RX4, 1, 25)
def mX4_note : jMeth := (yX4_note, cX4_note, 2, none, RX4, 0, 0)
def mX4_oneBar : jMeth := (yX4_oneBar, cX4_oneBar, 2, none, RX4, 2, 47)
def mX4_panHears : jMeth := (yX4_panHears, cX4_panHears, 7, none, RX4, 1, 21)
def mX4_has : jMeth := (yX4_has, cX4_has, 2, (some .boolean), RX4, 0, 0)
def mX4_setPans : jMeth := (yX4_setPans, cX4_setPans, 3, (some .int), RX4, 0, 0)
def mX3_window : jMeth := (yX3_window, cX3_window, 4, (some .int), RX3, 3, 67)
def mX4_window : jMeth := (yX4_window, cX4_window, 4, (some .int), RX4, 2, 46)
def mX4_isPan : jMeth := (yX4_isPan, cX4_isPan, 2, (some .boolean), RX4, 1, 25)
def mX4_isSinger : jMeth := (yX4_isSinger, cX4_isSinger, 2, (some .boolean), RX4, 1, 25)
def mX3_undo : jMeth := (yX3_undo, cX3_undo, 1, (some .int), RX3, 2, 47)
def mX0_bring : jMeth := (yX0_bring, cX0_bring, 2, none, RX0, 1, 26)
def mX4_undo : jMeth := (yX4_undo, cX4_undo, 2, (some .int), RX4, 0, 0)
def mX3_pan : jMeth := (yX3_pan, cX3_pan, 3, (some .int), RX3, 1, 21)
def mX4_pan : jMeth := (yX4_pan, cX4_pan, 3, (some .int), RX4, 2, 46)
def mX3_singer : jMeth := (yX3_singer, cX3_singer, 3, (some .int), RX3, 1, 21)
def mX4_singer : jMeth := (yX4_singer, cX4_singer, 3, (some .int), RX4, 2, 46)
def mX3_alone : jMeth := (yX3_alone, cX3_alone, 6, (some .int), RX3, 6, 136)
def mX3_takeTune : jMeth := (yX3_takeTune, cX3_takeTune, 5, (some .int), RX3, 1, 22)
def mX3_trySolo : jMeth := (yX3_trySolo, cX3_trySolo, 5, none, RX3, 5, 112)
def mX0_tryBar : jMeth := (yX0_tryBar, cX0_tryBar, 3, none, RX0, 4, 90)
def mX4_alone : jMeth := (yX4_alone, cX4_alone, 7, (some .int), RX4, 4, 94)
def mX4_lacks : jMeth := (yX4_lacks, cX4_lacks, 6, (some .int), RX4, 1, 25)
def mX4_putAside : jMeth := (yX4_putAside, cX4_putAside, 2, none, RX4, 0, 0)
def mX4_singAlone : jMeth := (yX4_singAlone, cX4_singAlone, 7, none, RX4, 3, 68)
def mX4_allRest : jMeth := (yX4_allRest, cX4_allRest, 2, none, RX4, 0, 0)
def mX4_takeBack : jMeth := (yX4_takeBack, cX4_takeBack, 2, none, RX4, 0, 0)
def mX3_round : jMeth := (yX3_round, cX3_round, 6, (some .int), RX3, 6, 138)
def mX3_tryRound : jMeth := (yX3_tryRound, cX3_tryRound, 7, none, RX3, 5, 112)
def mX4_round : jMeth := (yX4_round, cX4_round, 7, (some .int), RX4, 4, 96)
def mX4_singRound : jMeth := (yX4_singRound, cX4_singRound, 9, none, RX4, 3, 68)
def mX3_bestRound : jMeth := (yX3_bestRound, cX3_bestRound, 10, (some .int), RX3, 6, 138)
def mInt_bitCount : jMeth := (yJ6_bitCount_0f7a4, cJ6_bitCount_0f7a4, 1, (some .int), RJ6, 0, 0)
def mX4_bestRound : jMeth := (yX4_bestRound, cX4_bestRound, 10, (some .int), RX4, 4, 96)
def mX4_ones : jMeth := (yX4_ones, cX4_ones, 3, (some .int), RX4, 0, 0)
def mX3_song : jMeth := (yX3_song, cX3_song, 4, (some .int), RX3, 6, 141)
def mX3_seekSong : jMeth := (yX3_seekSong, cX3_seekSong, 6, none, RX3, 5, 116)
def mX3_trySong : jMeth := (yX3_trySong, cX3_trySong, 7, (some .int), RX3, 4, 90)
def mX3_noteOf : jMeth := (yX3_noteOf, cX3_noteOf, 3, (some .int), RX3, 0, 0)
def mX3_weighSong : jMeth := (yX3_weighSong, cX3_weighSong, 6, none, RX3, 2, 43)
def mX4_song : jMeth := (yX4_song, cX4_song, 10, (some .int), RX4, 4, 92)
def mX4_singsRow : jMeth := (yX4_singsRow, cX4_singsRow, 5, (some .boolean), RX4, 3, 68)
def mX3_toShut : jMeth := (yX3_toShut, cX3_toShut, 12, (some .int), RX3, 7, 162)
def mX3_setsWithout : jMeth := (yX3_setsWithout, cX3_setsWithout, 5, (some .boolean), RX3, 6, 138)
def mX4_toShut : jMeth := (yX4_toShut, cX4_toShut, 11, (some .int), RX4, 4, 96)
def mX3_modes : jMeth := (yX3_modes, cX3_modes, 12, (some .int), RX3, 6, 136)
def mX4_modes : jMeth := (yX4_modes, cX4_modes, 13, (some .int), RX4, 4, 94)
def mX3_coughs : jMeth := (yX3_coughs, cX3_coughs, 12, (some .int), RX3, 6, 136)
def mX3_weightOf : jMeth := (yX3_weightOf, cX3_weightOf, 4, (some .int), RX3, 1, 23)
def mX3_power : jMeth := (yX3_power, cX3_power, 4, (some .int), RX3, 0, 0)
def mX3_commonDivisor : jMeth := (yX3_commonDivisor, cX3_commonDivisor, 6, (some .int), RX3, 1, 21)
def mX4_coughs : jMeth := (yX4_coughs, cX4_coughs, 14, (some .int), RX4, 4, 94)
def mX3_image : jMeth := (yX3_image, cX3_image, 2, (some .int), RX3, 2, 47)
def mX4_image : jMeth := (yX4_image, cX4_image, 3, (some .int), RX4, 1, 25)
def mX3_restore : jMeth := (yX3_restore, cX3_restore, 2, (some .int), RX3, 2, 47)
def mX4_restore : jMeth := (yX4_restore, cX4_restore, 3, (some .int), RX4, 1, 25)
def mX3_kind : jMeth := (yX3_kind, cX3_kind, 2, (some .int), RX3, 1, 21)
def mX4_kind : jMeth := (yX4_kind, cX4_kind, 2, (some .int), RX4, 2, 46)
def mX3_as : jMeth := (yX3_as, cX3_as, 3, (some .int), RX3, 1, 23)
def mX3_isOf : jMeth := (yX3_isOf, cX3_isOf, 4, (some .boolean), RX3, 0, 0)
def mX4_as : jMeth := (yX4_as, cX4_as, 3, (some .int), RX4, 2, 46)
def mX4_isKind : jMeth := (yX4_isKind, cX4_isKind, 2, (some .boolean), RX4, 0, 0)
def mX3_ask : jMeth := (yX3_ask, cX3_ask, 4, (some .int), RX3, 6, 127)
def mX3_sizeOfPlums : jMeth := (yX3_sizeOfPlums, cX3_sizeOfPlums, 2, (some .int), RX3, 5, 106)
def mX3_leave : jMeth := (yX3_leave, cX3_leave, 2, none, RX3, 0, 0)
def mX3_plumSize : jMeth := (yX3_plumSize, cX3_plumSize, 3, (some .int), RX3, 4, 84)
def mX3_lentSize : jMeth := (yX3_lentSize, cX3_lentSize, 2, (some .int), RX3, 1, 21)
def mX3_markOfPlums : jMeth := (yX3_markOfPlums, cX3_markOfPlums, 2, (some .int), RX3, 3, 63)
def mX3_plumMark : jMeth := (yX3_plumMark, cX3_plumMark, 2, (some .int), RX3, 2, 42)
def mX3_lentMark : jMeth := (yX3_lentMark, cX3_lentMark, 2, (some .int), RX3, 1, 21)
def mX3_sizeOfMarrows : jMeth := (yX3_sizeOfMarrows, cX3_sizeOfMarrows, 2, (some .int), RX3, 3, 63)
def mX3_marrowSize : jMeth := (yX3_marrowSize, cX3_marrowSize, 2, (some .int), RX3, 2, 42)
def mX3_markOfMarrows : jMeth := (yX3_markOfMarrows, cX3_markOfMarrows, 3, (some .int), RX3, 4, 84)
def mX4_ask : jMeth := (yX4_ask, cX4_ask, 3, (some .int), RX4, 7, 152)
def mX4_sizeOf : jMeth := (yX4_sizeOf, cX4_sizeOf, 3, (some .int), RX4, 6, 130)
def mX4_begin : jMeth := (yX4_begin, cX4_begin, 2, none, RX4, 0, 0)
def mX4_plumSize : jMeth := (yX4_plumSize, cX4_plumSize, 3, (some .int), RX4, 5, 108)
def mX4_lent : jMeth := (yX4_lent, cX4_lent, 3, (some .int), RX4, 1, 21)
def mX4_markOf : jMeth := (yX4_markOf, cX4_markOf, 4, (some .int), RX4, 4, 85)
def mX4_plumMark : jMeth := (yX4_plumMark, cX4_plumMark, 2, (some .int), RX4, 2, 43)
def mX4_sizeOfMarrow : jMeth := (yX4_sizeOfMarrow, cX4_sizeOfMarrow, 2, (some .int), RX4, 3, 64)
def mX4_marrowSize : jMeth := (yX4_marrowSize, cX4_marrowSize, 2, (some .int), RX4, 2, 43)
def mX3_trace : jMeth := (yX3_trace, cX3_trace, 2, (some .int), RX3, 1, 21)
def mX4_trace : jMeth := (yX4_trace, cX4_trace, 2, (some .int), RX4, 1, 25)
def mX3_count : jMeth := (yX3_count, cX3_count, 2, (some .int), RX3, 2, 43)
def mX3_rowsThere : jMeth := (yX3_rowsThere, cX3_rowsThere, 3, (some .int), RX3, 0, 0)
def mX4_count : jMeth := (yX4_count, cX4_count, 4, (some .int), RX4, 1, 22)
def mX3_status : jMeth := (yX3_status, cX3_status, 1, (some .int), RX3, 0, 0)
def mX4_status : jMeth := (yX4_status, cX4_status, 1, (some .int), RX4, 0, 0)
theorem lkX3_11 : jFL RX3 11 3 0 := ⟨RX3, TX3, 18, rfl, rfl, by decide, rfl, List.mem_of_getElem? (i := 13) (by decide +kernel)⟩
theorem lkX3_18 : jFL RX3 18 3 1 := ⟨RX3, TX3, 18, rfl, rfl, by decide, rfl, List.mem_of_getElem? (i := 17) (by decide +kernel)⟩
theorem lkX3_25 : jFL RX3 25 3 2 := ⟨RX3, TX3, 18, rfl, rfl, by decide, rfl, List.mem_of_getElem? (i := 21) (by decide +kernel)⟩
theorem lkX3_29 : jFL RX3 29 3 3 := ⟨RX3, TX3, 18, rfl, rfl, by decide, rfl, List.mem_of_getElem? (i := 22) (by decide +kernel)⟩
theorem lkX3_32 : jFL RX3 32 3 4 := ⟨RX3, TX3, 18, rfl, rfl, by decide, rfl, List.mem_of_getElem? (i := 23) (by decide +kernel)⟩
theorem lkX3_38 : jFL RX3 38 3 5 := ⟨RX3, TX3, 18, rfl, rfl, by decide, rfl, List.mem_of_getElem? (i := 26) (by decide +kernel)⟩
theorem lkX3_41 : jFL RX3 41 3 6 := ⟨RX3, TX3, 18, rfl, rfl, by decide, rfl, List.mem_of_getElem? (i := 27) (by decide +kernel)⟩
theorem lkX3_45 : jFL RX3 45 3 7 := ⟨RX3, TX3, 18, rfl, rfl, by decide, rfl, List.mem_of_getElem? (i := 28) (by decide +kernel)⟩
theorem lkX3_48 : jFL RX3 48 3 8 := ⟨RX3, TX3, 18, rfl, rfl, by decide, rfl, List.mem_of_getElem? (i := 29) (by decide +kernel)⟩
theorem lkX3_52 : jFL RX3 52 3 9 := ⟨RX3, TX3, 18, rfl, rfl, by decide, rfl, List.mem_of_getElem? (i := 30) (by decide +kernel)⟩
theorem lkX3_55 : jFL RX3 55 3 10 := ⟨RX3, TX3, 18, rfl, rfl, by decide, rfl, List.mem_of_getElem? (i := 31) (by decide +kernel)⟩
theorem lkX3_58 : jFL RX3 58 3 11 := ⟨RX3, TX3, 18, rfl, rfl, by decide, rfl, List.mem_of_getElem? (i := 32) (by decide +kernel)⟩
theorem lkX3_61 : jFL RX3 61 3 12 := ⟨RX3, TX3, 18, rfl, rfl, by decide, rfl, List.mem_of_getElem? (i := 33) (by decide +kernel)⟩
theorem lkX3_64 : jFL RX3 64 3 13 := ⟨RX3, TX3, 18, rfl, rfl, by decide, rfl, List.mem_of_getElem? (i := 34) (by decide +kernel)⟩
theorem lkX3_67 : jFL RX3 67 3 14 := ⟨RX3, TX3, 18, rfl, rfl, by decide, rfl, List.mem_of_getElem? (i := 35) (by decide +kernel)⟩
theorem lkX3_70 : jFL RX3 70 3 15 := ⟨RX3, TX3, 18, rfl, rfl, by decide, rfl, List.mem_of_getElem? (i := 36) (by decide +kernel)⟩
theorem lkX3_73 : jFL RX3 73 3 16 := ⟨RX3, TX3, 18, rfl, rfl, by decide, rfl, List.mem_of_getElem? (i := 37) (by decide +kernel)⟩
theorem lkX3_76 : jFL RX3 76 3 17 := ⟨RX3, TX3, 18, rfl, rfl, by decide, rfl, List.mem_of_getElem? (i := 38) (by decide +kernel)⟩
theorem lkX2_9 : jFL RX2 9 2 0 := ⟨RX2, TX2, 7, rfl, rfl, by decide, rfl, List.mem_of_getElem? (i := 44) (by decide +kernel)⟩
theorem lkX2_15 : jFL RX2 15 2 1 := ⟨RX2, TX2, 7, rfl, rfl, by decide, rfl, List.mem_of_getElem? (i := 45) (by decide +kernel)⟩
theorem lkX2_19 : jFL RX2 19 2 2 := ⟨RX2, TX2, 7, rfl, rfl, by decide, rfl, List.mem_of_getElem? (i := 46) (by decide +kernel)⟩
theorem lkX2_22 : jFL RX2 22 2 3 := ⟨RX2, TX2, 7, rfl, rfl, by decide, rfl, List.mem_of_getElem? (i := 47) (by decide +kernel)⟩
theorem lkX2_25 : jFL RX2 25 2 4 := ⟨RX2, TX2, 7, rfl, rfl, by decide, rfl, List.mem_of_getElem? (i := 48) (by decide +kernel)⟩
theorem lkX2_28 : jFL RX2 28 2 5 := ⟨RX2, TX2, 7, rfl, rfl, by decide, rfl, List.mem_of_getElem? (i := 49) (by decide +kernel)⟩
theorem lkX2_31 : jFL RX2 31 2 6 := ⟨RX2, TX2, 7, rfl, rfl, by decide, rfl, List.mem_of_getElem? (i := 50) (by decide +kernel)⟩
theorem lkX0_9 : jFL RX0 9 0 0 := ⟨RX0, TX0, 15, rfl, rfl, by decide, rfl, List.mem_of_getElem? (i := 54) (by decide +kernel)⟩
theorem lkX0_15 : jFL RX0 15 0 1 := ⟨RX0, TX0, 15, rfl, rfl, by decide, rfl, List.mem_of_getElem? (i := 55) (by decide +kernel)⟩
theorem lkX0_19 : jFL RX0 19 0 2 := ⟨RX0, TX0, 15, rfl, rfl, by decide, rfl, List.mem_of_getElem? (i := 56) (by decide +kernel)⟩
theorem lkX0_22 : jFL RX0 22 0 3 := ⟨RX0, TX0, 15, rfl, rfl, by decide, rfl, List.mem_of_getElem? (i := 57) (by decide +kernel)⟩
theorem lkX0_26 : jFL RX0 26 0 4 := ⟨RX0, TX0, 15, rfl, rfl, by decide, rfl, List.mem_of_getElem? (i := 58) (by decide +kernel)⟩
theorem lkX0_29 : jFL RX0 29 0 5 := ⟨RX0, TX0, 15, rfl, rfl, by decide, rfl, List.mem_of_getElem? (i := 59) (by decide +kernel)⟩
theorem lkX0_32 : jFL RX0 32 0 6 := ⟨RX0, TX0, 15, rfl, rfl, by decide, rfl, List.mem_of_getElem? (i := 60) (by decide +kernel)⟩
theorem lkX0_35 : jFL RX0 35 0 7 := ⟨RX0, TX0, 15, rfl, rfl, by decide, rfl, List.mem_of_getElem? (i := 61) (by decide +kernel)⟩
theorem lkX0_38 : jFL RX0 38 0 8 := ⟨RX0, TX0, 15, rfl, rfl, by decide, rfl, List.mem_of_getElem? (i := 62) (by decide +kernel)⟩
theorem lkX0_41 : jFL RX0 41 0 9 := ⟨RX0, TX0, 15, rfl, rfl, by decide, rfl, List.mem_of_getElem? (i := 63) (by decide +kernel)⟩
theorem lkX0_44 : jFL RX0 44 0 10 := ⟨RX0, TX0, 15, rfl, rfl, by decide, rfl, List.mem_of_getElem? (i := 64) (by decide +kernel)⟩
theorem lkX0_47 : jFL RX0 47 0 11 := ⟨RX0, TX0, 15, rfl, rfl, by decide, rfl, List.mem_of_getElem? (i := 65) (by decide +kernel)⟩
theorem lkX0_50 : jFL RX0 50 0 12 := ⟨RX0, TX0, 15, rfl, rfl, by decide, rfl, List.mem_of_getElem? (i := 66) (by decide +kernel)⟩
theorem lkX0_53 : jFL RX0 53 0 13 := ⟨RX0, TX0, 15, rfl, rfl, by decide, rfl, List.mem_of_getElem? (i := 67) (by decide +kernel)⟩
theorem lkX0_56 : jFL RX0 56 0 14 := ⟨RX0, TX0, 15, rfl, rfl, by decide, rfl, List.mem_of_getElem? (i := 68) (by decide +kernel)⟩
theorem lkX1_9 : jFL RX1 9 1 0 := ⟨RX1, TX1, 4, rfl, rfl, by decide, rfl, List.mem_of_getElem? (i := 72) (by decide +kernel)⟩
theorem lkX1_15 : jFL RX1 15 1 1 := ⟨RX1, TX1, 4, rfl, rfl, by decide, rfl, List.mem_of_getElem? (i := 73) (by decide +kernel)⟩
theorem lkX1_19 : jFL RX1 19 1 2 := ⟨RX1, TX1, 4, rfl, rfl, by decide, rfl, List.mem_of_getElem? (i := 74) (by decide +kernel)⟩
theorem lkX1_22 : jFL RX1 22 1 3 := ⟨RX1, TX1, 4, rfl, rfl, by decide, rfl, List.mem_of_getElem? (i := 75) (by decide +kernel)⟩
theorem lkX4_7 : jFL RX4 7 4 0 := ⟨RX4, TX4, 26, rfl, rfl, by decide, rfl, List.mem_of_getElem? (i := 80) (by decide +kernel)⟩
theorem lkX4_13 : jFL RX4 13 4 1 := ⟨RX4, TX4, 26, rfl, rfl, by decide, rfl, List.mem_of_getElem? (i := 81) (by decide +kernel)⟩
theorem lkX4_16 : jFL RX4 16 4 2 := ⟨RX4, TX4, 26, rfl, rfl, by decide, rfl, List.mem_of_getElem? (i := 82) (by decide +kernel)⟩
theorem lkX4_19 : jFL RX4 19 4 5 := ⟨RX4, TX4, 26, rfl, rfl, by decide, rfl, List.mem_of_getElem? (i := 83) (by decide +kernel)⟩
theorem lkX4_22 : jFL RX4 22 4 6 := ⟨RX4, TX4, 26, rfl, rfl, by decide, rfl, List.mem_of_getElem? (i := 84) (by decide +kernel)⟩
theorem lkX4_25 : jFL RX4 25 4 7 := ⟨RX4, TX4, 26, rfl, rfl, by decide, rfl, List.mem_of_getElem? (i := 85) (by decide +kernel)⟩
theorem lkX4_28 : jFL RX4 28 4 15 := ⟨RX4, TX4, 26, rfl, rfl, by decide, rfl, List.mem_of_getElem? (i := 86) (by decide +kernel)⟩
theorem lkX4_31 : jFL RX4 31 4 16 := ⟨RX4, TX4, 26, rfl, rfl, by decide, rfl, List.mem_of_getElem? (i := 87) (by decide +kernel)⟩
theorem lkX4_34 : jFL RX4 34 4 17 := ⟨RX4, TX4, 26, rfl, rfl, by decide, rfl, List.mem_of_getElem? (i := 88) (by decide +kernel)⟩
theorem lkX4_37 : jFL RX4 37 4 19 := ⟨RX4, TX4, 26, rfl, rfl, by decide, rfl, List.mem_of_getElem? (i := 89) (by decide +kernel)⟩
theorem lkX4_40 : jFL RX4 40 4 20 := ⟨RX4, TX4, 26, rfl, rfl, by decide, rfl, List.mem_of_getElem? (i := 90) (by decide +kernel)⟩
theorem lkX4_43 : jFL RX4 43 4 22 := ⟨RX4, TX4, 26, rfl, rfl, by decide, rfl, List.mem_of_getElem? (i := 92) (by decide +kernel)⟩
theorem lkX4_47 : jFL RX4 47 4 23 := ⟨RX4, TX4, 26, rfl, rfl, by decide, rfl, List.mem_of_getElem? (i := 93) (by decide +kernel)⟩
theorem lkX4_50 : jFL RX4 50 4 24 := ⟨RX4, TX4, 26, rfl, rfl, by decide, rfl, List.mem_of_getElem? (i := 94) (by decide +kernel)⟩
theorem lkX4_53 : jFL RX4 53 4 3 := ⟨RX4, TX4, 26, rfl, rfl, by decide, rfl, List.mem_of_getElem? (i := 137) (by decide +kernel)⟩
theorem lkX3_96 : jFL RX3 96 1 0 := ⟨RX1, TX1, 4, rfl, rfl, by decide, rfl, List.mem_of_getElem? (i := 147) (by decide +kernel)⟩
theorem lkX3_103 : jFL RX3 103 1 3 := ⟨RX1, TX1, 4, rfl, rfl, by decide, rfl, List.mem_of_getElem? (i := 148) (by decide +kernel)⟩
theorem lkX3_109 : jFL RX3 109 1 1 := ⟨RX1, TX1, 4, rfl, rfl, by decide, rfl, List.mem_of_getElem? (i := 168) (by decide +kernel)⟩
theorem lkX3_118 : jFL RX3 118 1 2 := ⟨RX1, TX1, 4, rfl, rfl, by decide, rfl, List.mem_of_getElem? (i := 181) (by decide +kernel)⟩
theorem lkX3_121 : jFL RX3 121 2 1 := ⟨RX2, TX2, 7, rfl, rfl, by decide, rfl, List.mem_of_getElem? (i := 190) (by decide +kernel)⟩
theorem lkX3_123 : jFL RX3 123 2 0 := ⟨RX2, TX2, 7, rfl, rfl, by decide, rfl, List.mem_of_getElem? (i := 192) (by decide +kernel)⟩
theorem lkX4_84 : jFL RX4 84 4 8 := ⟨RX4, TX4, 26, rfl, rfl, by decide, rfl, List.mem_of_getElem? (i := 198) (by decide +kernel)⟩
theorem lkX3_130 : jFL RX3 130 2 6 := ⟨RX2, TX2, 7, rfl, rfl, by decide, rfl, List.mem_of_getElem? (i := 204) (by decide +kernel)⟩
theorem lkX3_134 : jFL RX3 134 2 2 := ⟨RX2, TX2, 7, rfl, rfl, by decide, rfl, List.mem_of_getElem? (i := 206) (by decide +kernel)⟩
theorem lkX3_140 : jFL RX3 140 0 6 := ⟨RX0, TX0, 15, rfl, rfl, by decide, rfl, List.mem_of_getElem? (i := 207) (by decide +kernel)⟩
theorem lkX2_50 : jFL RX2 50 0 1 := ⟨RX0, TX0, 15, rfl, rfl, by decide, rfl, List.mem_of_getElem? (i := 212) (by decide +kernel)⟩
theorem lkX2_64 : jFL RX2 64 0 3 := ⟨RX0, TX0, 15, rfl, rfl, by decide, rfl, List.mem_of_getElem? (i := 246) (by decide +kernel)⟩
theorem lkX2_67 : jFL RX2 67 0 4 := ⟨RX0, TX0, 15, rfl, rfl, by decide, rfl, List.mem_of_getElem? (i := 247) (by decide +kernel)⟩
theorem lkX2_70 : jFL RX2 70 0 5 := ⟨RX0, TX0, 15, rfl, rfl, by decide, rfl, List.mem_of_getElem? (i := 248) (by decide +kernel)⟩
theorem lkX2_73 : jFL RX2 73 0 2 := ⟨RX0, TX0, 15, rfl, rfl, by decide, rfl, List.mem_of_getElem? (i := 249) (by decide +kernel)⟩
theorem lkX2_76 : jFL RX2 76 0 7 := ⟨RX0, TX0, 15, rfl, rfl, by decide, rfl, List.mem_of_getElem? (i := 257) (by decide +kernel)⟩
theorem lkX2_79 : jFL RX2 79 0 8 := ⟨RX0, TX0, 15, rfl, rfl, by decide, rfl, List.mem_of_getElem? (i := 258) (by decide +kernel)⟩
theorem lkX2_82 : jFL RX2 82 0 9 := ⟨RX0, TX0, 15, rfl, rfl, by decide, rfl, List.mem_of_getElem? (i := 259) (by decide +kernel)⟩
theorem lkX2_85 : jFL RX2 85 0 12 := ⟨RX0, TX0, 15, rfl, rfl, by decide, rfl, List.mem_of_getElem? (i := 260) (by decide +kernel)⟩
theorem lkX2_88 : jFL RX2 88 0 6 := ⟨RX0, TX0, 15, rfl, rfl, by decide, rfl, List.mem_of_getElem? (i := 261) (by decide +kernel)⟩
theorem lkX4_108 : jFL RX4 108 4 14 := ⟨RX4, TX4, 26, rfl, rfl, by decide, rfl, List.mem_of_getElem? (i := 271) (by decide +kernel)⟩
theorem lkX4_138 : jFL RX4 138 4 9 := ⟨RX4, TX4, 26, rfl, rfl, by decide, rfl, List.mem_of_getElem? (i := 272) (by decide +kernel)⟩
theorem lkX4_91 : jFL RX4 91 4 13 := ⟨RX4, TX4, 26, rfl, rfl, by decide, rfl, List.mem_of_getElem? (i := 274) (by decide +kernel)⟩
theorem lkX4_142 : jFL RX4 142 4 4 := ⟨RX4, TX4, 26, rfl, rfl, by decide, rfl, List.mem_of_getElem? (i := 275) (by decide +kernel)⟩
theorem lkX4_146 : jFL RX4 146 4 18 := ⟨RX4, TX4, 26, rfl, rfl, by decide, rfl, List.mem_of_getElem? (i := 276) (by decide +kernel)⟩
theorem lkX4_88 : jFL RX4 88 4 10 := ⟨RX4, TX4, 26, rfl, rfl, by decide, rfl, List.mem_of_getElem? (i := 281) (by decide +kernel)⟩
theorem lkX4_94 : jFL RX4 94 4 11 := ⟨RX4, TX4, 26, rfl, rfl, by decide, rfl, List.mem_of_getElem? (i := 282) (by decide +kernel)⟩
theorem lkX4_97 : jFL RX4 97 4 12 := ⟨RX4, TX4, 26, rfl, rfl, by decide, rfl, List.mem_of_getElem? (i := 287) (by decide +kernel)⟩
theorem lkX3_143 : jFL RX3 143 0 0 := ⟨RX0, TX0, 15, rfl, rfl, by decide, rfl, List.mem_of_getElem? (i := 329) (by decide +kernel)⟩
theorem lkX3_147 : jFL RX3 147 0 2 := ⟨RX0, TX0, 15, rfl, rfl, by decide, rfl, List.mem_of_getElem? (i := 331) (by decide +kernel)⟩
theorem lkX3_164 : jFL RX3 164 0 12 := ⟨RX0, TX0, 15, rfl, rfl, by decide, rfl, List.mem_of_getElem? (i := 412) (by decide +kernel)⟩
theorem lkX3_170 : jFL RX3 170 0 8 := ⟨RX0, TX0, 15, rfl, rfl, by decide, rfl, List.mem_of_getElem? (i := 441) (by decide +kernel)⟩
theorem lkX3_173 : jFL RX3 173 0 9 := ⟨RX0, TX0, 15, rfl, rfl, by decide, rfl, List.mem_of_getElem? (i := 442) (by decide +kernel)⟩
theorem lkX3_176 : jFL RX3 176 0 13 := ⟨RX0, TX0, 15, rfl, rfl, by decide, rfl, List.mem_of_getElem? (i := 443) (by decide +kernel)⟩
theorem lkX3_183 : jFL RX3 183 0 14 := ⟨RX0, TX0, 15, rfl, rfl, by decide, rfl, List.mem_of_getElem? (i := 444) (by decide +kernel)⟩
theorem lkX3_186 : jFL RX3 186 0 3 := ⟨RX0, TX0, 15, rfl, rfl, by decide, rfl, List.mem_of_getElem? (i := 454) (by decide +kernel)⟩
theorem lkX3_189 : jFL RX3 189 0 4 := ⟨RX0, TX0, 15, rfl, rfl, by decide, rfl, List.mem_of_getElem? (i := 455) (by decide +kernel)⟩
theorem lkX3_192 : jFL RX3 192 0 5 := ⟨RX0, TX0, 15, rfl, rfl, by decide, rfl, List.mem_of_getElem? (i := 456) (by decide +kernel)⟩
theorem lkX3_195 : jFL RX3 195 0 11 := ⟨RX0, TX0, 15, rfl, rfl, by decide, rfl, List.mem_of_getElem? (i := 457) (by decide +kernel)⟩
theorem lkX4_205 : jFL RX4 205 4 21 := ⟨RX4, TX4, 26, rfl, rfl, by decide, rfl, List.mem_of_getElem? (i := 566) (by decide +kernel)⟩
theorem lkX3_236 : jFL RX3 236 0 7 := ⟨RX0, TX0, 15, rfl, rfl, by decide, rfl, List.mem_of_getElem? (i := 632) (by decide +kernel)⟩
theorem lkX4_224 : jFL RX4 224 4 25 := ⟨RX4, TX4, 26, rfl, rfl, by decide, rfl, List.mem_of_getElem? (i := 701) (by decide +kernel)⟩
theorem lkX3_257 : jFL RX3 257 0 10 := ⟨RX0, TX0, 15, rfl, rfl, by decide, rfl, List.mem_of_getElem? (i := 746) (by decide +kernel)⟩
theorem lkX3_260 : jFL RX3 260 0 1 := ⟨RX0, TX0, 15, rfl, rfl, by decide, rfl, List.mem_of_getElem? (i := 747) (by decide +kernel)⟩
theorem fwX0_0 : jFW 0 0 := fun _ _ _ h => by cases h; rfl
theorem fwX0_1 : jFW 0 1 := fun _ _ _ h => by cases h; rfl
theorem fwX0_2 : jFW 0 2 := fun _ _ _ h => by cases h; rfl
theorem fwX0_6 : jFW 0 6 := fun _ _ _ h => by cases h; rfl
theorem fwX0_10 : jFW 0 10 := fun _ _ _ h => by cases h; rfl
theorem fwX1_0 : jFW 1 0 := fun _ _ _ h => by cases h; rfl
theorem fwX1_1 : jFW 1 1 := fun _ _ _ h => by cases h; rfl
theorem fwX1_2 : jFW 1 2 := fun _ _ _ h => by cases h; rfl
theorem fwX2_1 : jFW 2 1 := fun _ _ _ h => by cases h; rfl
theorem fwX2_2 : jFW 2 2 := fun _ _ _ h => by cases h; rfl
theorem fwX2_3 : jFW 2 3 := fun _ _ _ h => by cases h; rfl
theorem fwX2_4 : jFW 2 4 := fun _ _ _ h => by cases h; rfl
theorem fwX2_5 : jFW 2 5 := fun _ _ _ h => by cases h; rfl
theorem fwX2_6 : jFW 2 6 := fun _ _ _ h => by cases h; rfl
theorem fwX3_6 : jFW 3 6 := fun _ _ _ h => by cases h; rfl
theorem fwX3_7 : jFW 3 7 := fun _ _ _ h => by cases h; rfl
theorem fwX3_11 : jFW 3 11 := fun _ _ _ h => by cases h; rfl
theorem fwX3_12 : jFW 3 12 := fun _ _ _ h => by cases h; rfl
theorem fwX3_13 : jFW 3 13 := fun _ _ _ h => by cases h; rfl
theorem fwX3_15 : jFW 3 15 := fun _ _ _ h => by cases h; rfl
theorem fwX3_16 : jFW 3 16 := fun _ _ _ h => by cases h; rfl
theorem fwX3_17 : jFW 3 17 := fun _ _ _ h => by cases h; rfl
theorem fwX4_3 : jFW 4 3 := fun _ _ _ h => by cases h; rfl
theorem fwX4_4 : jFW 4 4 := fun _ _ _ h => by cases h; rfl
theorem fwX4_8 : jFW 4 8 := fun _ _ _ h => by cases h; rfl
theorem fwX4_9 : jFW 4 9 := fun _ _ _ h => by cases h; rfl
theorem fwX4_10 : jFW 4 10 := fun _ _ _ h => by cases h; rfl
theorem fwX4_11 : jFW 4 11 := fun _ _ _ h => by cases h; rfl
theorem fwX4_12 : jFW 4 12 := fun _ _ _ h => by cases h; rfl
theorem fwX4_13 : jFW 4 13 := fun _ _ _ h => by cases h; rfl
theorem fwX4_14 : jFW 4 14 := fun _ _ _ h => by cases h; rfl
theorem fwX4_18 : jFW 4 18 := fun _ _ _ h => by cases h; rfl
theorem fwX4_21 : jFW 4 21 := fun _ _ _ h => by cases h; rfl
theorem fwX4_25 : jFW 4 25 := fun _ _ _ h => by cases h; rfl
set_option maxRecDepth 100000 in
theorem cd_mX3_row : Cond.code yX3_row cX3_row 4 (some .int) ∈ wsL_law := List.mem_of_getElem? (i := 98) rfl
set_option maxRecDepth 100000 in
theorem cd_mX3_isNot : Cond.code yX3_isNot cX3_isNot 2 (some .boolean) ∈ wsL_law := List.mem_of_getElem? (i := 102) rfl
set_option maxRecDepth 100000 in
theorem cd_mX3_found : Cond.code yX3_found cX3_found 2 (some .int) ∈ wsL_law := List.mem_of_getElem? (i := 106) rfl
set_option maxRecDepth 100000 in
theorem cd_mX1_begin : Cond.code yX1_begin cX1_begin 3 none ∈ wsL_law := List.mem_of_getElem? (i := 111) rfl
set_option maxRecDepth 100000 in
theorem cd_mArr_fill : Cond.code yJ7_fill_53178 cJ7_fill_53178 4 none ∈ wsL_law := List.mem_of_getElem? (i := 115) rfl
set_option maxRecDepth 100000 in
theorem cd_mX3_fine : Cond.code yX3_fine cX3_fine 2 (some .int) ∈ wsL_law := List.mem_of_getElem? (i := 119) rfl
set_option maxRecDepth 100000 in
theorem cd_mX4_row : Cond.code yX4_row cX4_row 5 (some .int) ∈ wsL_law := List.mem_of_getElem? (i := 123) rfl
set_option maxRecDepth 100000 in
theorem cd_mX4_isRow : Cond.code yX4_isRow cX4_isRow 1 (some .boolean) ∈ wsL_law := List.mem_of_getElem? (i := 128) rfl
set_option maxRecDepth 100000 in
theorem cd_mX4_in : Cond.code yX4_in cX4_in 6 (some .boolean) ∈ wsL_law := List.mem_of_getElem? (i := 132) rfl
set_option maxRecDepth 100000 in
theorem cd_mX4_find : Cond.code yX4_find cX4_find 2 (some .int) ∈ wsL_law := List.mem_of_getElem? (i := 136) rfl
set_option maxRecDepth 100000 in
theorem cd_mX4_well : Cond.code yX4_well cX4_well 2 (some .int) ∈ wsL_law := List.mem_of_getElem? (i := 142) rfl
set_option maxRecDepth 100000 in
theorem cd_mX3_set : Cond.code yX3_set cX3_set 5 (some .int) ∈ wsL_law := List.mem_of_getElem? (i := 146) rfl
set_option maxRecDepth 100000 in
theorem cd_mX1_reaches : Cond.code yX1_reaches cX1_reaches 3 (some .boolean) ∈ wsL_law := List.mem_of_getElem? (i := 152) rfl
set_option maxRecDepth 100000 in
theorem cd_mX1_cut : Cond.code yX1_cut cX1_cut 2 (some .int) ∈ wsL_law := List.mem_of_getElem? (i := 156) rfl
set_option maxRecDepth 100000 in
theorem cd_mX4_set : Cond.code yX4_set cX4_set 4 (some .int) ∈ wsL_law := List.mem_of_getElem? (i := 160) rfl
set_option maxRecDepth 100000 in
theorem cd_mX4_asLane : Cond.code yX4_asLane cX4_asLane 2 (some .int) ∈ wsL_law := List.mem_of_getElem? (i := 163) rfl
set_option maxRecDepth 100000 in
theorem cd_mX3_copy : Cond.code yX3_copy cX3_copy 8 (some .int) ∈ wsL_law := List.mem_of_getElem? (i := 167) rfl
set_option maxRecDepth 100000 in
theorem cd_mX4_copy : Cond.code yX4_copy cX4_copy 7 (some .int) ∈ wsL_law := List.mem_of_getElem? (i := 176) rfl
set_option maxRecDepth 100000 in
theorem cd_mX3_drop : Cond.code yX3_drop cX3_drop 3 (some .int) ∈ wsL_law := List.mem_of_getElem? (i := 180) rfl
set_option maxRecDepth 100000 in
theorem cd_mX4_drop : Cond.code yX4_drop cX4_drop 3 (some .int) ∈ wsL_law := List.mem_of_getElem? (i := 185) rfl
set_option maxRecDepth 100000 in
theorem cd_mX3_feed : Cond.code yX3_feed cX3_feed 2 (some .int) ∈ wsL_law := List.mem_of_getElem? (i := 189) rfl
set_option maxRecDepth 100000 in
theorem cd_mX4_feed : Cond.code yX4_feed cX4_feed 2 (some .int) ∈ wsL_law := List.mem_of_getElem? (i := 196) rfl
set_option maxRecDepth 100000 in
theorem cd_mX3_kitchen : Cond.code yX3_kitchen cX3_kitchen 1 (some .int) ∈ wsL_law := List.mem_of_getElem? (i := 203) rfl
set_option maxRecDepth 100000 in
theorem cd_mX2_readInto : Cond.code yX2_readInto cX2_readInto 3 none ∈ wsL_law := List.mem_of_getElem? (i := 211) rfl
set_option maxRecDepth 100000 in
theorem cd_mX0_begin : Cond.code yX0_begin cX0_begin 1 none ∈ wsL_law := List.mem_of_getElem? (i := 216) rfl
set_option maxRecDepth 100000 in
theorem cd_mX2_step : Cond.code yX2_step cX2_step 3 none ∈ wsL_law := List.mem_of_getElem? (i := 222) rfl
set_option maxRecDepth 100000 in
theorem cd_mX2_isFigure : Cond.code yX2_isFigure cX2_isFigure 1 (some .boolean) ∈ wsL_law := List.mem_of_getElem? (i := 225) rfl
set_option maxRecDepth 100000 in
theorem cd_mX2_stepNumber : Cond.code yX2_stepNumber cX2_stepNumber 1 none ∈ wsL_law := List.mem_of_getElem? (i := 229) rfl
set_option maxRecDepth 100000 in
theorem cd_mMath_min : Cond.code Lib.Math.min.name Lib.Math.min.code 2 (some .int) ∈ wsL_law := List.mem_of_getElem? (i := 233) rfl
set_option maxRecDepth 100000 in
theorem cd_mX2_take : Cond.code yX2_take cX2_take 2 none ∈ wsL_law := List.mem_of_getElem? (i := 237) rfl
set_option maxRecDepth 100000 in
theorem cd_mX2_takeNumber : Cond.code yX2_takeNumber cX2_takeNumber 4 (some .int) ∈ wsL_law := List.mem_of_getElem? (i := 241) rfl
set_option maxRecDepth 100000 in
theorem cd_mX2_readSinger : Cond.code yX2_readSinger cX2_readSinger 3 none ∈ wsL_law := List.mem_of_getElem? (i := 245) rfl
set_option maxRecDepth 100000 in
theorem cd_mX2_kindOf : Cond.code yX2_kindOf cX2_kindOf 1 (some .int) ∈ wsL_law := List.mem_of_getElem? (i := 252) rfl
set_option maxRecDepth 100000 in
theorem cd_mX2_readPan : Cond.code yX2_readPan cX2_readPan 3 none ∈ wsL_law := List.mem_of_getElem? (i := 256) rfl
set_option maxRecDepth 100000 in
theorem cd_mX0_takeFrom : Cond.code yX0_takeFrom cX0_takeFrom 2 none ∈ wsL_law := List.mem_of_getElem? (i := 265) rfl
set_option maxRecDepth 100000 in
theorem cd_mX4_kitchen : Cond.code yX4_kitchen cX4_kitchen 3 (some .int) ∈ wsL_law := List.mem_of_getElem? (i := 270) rfl
set_option maxRecDepth 100000 in
theorem cd_mX4_readKitchen : Cond.code yX4_readKitchen cX4_readKitchen 3 (some .boolean) ∈ wsL_law := List.mem_of_getElem? (i := 280) rfl
set_option maxRecDepth 100000 in
theorem cd_mX4_nextToken : Cond.code yX4_nextToken cX4_nextToken 1 none ∈ wsL_law := List.mem_of_getElem? (i := 286) rfl
set_option maxRecDepth 100000 in
theorem cd_mX4_takes : Cond.code yX4_takes cX4_takes 2 (some .boolean) ∈ wsL_law := List.mem_of_getElem? (i := 295) rfl
set_option maxRecDepth 100000 in
theorem cd_mX4_isLetter : Cond.code yX4_isLetter cX4_isLetter 2 (some .boolean) ∈ wsL_law := List.mem_of_getElem? (i := 299) rfl
set_option maxRecDepth 100000 in
theorem cd_mX4_faults : Cond.code yX4_faults cX4_faults 2 (some .boolean) ∈ wsL_law := List.mem_of_getElem? (i := 303) rfl
set_option maxRecDepth 100000 in
theorem cd_mX4_takesNumber : Cond.code yX4_takesNumber cX4_takesNumber 5 (some .boolean) ∈ wsL_law := List.mem_of_getElem? (i := 307) rfl
set_option maxRecDepth 100000 in
theorem cd_mX4_readPan : Cond.code yX4_readPan cX4_readPan 3 (some .boolean) ∈ wsL_law := List.mem_of_getElem? (i := 311) rfl
set_option maxRecDepth 100000 in
theorem cd_mX4_readSinger : Cond.code yX4_readSinger cX4_readSinger 2 (some .boolean) ∈ wsL_law := List.mem_of_getElem? (i := 316) rfl
set_option maxRecDepth 100000 in
theorem cd_mX3_fault : Cond.code yX3_fault cX3_fault 1 (some .int) ∈ wsL_law := List.mem_of_getElem? (i := 320) rfl
set_option maxRecDepth 100000 in
theorem cd_mX4_fault : Cond.code yX4_fault cX4_fault 1 (some .int) ∈ wsL_law := List.mem_of_getElem? (i := 324) rfl
set_option maxRecDepth 100000 in
theorem cd_mX3_bar : Cond.code yX3_bar cX3_bar 5 (some .int) ∈ wsL_law := List.mem_of_getElem? (i := 328) rfl
set_option maxRecDepth 100000 in
theorem cd_mX0_can : Cond.code yX0_can cX0_can 3 (some .boolean) ∈ wsL_law := List.mem_of_getElem? (i := 335) rfl
set_option maxRecDepth 100000 in
theorem cd_mX3_keepAct : Cond.code yX3_keepAct cX3_keepAct 1 none ∈ wsL_law := List.mem_of_getElem? (i := 339) rfl
set_option maxRecDepth 100000 in
theorem cd_mX0_keep : Cond.code yX0_keep cX0_keep 2 none ∈ wsL_law := List.mem_of_getElem? (i := 344) rfl
set_option maxRecDepth 100000 in
theorem cd_mX0_singBar : Cond.code yX0_singBar cX0_singBar 3 none ∈ wsL_law := List.mem_of_getElem? (i := 348) rfl
set_option maxRecDepth 100000 in
theorem cd_mX0_isSet : Cond.code yX0_isSet cX0_isSet 2 (some .boolean) ∈ wsL_law := List.mem_of_getElem? (i := 352) rfl
set_option maxRecDepth 100000 in
theorem cd_mX0_hear : Cond.code yX0_hear cX0_hear 5 none ∈ wsL_law := List.mem_of_getElem? (i := 356) rfl
set_option maxRecDepth 100000 in
theorem cd_mInt_numberOfTrailingZeros : Cond.code yJ6_numberOfTrailingZeros_0f7a4 cJ6_numberOfTrailingZeros_0f7a4 2 (some .int) ∈ wsL_law := List.mem_of_getElem? (i := 360) rfl
set_option maxRecDepth 100000 in
theorem cd_mX0_judge : Cond.code yX0_judge cX0_judge 5 (some .int) ∈ wsL_law := List.mem_of_getElem? (i := 365) rfl
set_option maxRecDepth 100000 in
theorem cd_mMath_abs : Cond.code Lib.Math.abs.name Lib.Math.abs.code 1 (some .int) ∈ wsL_law := List.mem_of_getElem? (i := 368) rfl
set_option maxRecDepth 100000 in
theorem cd_mX0_thickBy : Cond.code yX0_thickBy cX0_thickBy 3 (some .int) ∈ wsL_law := List.mem_of_getElem? (i := 372) rfl
set_option maxRecDepth 100000 in
theorem cd_mMath_max : Cond.code Lib.Math.max.name Lib.Math.max.code 2 (some .int) ∈ wsL_law := List.mem_of_getElem? (i := 375) rfl
set_option maxRecDepth 100000 in
theorem cd_mX0_setPans : Cond.code yX0_setPans cX0_setPans 3 (some .int) ∈ wsL_law := List.mem_of_getElem? (i := 379) rfl
set_option maxRecDepth 100000 in
theorem cd_mX4_bar : Cond.code yX4_bar cX4_bar 6 (some .int) ∈ wsL_law := List.mem_of_getElem? (i := 383) rfl
set_option maxRecDepth 100000 in
theorem cd_mX4_canSing : Cond.code yX4_canSing cX4_canSing 3 (some .boolean) ∈ wsL_law := List.mem_of_getElem? (i := 388) rfl
set_option maxRecDepth 100000 in
theorem cd_mX4_note : Cond.code yX4_note cX4_note 2 none ∈ wsL_law := List.mem_of_getElem? (i := 392) rfl
set_option maxRecDepth 100000 in
theorem cd_mX4_oneBar : Cond.code yX4_oneBar cX4_oneBar 2 none ∈ wsL_law := List.mem_of_getElem? (i := 396) rfl
set_option maxRecDepth 100000 in
theorem cd_mX4_panHears : Cond.code yX4_panHears cX4_panHears 7 none ∈ wsL_law := List.mem_of_getElem? (i := 400) rfl
set_option maxRecDepth 100000 in
theorem cd_mX4_has : Cond.code yX4_has cX4_has 2 (some .boolean) ∈ wsL_law := List.mem_of_getElem? (i := 403) rfl
set_option maxRecDepth 100000 in
theorem cd_mX4_setPans : Cond.code yX4_setPans cX4_setPans 3 (some .int) ∈ wsL_law := List.mem_of_getElem? (i := 407) rfl
set_option maxRecDepth 100000 in
theorem cd_mX3_window : Cond.code yX3_window cX3_window 4 (some .int) ∈ wsL_law := List.mem_of_getElem? (i := 411) rfl
set_option maxRecDepth 100000 in
theorem cd_mX4_window : Cond.code yX4_window cX4_window 4 (some .int) ∈ wsL_law := List.mem_of_getElem? (i := 416) rfl
set_option maxRecDepth 100000 in
theorem cd_mX4_isPan : Cond.code yX4_isPan cX4_isPan 2 (some .boolean) ∈ wsL_law := List.mem_of_getElem? (i := 420) rfl
set_option maxRecDepth 100000 in
theorem cd_mX4_isSinger : Cond.code yX4_isSinger cX4_isSinger 2 (some .boolean) ∈ wsL_law := List.mem_of_getElem? (i := 424) rfl
set_option maxRecDepth 100000 in
theorem cd_mX3_undo : Cond.code yX3_undo cX3_undo 1 (some .int) ∈ wsL_law := List.mem_of_getElem? (i := 428) rfl
set_option maxRecDepth 100000 in
theorem cd_mX0_bring : Cond.code yX0_bring cX0_bring 2 none ∈ wsL_law := List.mem_of_getElem? (i := 432) rfl
set_option maxRecDepth 100000 in
theorem cd_mX4_undo : Cond.code yX4_undo cX4_undo 2 (some .int) ∈ wsL_law := List.mem_of_getElem? (i := 436) rfl
set_option maxRecDepth 100000 in
theorem cd_mX3_pan : Cond.code yX3_pan cX3_pan 3 (some .int) ∈ wsL_law := List.mem_of_getElem? (i := 440) rfl
set_option maxRecDepth 100000 in
theorem cd_mX4_pan : Cond.code yX4_pan cX4_pan 3 (some .int) ∈ wsL_law := List.mem_of_getElem? (i := 449) rfl
set_option maxRecDepth 100000 in
theorem cd_mX3_singer : Cond.code yX3_singer cX3_singer 3 (some .int) ∈ wsL_law := List.mem_of_getElem? (i := 453) rfl
set_option maxRecDepth 100000 in
theorem cd_mX4_singer : Cond.code yX4_singer cX4_singer 3 (some .int) ∈ wsL_law := List.mem_of_getElem? (i := 461) rfl
set_option maxRecDepth 100000 in
theorem cd_mX3_alone : Cond.code yX3_alone cX3_alone 6 (some .int) ∈ wsL_law := List.mem_of_getElem? (i := 465) rfl
set_option maxRecDepth 100000 in
theorem cd_mX3_takeTune : Cond.code yX3_takeTune cX3_takeTune 5 (some .int) ∈ wsL_law := List.mem_of_getElem? (i := 469) rfl
set_option maxRecDepth 100000 in
theorem cd_mX3_trySolo : Cond.code yX3_trySolo cX3_trySolo 5 none ∈ wsL_law := List.mem_of_getElem? (i := 473) rfl
set_option maxRecDepth 100000 in
theorem cd_mX0_tryBar : Cond.code yX0_tryBar cX0_tryBar 3 none ∈ wsL_law := List.mem_of_getElem? (i := 478) rfl
set_option maxRecDepth 100000 in
theorem cd_mX4_alone : Cond.code yX4_alone cX4_alone 7 (some .int) ∈ wsL_law := List.mem_of_getElem? (i := 484) rfl
set_option maxRecDepth 100000 in
theorem cd_mX4_lacks : Cond.code yX4_lacks cX4_lacks 6 (some .int) ∈ wsL_law := List.mem_of_getElem? (i := 489) rfl
set_option maxRecDepth 100000 in
theorem cd_mX4_putAside : Cond.code yX4_putAside cX4_putAside 2 none ∈ wsL_law := List.mem_of_getElem? (i := 493) rfl
set_option maxRecDepth 100000 in
theorem cd_mX4_singAlone : Cond.code yX4_singAlone cX4_singAlone 7 none ∈ wsL_law := List.mem_of_getElem? (i := 497) rfl
set_option maxRecDepth 100000 in
theorem cd_mX4_allRest : Cond.code yX4_allRest cX4_allRest 2 none ∈ wsL_law := List.mem_of_getElem? (i := 501) rfl
set_option maxRecDepth 100000 in
theorem cd_mX4_takeBack : Cond.code yX4_takeBack cX4_takeBack 2 none ∈ wsL_law := List.mem_of_getElem? (i := 505) rfl
set_option maxRecDepth 100000 in
theorem cd_mX3_round : Cond.code yX3_round cX3_round 6 (some .int) ∈ wsL_law := List.mem_of_getElem? (i := 509) rfl
set_option maxRecDepth 100000 in
theorem cd_mX3_tryRound : Cond.code yX3_tryRound cX3_tryRound 7 none ∈ wsL_law := List.mem_of_getElem? (i := 513) rfl
set_option maxRecDepth 100000 in
theorem cd_mX4_round : Cond.code yX4_round cX4_round 7 (some .int) ∈ wsL_law := List.mem_of_getElem? (i := 517) rfl
set_option maxRecDepth 100000 in
theorem cd_mX4_singRound : Cond.code yX4_singRound cX4_singRound 9 none ∈ wsL_law := List.mem_of_getElem? (i := 522) rfl
set_option maxRecDepth 100000 in
theorem cd_mX3_bestRound : Cond.code yX3_bestRound cX3_bestRound 10 (some .int) ∈ wsL_law := List.mem_of_getElem? (i := 526) rfl
set_option maxRecDepth 100000 in
theorem cd_mInt_bitCount : Cond.code yJ6_bitCount_0f7a4 cJ6_bitCount_0f7a4 1 (some .int) ∈ wsL_law := List.mem_of_getElem? (i := 529) rfl
set_option maxRecDepth 100000 in
theorem cd_mX4_bestRound : Cond.code yX4_bestRound cX4_bestRound 10 (some .int) ∈ wsL_law := List.mem_of_getElem? (i := 536) rfl
set_option maxRecDepth 100000 in
theorem cd_mX4_ones : Cond.code yX4_ones cX4_ones 3 (some .int) ∈ wsL_law := List.mem_of_getElem? (i := 539) rfl
set_option maxRecDepth 100000 in
theorem cd_mX3_song : Cond.code yX3_song cX3_song 4 (some .int) ∈ wsL_law := List.mem_of_getElem? (i := 543) rfl
set_option maxRecDepth 100000 in
theorem cd_mX3_seekSong : Cond.code yX3_seekSong cX3_seekSong 6 none ∈ wsL_law := List.mem_of_getElem? (i := 547) rfl
set_option maxRecDepth 100000 in
theorem cd_mX3_trySong : Cond.code yX3_trySong cX3_trySong 7 (some .int) ∈ wsL_law := List.mem_of_getElem? (i := 551) rfl
set_option maxRecDepth 100000 in
theorem cd_mX3_noteOf : Cond.code yX3_noteOf cX3_noteOf 3 (some .int) ∈ wsL_law := List.mem_of_getElem? (i := 555) rfl
set_option maxRecDepth 100000 in
theorem cd_mX3_weighSong : Cond.code yX3_weighSong cX3_weighSong 6 none ∈ wsL_law := List.mem_of_getElem? (i := 559) rfl
set_option maxRecDepth 100000 in
theorem cd_mX4_song : Cond.code yX4_song cX4_song 10 (some .int) ∈ wsL_law := List.mem_of_getElem? (i := 563) rfl
set_option maxRecDepth 100000 in
theorem cd_mX4_singsRow : Cond.code yX4_singsRow cX4_singsRow 5 (some .boolean) ∈ wsL_law := List.mem_of_getElem? (i := 570) rfl
set_option maxRecDepth 100000 in
theorem cd_mX3_toShut : Cond.code yX3_toShut cX3_toShut 12 (some .int) ∈ wsL_law := List.mem_of_getElem? (i := 574) rfl
set_option maxRecDepth 100000 in
theorem cd_mX3_setsWithout : Cond.code yX3_setsWithout cX3_setsWithout 5 (some .boolean) ∈ wsL_law := List.mem_of_getElem? (i := 579) rfl
set_option maxRecDepth 100000 in
theorem cd_mX4_toShut : Cond.code yX4_toShut cX4_toShut 11 (some .int) ∈ wsL_law := List.mem_of_getElem? (i := 583) rfl
set_option maxRecDepth 100000 in
theorem cd_mX3_modes : Cond.code yX3_modes cX3_modes 12 (some .int) ∈ wsL_law := List.mem_of_getElem? (i := 587) rfl
set_option maxRecDepth 100000 in
theorem cd_mX4_modes : Cond.code yX4_modes cX4_modes 13 (some .int) ∈ wsL_law := List.mem_of_getElem? (i := 591) rfl
set_option maxRecDepth 100000 in
theorem cd_mX3_coughs : Cond.code yX3_coughs cX3_coughs 12 (some .int) ∈ wsL_law := List.mem_of_getElem? (i := 596) rfl
set_option maxRecDepth 100000 in
theorem cd_mX3_weightOf : Cond.code yX3_weightOf cX3_weightOf 4 (some .int) ∈ wsL_law := List.mem_of_getElem? (i := 599) rfl
set_option maxRecDepth 100000 in
theorem cd_mX3_power : Cond.code yX3_power cX3_power 4 (some .int) ∈ wsL_law := List.mem_of_getElem? (i := 602) rfl
set_option maxRecDepth 100000 in
theorem cd_mX3_commonDivisor : Cond.code yX3_commonDivisor cX3_commonDivisor 6 (some .int) ∈ wsL_law := List.mem_of_getElem? (i := 605) rfl
set_option maxRecDepth 100000 in
theorem cd_mX4_coughs : Cond.code yX4_coughs cX4_coughs 14 (some .int) ∈ wsL_law := List.mem_of_getElem? (i := 610) rfl
set_option maxRecDepth 100000 in
theorem cd_mX3_image : Cond.code yX3_image cX3_image 2 (some .int) ∈ wsL_law := List.mem_of_getElem? (i := 615) rfl
set_option maxRecDepth 100000 in
theorem cd_mX4_image : Cond.code yX4_image cX4_image 3 (some .int) ∈ wsL_law := List.mem_of_getElem? (i := 619) rfl
set_option maxRecDepth 100000 in
theorem cd_mX3_restore : Cond.code yX3_restore cX3_restore 2 (some .int) ∈ wsL_law := List.mem_of_getElem? (i := 623) rfl
set_option maxRecDepth 100000 in
theorem cd_mX4_restore : Cond.code yX4_restore cX4_restore 3 (some .int) ∈ wsL_law := List.mem_of_getElem? (i := 627) rfl
set_option maxRecDepth 100000 in
theorem cd_mX3_kind : Cond.code yX3_kind cX3_kind 2 (some .int) ∈ wsL_law := List.mem_of_getElem? (i := 631) rfl
set_option maxRecDepth 100000 in
theorem cd_mX4_kind : Cond.code yX4_kind cX4_kind 2 (some .int) ∈ wsL_law := List.mem_of_getElem? (i := 636) rfl
set_option maxRecDepth 100000 in
theorem cd_mX3_as : Cond.code yX3_as cX3_as 3 (some .int) ∈ wsL_law := List.mem_of_getElem? (i := 640) rfl
set_option maxRecDepth 100000 in
theorem cd_mX3_isOf : Cond.code yX3_isOf cX3_isOf 4 (some .boolean) ∈ wsL_law := List.mem_of_getElem? (i := 643) rfl
set_option maxRecDepth 100000 in
theorem cd_mX4_as : Cond.code yX4_as cX4_as 3 (some .int) ∈ wsL_law := List.mem_of_getElem? (i := 648) rfl
set_option maxRecDepth 100000 in
theorem cd_mX4_isKind : Cond.code yX4_isKind cX4_isKind 2 (some .boolean) ∈ wsL_law := List.mem_of_getElem? (i := 652) rfl
set_option maxRecDepth 100000 in
theorem cd_mX3_ask : Cond.code yX3_ask cX3_ask 4 (some .int) ∈ wsL_law := List.mem_of_getElem? (i := 656) rfl
set_option maxRecDepth 100000 in
theorem cd_mX3_sizeOfPlums : Cond.code yX3_sizeOfPlums cX3_sizeOfPlums 2 (some .int) ∈ wsL_law := List.mem_of_getElem? (i := 660) rfl
set_option maxRecDepth 100000 in
theorem cd_mX3_leave : Cond.code yX3_leave cX3_leave 2 none ∈ wsL_law := List.mem_of_getElem? (i := 664) rfl
set_option maxRecDepth 100000 in
theorem cd_mX3_plumSize : Cond.code yX3_plumSize cX3_plumSize 3 (some .int) ∈ wsL_law := List.mem_of_getElem? (i := 668) rfl
set_option maxRecDepth 100000 in
theorem cd_mX3_lentSize : Cond.code yX3_lentSize cX3_lentSize 2 (some .int) ∈ wsL_law := List.mem_of_getElem? (i := 672) rfl
set_option maxRecDepth 100000 in
theorem cd_mX3_markOfPlums : Cond.code yX3_markOfPlums cX3_markOfPlums 2 (some .int) ∈ wsL_law := List.mem_of_getElem? (i := 676) rfl
set_option maxRecDepth 100000 in
theorem cd_mX3_plumMark : Cond.code yX3_plumMark cX3_plumMark 2 (some .int) ∈ wsL_law := List.mem_of_getElem? (i := 680) rfl
set_option maxRecDepth 100000 in
theorem cd_mX3_lentMark : Cond.code yX3_lentMark cX3_lentMark 2 (some .int) ∈ wsL_law := List.mem_of_getElem? (i := 684) rfl
set_option maxRecDepth 100000 in
theorem cd_mX3_sizeOfMarrows : Cond.code yX3_sizeOfMarrows cX3_sizeOfMarrows 2 (some .int) ∈ wsL_law := List.mem_of_getElem? (i := 688) rfl
set_option maxRecDepth 100000 in
theorem cd_mX3_marrowSize : Cond.code yX3_marrowSize cX3_marrowSize 2 (some .int) ∈ wsL_law := List.mem_of_getElem? (i := 692) rfl
set_option maxRecDepth 100000 in
theorem cd_mX3_markOfMarrows : Cond.code yX3_markOfMarrows cX3_markOfMarrows 3 (some .int) ∈ wsL_law := List.mem_of_getElem? (i := 696) rfl
set_option maxRecDepth 100000 in
theorem cd_mX4_ask : Cond.code yX4_ask cX4_ask 3 (some .int) ∈ wsL_law := List.mem_of_getElem? (i := 700) rfl
set_option maxRecDepth 100000 in
theorem cd_mX4_sizeOf : Cond.code yX4_sizeOf cX4_sizeOf 3 (some .int) ∈ wsL_law := List.mem_of_getElem? (i := 705) rfl
set_option maxRecDepth 100000 in
theorem cd_mX4_begin : Cond.code yX4_begin cX4_begin 2 none ∈ wsL_law := List.mem_of_getElem? (i := 709) rfl
set_option maxRecDepth 100000 in
theorem cd_mX4_plumSize : Cond.code yX4_plumSize cX4_plumSize 3 (some .int) ∈ wsL_law := List.mem_of_getElem? (i := 713) rfl
set_option maxRecDepth 100000 in
theorem cd_mX4_lent : Cond.code yX4_lent cX4_lent 3 (some .int) ∈ wsL_law := List.mem_of_getElem? (i := 717) rfl
set_option maxRecDepth 100000 in
theorem cd_mX4_markOf : Cond.code yX4_markOf cX4_markOf 4 (some .int) ∈ wsL_law := List.mem_of_getElem? (i := 721) rfl
set_option maxRecDepth 100000 in
theorem cd_mX4_plumMark : Cond.code yX4_plumMark cX4_plumMark 2 (some .int) ∈ wsL_law := List.mem_of_getElem? (i := 725) rfl
set_option maxRecDepth 100000 in
theorem cd_mX4_sizeOfMarrow : Cond.code yX4_sizeOfMarrow cX4_sizeOfMarrow 2 (some .int) ∈ wsL_law := List.mem_of_getElem? (i := 729) rfl
set_option maxRecDepth 100000 in
theorem cd_mX4_marrowSize : Cond.code yX4_marrowSize cX4_marrowSize 2 (some .int) ∈ wsL_law := List.mem_of_getElem? (i := 733) rfl
set_option maxRecDepth 100000 in
theorem cd_mX3_trace : Cond.code yX3_trace cX3_trace 2 (some .int) ∈ wsL_law := List.mem_of_getElem? (i := 737) rfl
set_option maxRecDepth 100000 in
theorem cd_mX4_trace : Cond.code yX4_trace cX4_trace 2 (some .int) ∈ wsL_law := List.mem_of_getElem? (i := 741) rfl
set_option maxRecDepth 100000 in
theorem cd_mX3_count : Cond.code yX3_count cX3_count 2 (some .int) ∈ wsL_law := List.mem_of_getElem? (i := 745) rfl
set_option maxRecDepth 100000 in
theorem cd_mX3_rowsThere : Cond.code yX3_rowsThere cX3_rowsThere 3 (some .int) ∈ wsL_law := List.mem_of_getElem? (i := 751) rfl
set_option maxRecDepth 100000 in
theorem cd_mX4_count : Cond.code yX4_count cX4_count 4 (some .int) ∈ wsL_law := List.mem_of_getElem? (i := 755) rfl
set_option maxRecDepth 100000 in
theorem cd_mX3_status : Cond.code yX3_status cX3_status 1 (some .int) ∈ wsL_law := List.mem_of_getElem? (i := 759) rfl
set_option maxRecDepth 100000 in
theorem cd_mX4_status : Cond.code yX4_status cX4_status 1 (some .int) ∈ wsL_law := List.mem_of_getElem? (i := 763) rfl
theorem ckX3_80 : jCS RX3 80 mX3_isNot := ⟨List.mem_of_getElem? (i := 100) (by decide +kernel), List.mem_of_getElem? (i := 101) (by decide +kernel), List.mem_of_getElem? (i := 2) (by decide +kernel), cd_mX3_isNot⟩
theorem ckX3_85 : jCV RX3 85 mX3_found := ⟨List.mem_of_getElem? (i := 103) (by decide +kernel), List.mem_of_getElem? (i := 104) (by decide +kernel), List.mem_of_getElem? (i := 105) (by decide +kernel), List.mem_of_getElem? (i := 2) (by decide +kernel), cd_mX3_found⟩
theorem ckX3_89 : jCV RX3 89 mX1_begin := ⟨List.mem_of_getElem? (i := 108) (by decide +kernel), List.mem_of_getElem? (i := 109) (by decide +kernel), List.mem_of_getElem? (i := 110) (by decide +kernel), List.mem_of_getElem? (i := 40) (by decide +kernel), cd_mX1_begin⟩
theorem ckX1_26 : jCS RX1 26 mArr_fill := ⟨List.mem_of_getElem? (i := 112) (by decide +kernel), List.mem_of_getElem? (i := 113) (by decide +kernel), List.mem_of_getElem? (i := 114) (by decide +kernel), cd_mArr_fill⟩
theorem ckX3_93 : jCV RX3 93 mX3_fine := ⟨List.mem_of_getElem? (i := 116) (by decide +kernel), List.mem_of_getElem? (i := 117) (by decide +kernel), List.mem_of_getElem? (i := 118) (by decide +kernel), List.mem_of_getElem? (i := 2) (by decide +kernel), cd_mX3_fine⟩
theorem ckX4_64 : jCS RX4 64 mX4_isRow := ⟨List.mem_of_getElem? (i := 126) (by decide +kernel), List.mem_of_getElem? (i := 127) (by decide +kernel), List.mem_of_getElem? (i := 5) (by decide +kernel), cd_mX4_isRow⟩
theorem ckX4_60 : jCS RX4 60 mX4_in := ⟨List.mem_of_getElem? (i := 130) (by decide +kernel), List.mem_of_getElem? (i := 131) (by decide +kernel), List.mem_of_getElem? (i := 5) (by decide +kernel), cd_mX4_in⟩
theorem ckX4_71 : jCV RX4 71 mX4_find := ⟨List.mem_of_getElem? (i := 133) (by decide +kernel), List.mem_of_getElem? (i := 134) (by decide +kernel), List.mem_of_getElem? (i := 135) (by decide +kernel), List.mem_of_getElem? (i := 5) (by decide +kernel), cd_mX4_find⟩
theorem ckX4_75 : jCV RX4 75 mX4_well := ⟨List.mem_of_getElem? (i := 139) (by decide +kernel), List.mem_of_getElem? (i := 140) (by decide +kernel), List.mem_of_getElem? (i := 141) (by decide +kernel), List.mem_of_getElem? (i := 5) (by decide +kernel), cd_mX4_well⟩
theorem ckX3_100 : jCV RX3 100 mX1_reaches := ⟨List.mem_of_getElem? (i := 149) (by decide +kernel), List.mem_of_getElem? (i := 150) (by decide +kernel), List.mem_of_getElem? (i := 151) (by decide +kernel), List.mem_of_getElem? (i := 40) (by decide +kernel), cd_mX1_reaches⟩
theorem ckX3_106 : jCV RX3 106 mX1_cut := ⟨List.mem_of_getElem? (i := 153) (by decide +kernel), List.mem_of_getElem? (i := 154) (by decide +kernel), List.mem_of_getElem? (i := 155) (by decide +kernel), List.mem_of_getElem? (i := 40) (by decide +kernel), cd_mX1_cut⟩
theorem ckX4_78 : jCS RX4 78 mX4_asLane := ⟨List.mem_of_getElem? (i := 161) (by decide +kernel), List.mem_of_getElem? (i := 162) (by decide +kernel), List.mem_of_getElem? (i := 5) (by decide +kernel), cd_mX4_asLane⟩
theorem ckX3_126 : jCV RX3 126 mX2_readInto := ⟨List.mem_of_getElem? (i := 208) (by decide +kernel), List.mem_of_getElem? (i := 209) (by decide +kernel), List.mem_of_getElem? (i := 210) (by decide +kernel), List.mem_of_getElem? (i := 16) (by decide +kernel), cd_mX2_readInto⟩
theorem ckX2_34 : jCV RX2 34 mX0_begin := ⟨List.mem_of_getElem? (i := 213) (by decide +kernel), List.mem_of_getElem? (i := 214) (by decide +kernel), List.mem_of_getElem? (i := 215) (by decide +kernel), List.mem_of_getElem? (i := 20) (by decide +kernel), cd_mX0_begin⟩
theorem ckX0_59 : jCS RX0 59 mArr_fill := ⟨List.mem_of_getElem? (i := 218) (by decide +kernel), List.mem_of_getElem? (i := 113) (by decide +kernel), List.mem_of_getElem? (i := 114) (by decide +kernel), cd_mArr_fill⟩
theorem ckX2_39 : jCV RX2 39 mX2_step := ⟨List.mem_of_getElem? (i := 219) (by decide +kernel), List.mem_of_getElem? (i := 220) (by decide +kernel), List.mem_of_getElem? (i := 221) (by decide +kernel), List.mem_of_getElem? (i := 16) (by decide +kernel), cd_mX2_step⟩
theorem ckX2_91 : jCS RX2 91 mX2_isFigure := ⟨List.mem_of_getElem? (i := 223) (by decide +kernel), List.mem_of_getElem? (i := 224) (by decide +kernel), List.mem_of_getElem? (i := 16) (by decide +kernel), cd_mX2_isFigure⟩
theorem ckX2_95 : jCV RX2 95 mX2_stepNumber := ⟨List.mem_of_getElem? (i := 226) (by decide +kernel), List.mem_of_getElem? (i := 227) (by decide +kernel), List.mem_of_getElem? (i := 228) (by decide +kernel), List.mem_of_getElem? (i := 16) (by decide +kernel), cd_mX2_stepNumber⟩
theorem ckX2_98 : jCS RX2 98 mMath_min := ⟨List.mem_of_getElem? (i := 230) (by decide +kernel), List.mem_of_getElem? (i := 231) (by decide +kernel), List.mem_of_getElem? (i := 232) (by decide +kernel), cd_mMath_min⟩
theorem ckX2_42 : jCV RX2 42 mX2_take := ⟨List.mem_of_getElem? (i := 234) (by decide +kernel), List.mem_of_getElem? (i := 235) (by decide +kernel), List.mem_of_getElem? (i := 236) (by decide +kernel), List.mem_of_getElem? (i := 16) (by decide +kernel), cd_mX2_take⟩
theorem ckX2_46 : jCV RX2 46 mX2_takeNumber := ⟨List.mem_of_getElem? (i := 238) (by decide +kernel), List.mem_of_getElem? (i := 239) (by decide +kernel), List.mem_of_getElem? (i := 240) (by decide +kernel), List.mem_of_getElem? (i := 16) (by decide +kernel), cd_mX2_takeNumber⟩
theorem ckX2_53 : jCV RX2 53 mX2_readSinger := ⟨List.mem_of_getElem? (i := 242) (by decide +kernel), List.mem_of_getElem? (i := 243) (by decide +kernel), List.mem_of_getElem? (i := 244) (by decide +kernel), List.mem_of_getElem? (i := 16) (by decide +kernel), cd_mX2_readSinger⟩
theorem ckX2_57 : jCS RX2 57 mX2_kindOf := ⟨List.mem_of_getElem? (i := 250) (by decide +kernel), List.mem_of_getElem? (i := 251) (by decide +kernel), List.mem_of_getElem? (i := 16) (by decide +kernel), cd_mX2_kindOf⟩
theorem ckX2_61 : jCV RX2 61 mX2_readPan := ⟨List.mem_of_getElem? (i := 253) (by decide +kernel), List.mem_of_getElem? (i := 254) (by decide +kernel), List.mem_of_getElem? (i := 255) (by decide +kernel), List.mem_of_getElem? (i := 16) (by decide +kernel), cd_mX2_readPan⟩
theorem ckX3_137 : jCV RX3 137 mX0_takeFrom := ⟨List.mem_of_getElem? (i := 262) (by decide +kernel), List.mem_of_getElem? (i := 263) (by decide +kernel), List.mem_of_getElem? (i := 264) (by decide +kernel), List.mem_of_getElem? (i := 20) (by decide +kernel), cd_mX0_takeFrom⟩
theorem ckX4_135 : jCV RX4 135 mX4_readKitchen := ⟨List.mem_of_getElem? (i := 277) (by decide +kernel), List.mem_of_getElem? (i := 278) (by decide +kernel), List.mem_of_getElem? (i := 279) (by decide +kernel), List.mem_of_getElem? (i := 5) (by decide +kernel), cd_mX4_readKitchen⟩
theorem ckX4_117 : jCV RX4 117 mX4_nextToken := ⟨List.mem_of_getElem? (i := 283) (by decide +kernel), List.mem_of_getElem? (i := 284) (by decide +kernel), List.mem_of_getElem? (i := 285) (by decide +kernel), List.mem_of_getElem? (i := 5) (by decide +kernel), cd_mX4_nextToken⟩
theorem ckX4_120 : jCV RX4 120 mX4_takes := ⟨List.mem_of_getElem? (i := 292) (by decide +kernel), List.mem_of_getElem? (i := 293) (by decide +kernel), List.mem_of_getElem? (i := 294) (by decide +kernel), List.mem_of_getElem? (i := 5) (by decide +kernel), cd_mX4_takes⟩
theorem ckX4_111 : jCV RX4 111 mX4_isLetter := ⟨List.mem_of_getElem? (i := 296) (by decide +kernel), List.mem_of_getElem? (i := 297) (by decide +kernel), List.mem_of_getElem? (i := 298) (by decide +kernel), List.mem_of_getElem? (i := 5) (by decide +kernel), cd_mX4_isLetter⟩
theorem ckX4_114 : jCV RX4 114 mX4_faults := ⟨List.mem_of_getElem? (i := 300) (by decide +kernel), List.mem_of_getElem? (i := 301) (by decide +kernel), List.mem_of_getElem? (i := 302) (by decide +kernel), List.mem_of_getElem? (i := 5) (by decide +kernel), cd_mX4_faults⟩
theorem ckX4_123 : jCV RX4 123 mX4_takesNumber := ⟨List.mem_of_getElem? (i := 304) (by decide +kernel), List.mem_of_getElem? (i := 305) (by decide +kernel), List.mem_of_getElem? (i := 306) (by decide +kernel), List.mem_of_getElem? (i := 5) (by decide +kernel), cd_mX4_takesNumber⟩
theorem ckX4_128 : jCV RX4 128 mX4_readPan := ⟨List.mem_of_getElem? (i := 308) (by decide +kernel), List.mem_of_getElem? (i := 309) (by decide +kernel), List.mem_of_getElem? (i := 310) (by decide +kernel), List.mem_of_getElem? (i := 5) (by decide +kernel), cd_mX4_readPan⟩
theorem ckX4_131 : jCV RX4 131 mX4_readSinger := ⟨List.mem_of_getElem? (i := 313) (by decide +kernel), List.mem_of_getElem? (i := 314) (by decide +kernel), List.mem_of_getElem? (i := 315) (by decide +kernel), List.mem_of_getElem? (i := 5) (by decide +kernel), cd_mX4_readSinger⟩
theorem ckX3_150 : jCV RX3 150 mX0_can := ⟨List.mem_of_getElem? (i := 332) (by decide +kernel), List.mem_of_getElem? (i := 333) (by decide +kernel), List.mem_of_getElem? (i := 334) (by decide +kernel), List.mem_of_getElem? (i := 20) (by decide +kernel), cd_mX0_can⟩
theorem ckX3_153 : jCV RX3 153 mX3_keepAct := ⟨List.mem_of_getElem? (i := 336) (by decide +kernel), List.mem_of_getElem? (i := 337) (by decide +kernel), List.mem_of_getElem? (i := 338) (by decide +kernel), List.mem_of_getElem? (i := 2) (by decide +kernel), cd_mX3_keepAct⟩
theorem ckX3_267 : jCS RX3 267 mMath_min := ⟨List.mem_of_getElem? (i := 340) (by decide +kernel), List.mem_of_getElem? (i := 231) (by decide +kernel), List.mem_of_getElem? (i := 232) (by decide +kernel), cd_mMath_min⟩
theorem ckX3_264 : jCV RX3 264 mX0_keep := ⟨List.mem_of_getElem? (i := 341) (by decide +kernel), List.mem_of_getElem? (i := 342) (by decide +kernel), List.mem_of_getElem? (i := 343) (by decide +kernel), List.mem_of_getElem? (i := 20) (by decide +kernel), cd_mX0_keep⟩
theorem ckX3_156 : jCV RX3 156 mX0_singBar := ⟨List.mem_of_getElem? (i := 345) (by decide +kernel), List.mem_of_getElem? (i := 346) (by decide +kernel), List.mem_of_getElem? (i := 347) (by decide +kernel), List.mem_of_getElem? (i := 20) (by decide +kernel), cd_mX0_singBar⟩
theorem ckX0_72 : jCV RX0 72 mX0_isSet := ⟨List.mem_of_getElem? (i := 349) (by decide +kernel), List.mem_of_getElem? (i := 350) (by decide +kernel), List.mem_of_getElem? (i := 351) (by decide +kernel), List.mem_of_getElem? (i := 20) (by decide +kernel), cd_mX0_isSet⟩
theorem ckX0_84 : jCV RX0 84 mX0_hear := ⟨List.mem_of_getElem? (i := 353) (by decide +kernel), List.mem_of_getElem? (i := 354) (by decide +kernel), List.mem_of_getElem? (i := 355) (by decide +kernel), List.mem_of_getElem? (i := 20) (by decide +kernel), cd_mX0_hear⟩
theorem ckX0_88 : jCS RX0 88 mInt_numberOfTrailingZeros := ⟨List.mem_of_getElem? (i := 357) (by decide +kernel), List.mem_of_getElem? (i := 358) (by decide +kernel), List.mem_of_getElem? (i := 359) (by decide +kernel), cd_mInt_numberOfTrailingZeros⟩
theorem ckX0_94 : jCV RX0 94 mX0_judge := ⟨List.mem_of_getElem? (i := 362) (by decide +kernel), List.mem_of_getElem? (i := 363) (by decide +kernel), List.mem_of_getElem? (i := 364) (by decide +kernel), List.mem_of_getElem? (i := 20) (by decide +kernel), cd_mX0_judge⟩
theorem ckX0_102 : jCS RX0 102 mMath_abs := ⟨List.mem_of_getElem? (i := 366) (by decide +kernel), List.mem_of_getElem? (i := 367) (by decide +kernel), List.mem_of_getElem? (i := 232) (by decide +kernel), cd_mMath_abs⟩
theorem ckX0_98 : jCV RX0 98 mX0_thickBy := ⟨List.mem_of_getElem? (i := 369) (by decide +kernel), List.mem_of_getElem? (i := 370) (by decide +kernel), List.mem_of_getElem? (i := 371) (by decide +kernel), List.mem_of_getElem? (i := 20) (by decide +kernel), cd_mX0_thickBy⟩
theorem ckX0_107 : jCS RX0 107 mMath_max := ⟨List.mem_of_getElem? (i := 373) (by decide +kernel), List.mem_of_getElem? (i := 374) (by decide +kernel), List.mem_of_getElem? (i := 232) (by decide +kernel), cd_mMath_max⟩
theorem ckX3_160 : jCV RX3 160 mX0_setPans := ⟨List.mem_of_getElem? (i := 376) (by decide +kernel), List.mem_of_getElem? (i := 377) (by decide +kernel), List.mem_of_getElem? (i := 378) (by decide +kernel), List.mem_of_getElem? (i := 20) (by decide +kernel), cd_mX0_setPans⟩
theorem ckX4_158 : jCV RX4 158 mX4_canSing := ⟨List.mem_of_getElem? (i := 385) (by decide +kernel), List.mem_of_getElem? (i := 386) (by decide +kernel), List.mem_of_getElem? (i := 387) (by decide +kernel), List.mem_of_getElem? (i := 5) (by decide +kernel), cd_mX4_canSing⟩
theorem ckX4_161 : jCV RX4 161 mX4_note := ⟨List.mem_of_getElem? (i := 389) (by decide +kernel), List.mem_of_getElem? (i := 390) (by decide +kernel), List.mem_of_getElem? (i := 391) (by decide +kernel), List.mem_of_getElem? (i := 5) (by decide +kernel), cd_mX4_note⟩
theorem ckX4_164 : jCV RX4 164 mX4_oneBar := ⟨List.mem_of_getElem? (i := 393) (by decide +kernel), List.mem_of_getElem? (i := 394) (by decide +kernel), List.mem_of_getElem? (i := 395) (by decide +kernel), List.mem_of_getElem? (i := 5) (by decide +kernel), cd_mX4_oneBar⟩
theorem ckX4_153 : jCV RX4 153 mX4_panHears := ⟨List.mem_of_getElem? (i := 397) (by decide +kernel), List.mem_of_getElem? (i := 398) (by decide +kernel), List.mem_of_getElem? (i := 399) (by decide +kernel), List.mem_of_getElem? (i := 5) (by decide +kernel), cd_mX4_panHears⟩
theorem ckX4_149 : jCS RX4 149 mX4_has := ⟨List.mem_of_getElem? (i := 401) (by decide +kernel), List.mem_of_getElem? (i := 402) (by decide +kernel), List.mem_of_getElem? (i := 5) (by decide +kernel), cd_mX4_has⟩
theorem ckX4_167 : jCV RX4 167 mX4_setPans := ⟨List.mem_of_getElem? (i := 404) (by decide +kernel), List.mem_of_getElem? (i := 405) (by decide +kernel), List.mem_of_getElem? (i := 406) (by decide +kernel), List.mem_of_getElem? (i := 5) (by decide +kernel), cd_mX4_setPans⟩
theorem ckX4_171 : jCV RX4 171 mX4_isPan := ⟨List.mem_of_getElem? (i := 417) (by decide +kernel), List.mem_of_getElem? (i := 418) (by decide +kernel), List.mem_of_getElem? (i := 419) (by decide +kernel), List.mem_of_getElem? (i := 5) (by decide +kernel), cd_mX4_isPan⟩
theorem ckX4_174 : jCV RX4 174 mX4_isSinger := ⟨List.mem_of_getElem? (i := 421) (by decide +kernel), List.mem_of_getElem? (i := 422) (by decide +kernel), List.mem_of_getElem? (i := 423) (by decide +kernel), List.mem_of_getElem? (i := 5) (by decide +kernel), cd_mX4_isSinger⟩
theorem ckX3_167 : jCV RX3 167 mX0_bring := ⟨List.mem_of_getElem? (i := 429) (by decide +kernel), List.mem_of_getElem? (i := 430) (by decide +kernel), List.mem_of_getElem? (i := 431) (by decide +kernel), List.mem_of_getElem? (i := 20) (by decide +kernel), cd_mX0_bring⟩
theorem ckX3_179 : jCV RX3 179 mX0_isSet := ⟨List.mem_of_getElem? (i := 445) (by decide +kernel), List.mem_of_getElem? (i := 350) (by decide +kernel), List.mem_of_getElem? (i := 351) (by decide +kernel), List.mem_of_getElem? (i := 20) (by decide +kernel), cd_mX0_isSet⟩
theorem ckX3_198 : jCV RX3 198 mX3_takeTune := ⟨List.mem_of_getElem? (i := 466) (by decide +kernel), List.mem_of_getElem? (i := 467) (by decide +kernel), List.mem_of_getElem? (i := 468) (by decide +kernel), List.mem_of_getElem? (i := 2) (by decide +kernel), cd_mX3_takeTune⟩
theorem ckX3_202 : jCV RX3 202 mX3_trySolo := ⟨List.mem_of_getElem? (i := 470) (by decide +kernel), List.mem_of_getElem? (i := 471) (by decide +kernel), List.mem_of_getElem? (i := 472) (by decide +kernel), List.mem_of_getElem? (i := 2) (by decide +kernel), cd_mX3_trySolo⟩
theorem ckX3_272 : jCS RX3 272 mArr_fill := ⟨List.mem_of_getElem? (i := 474) (by decide +kernel), List.mem_of_getElem? (i := 113) (by decide +kernel), List.mem_of_getElem? (i := 114) (by decide +kernel), cd_mArr_fill⟩
theorem ckX3_278 : jCV RX3 278 mX0_tryBar := ⟨List.mem_of_getElem? (i := 475) (by decide +kernel), List.mem_of_getElem? (i := 476) (by decide +kernel), List.mem_of_getElem? (i := 477) (by decide +kernel), List.mem_of_getElem? (i := 20) (by decide +kernel), cd_mX0_tryBar⟩
theorem ckX0_76 : jCV RX0 76 mX0_can := ⟨List.mem_of_getElem? (i := 479) (by decide +kernel), List.mem_of_getElem? (i := 333) (by decide +kernel), List.mem_of_getElem? (i := 334) (by decide +kernel), List.mem_of_getElem? (i := 20) (by decide +kernel), cd_mX0_can⟩
theorem ckX0_80 : jCV RX0 80 mX0_singBar := ⟨List.mem_of_getElem? (i := 480) (by decide +kernel), List.mem_of_getElem? (i := 346) (by decide +kernel), List.mem_of_getElem? (i := 347) (by decide +kernel), List.mem_of_getElem? (i := 20) (by decide +kernel), cd_mX0_singBar⟩
theorem ckX4_182 : jCV RX4 182 mX4_lacks := ⟨List.mem_of_getElem? (i := 486) (by decide +kernel), List.mem_of_getElem? (i := 487) (by decide +kernel), List.mem_of_getElem? (i := 488) (by decide +kernel), List.mem_of_getElem? (i := 5) (by decide +kernel), cd_mX4_lacks⟩
theorem ckX4_186 : jCV RX4 186 mX4_putAside := ⟨List.mem_of_getElem? (i := 490) (by decide +kernel), List.mem_of_getElem? (i := 491) (by decide +kernel), List.mem_of_getElem? (i := 492) (by decide +kernel), List.mem_of_getElem? (i := 5) (by decide +kernel), cd_mX4_putAside⟩
theorem ckX4_189 : jCV RX4 189 mX4_singAlone := ⟨List.mem_of_getElem? (i := 494) (by decide +kernel), List.mem_of_getElem? (i := 495) (by decide +kernel), List.mem_of_getElem? (i := 496) (by decide +kernel), List.mem_of_getElem? (i := 5) (by decide +kernel), cd_mX4_singAlone⟩
theorem ckX4_177 : jCV RX4 177 mX4_allRest := ⟨List.mem_of_getElem? (i := 498) (by decide +kernel), List.mem_of_getElem? (i := 499) (by decide +kernel), List.mem_of_getElem? (i := 500) (by decide +kernel), List.mem_of_getElem? (i := 5) (by decide +kernel), cd_mX4_allRest⟩
theorem ckX4_193 : jCV RX4 193 mX4_takeBack := ⟨List.mem_of_getElem? (i := 502) (by decide +kernel), List.mem_of_getElem? (i := 503) (by decide +kernel), List.mem_of_getElem? (i := 504) (by decide +kernel), List.mem_of_getElem? (i := 5) (by decide +kernel), cd_mX4_takeBack⟩
theorem ckX3_206 : jCV RX3 206 mX3_tryRound := ⟨List.mem_of_getElem? (i := 510) (by decide +kernel), List.mem_of_getElem? (i := 511) (by decide +kernel), List.mem_of_getElem? (i := 512) (by decide +kernel), List.mem_of_getElem? (i := 2) (by decide +kernel), cd_mX3_tryRound⟩
theorem ckX4_198 : jCV RX4 198 mX4_singRound := ⟨List.mem_of_getElem? (i := 519) (by decide +kernel), List.mem_of_getElem? (i := 520) (by decide +kernel), List.mem_of_getElem? (i := 521) (by decide +kernel), List.mem_of_getElem? (i := 5) (by decide +kernel), cd_mX4_singRound⟩
theorem ckX3_209 : jCS RX3 209 mInt_bitCount := ⟨List.mem_of_getElem? (i := 527) (by decide +kernel), List.mem_of_getElem? (i := 528) (by decide +kernel), List.mem_of_getElem? (i := 359) (by decide +kernel), cd_mInt_bitCount⟩
theorem ckX4_202 : jCS RX4 202 mX4_ones := ⟨List.mem_of_getElem? (i := 537) (by decide +kernel), List.mem_of_getElem? (i := 538) (by decide +kernel), List.mem_of_getElem? (i := 5) (by decide +kernel), cd_mX4_ones⟩
theorem ckX3_214 : jCV RX3 214 mX3_seekSong := ⟨List.mem_of_getElem? (i := 544) (by decide +kernel), List.mem_of_getElem? (i := 545) (by decide +kernel), List.mem_of_getElem? (i := 546) (by decide +kernel), List.mem_of_getElem? (i := 2) (by decide +kernel), cd_mX3_seekSong⟩
theorem ckX3_281 : jCV RX3 281 mX3_trySong := ⟨List.mem_of_getElem? (i := 548) (by decide +kernel), List.mem_of_getElem? (i := 549) (by decide +kernel), List.mem_of_getElem? (i := 550) (by decide +kernel), List.mem_of_getElem? (i := 2) (by decide +kernel), cd_mX3_trySong⟩
theorem ckX3_287 : jCS RX3 287 mInt_numberOfTrailingZeros := ⟨List.mem_of_getElem? (i := 552) (by decide +kernel), List.mem_of_getElem? (i := 358) (by decide +kernel), List.mem_of_getElem? (i := 359) (by decide +kernel), cd_mInt_numberOfTrailingZeros⟩
theorem ckX3_217 : jCS RX3 217 mX3_noteOf := ⟨List.mem_of_getElem? (i := 553) (by decide +kernel), List.mem_of_getElem? (i := 554) (by decide +kernel), List.mem_of_getElem? (i := 2) (by decide +kernel), cd_mX3_noteOf⟩
theorem ckX3_284 : jCV RX3 284 mX3_weighSong := ⟨List.mem_of_getElem? (i := 556) (by decide +kernel), List.mem_of_getElem? (i := 557) (by decide +kernel), List.mem_of_getElem? (i := 558) (by decide +kernel), List.mem_of_getElem? (i := 2) (by decide +kernel), cd_mX3_weighSong⟩
theorem ckX4_212 : jCV RX4 212 mX4_singsRow := ⟨List.mem_of_getElem? (i := 567) (by decide +kernel), List.mem_of_getElem? (i := 568) (by decide +kernel), List.mem_of_getElem? (i := 569) (by decide +kernel), List.mem_of_getElem? (i := 5) (by decide +kernel), cd_mX4_singsRow⟩
theorem ckX3_222 : jCV RX3 222 mX3_setsWithout := ⟨List.mem_of_getElem? (i := 576) (by decide +kernel), List.mem_of_getElem? (i := 577) (by decide +kernel), List.mem_of_getElem? (i := 578) (by decide +kernel), List.mem_of_getElem? (i := 2) (by decide +kernel), cd_mX3_setsWithout⟩
theorem ckX3_226 : jCS RX3 226 mX3_weightOf := ⟨List.mem_of_getElem? (i := 597) (by decide +kernel), List.mem_of_getElem? (i := 598) (by decide +kernel), List.mem_of_getElem? (i := 2) (by decide +kernel), cd_mX3_weightOf⟩
theorem ckX3_229 : jCS RX3 229 mX3_power := ⟨List.mem_of_getElem? (i := 600) (by decide +kernel), List.mem_of_getElem? (i := 601) (by decide +kernel), List.mem_of_getElem? (i := 2) (by decide +kernel), cd_mX3_power⟩
theorem ckX3_233 : jCS RX3 233 mX3_commonDivisor := ⟨List.mem_of_getElem? (i := 603) (by decide +kernel), List.mem_of_getElem? (i := 604) (by decide +kernel), List.mem_of_getElem? (i := 2) (by decide +kernel), cd_mX3_commonDivisor⟩
theorem ckX3_290 : jCS RX3 290 mMath_max := ⟨List.mem_of_getElem? (i := 606) (by decide +kernel), List.mem_of_getElem? (i := 374) (by decide +kernel), List.mem_of_getElem? (i := 232) (by decide +kernel), cd_mMath_max⟩
theorem ckX3_239 : jCS RX3 239 mX3_isOf := ⟨List.mem_of_getElem? (i := 641) (by decide +kernel), List.mem_of_getElem? (i := 642) (by decide +kernel), List.mem_of_getElem? (i := 2) (by decide +kernel), cd_mX3_isOf⟩
theorem ckX4_221 : jCS RX4 221 mX4_isKind := ⟨List.mem_of_getElem? (i := 650) (by decide +kernel), List.mem_of_getElem? (i := 651) (by decide +kernel), List.mem_of_getElem? (i := 5) (by decide +kernel), cd_mX4_isKind⟩
theorem ckX3_242 : jCV RX3 242 mX3_sizeOfPlums := ⟨List.mem_of_getElem? (i := 657) (by decide +kernel), List.mem_of_getElem? (i := 658) (by decide +kernel), List.mem_of_getElem? (i := 659) (by decide +kernel), List.mem_of_getElem? (i := 2) (by decide +kernel), cd_mX3_sizeOfPlums⟩
theorem ckX3_296 : jCV RX3 296 mX3_leave := ⟨List.mem_of_getElem? (i := 661) (by decide +kernel), List.mem_of_getElem? (i := 662) (by decide +kernel), List.mem_of_getElem? (i := 663) (by decide +kernel), List.mem_of_getElem? (i := 2) (by decide +kernel), cd_mX3_leave⟩
theorem ckX3_300 : jCV RX3 300 mX3_plumSize := ⟨List.mem_of_getElem? (i := 665) (by decide +kernel), List.mem_of_getElem? (i := 666) (by decide +kernel), List.mem_of_getElem? (i := 667) (by decide +kernel), List.mem_of_getElem? (i := 2) (by decide +kernel), cd_mX3_plumSize⟩
theorem ckX3_303 : jCV RX3 303 mX3_lentSize := ⟨List.mem_of_getElem? (i := 669) (by decide +kernel), List.mem_of_getElem? (i := 670) (by decide +kernel), List.mem_of_getElem? (i := 671) (by decide +kernel), List.mem_of_getElem? (i := 2) (by decide +kernel), cd_mX3_lentSize⟩
theorem ckX3_248 : jCV RX3 248 mX3_markOfPlums := ⟨List.mem_of_getElem? (i := 673) (by decide +kernel), List.mem_of_getElem? (i := 674) (by decide +kernel), List.mem_of_getElem? (i := 675) (by decide +kernel), List.mem_of_getElem? (i := 2) (by decide +kernel), cd_mX3_markOfPlums⟩
theorem ckX3_309 : jCV RX3 309 mX3_plumMark := ⟨List.mem_of_getElem? (i := 677) (by decide +kernel), List.mem_of_getElem? (i := 678) (by decide +kernel), List.mem_of_getElem? (i := 679) (by decide +kernel), List.mem_of_getElem? (i := 2) (by decide +kernel), cd_mX3_plumMark⟩
theorem ckX3_312 : jCV RX3 312 mX3_lentMark := ⟨List.mem_of_getElem? (i := 681) (by decide +kernel), List.mem_of_getElem? (i := 682) (by decide +kernel), List.mem_of_getElem? (i := 683) (by decide +kernel), List.mem_of_getElem? (i := 2) (by decide +kernel), cd_mX3_lentMark⟩
theorem ckX3_245 : jCV RX3 245 mX3_sizeOfMarrows := ⟨List.mem_of_getElem? (i := 685) (by decide +kernel), List.mem_of_getElem? (i := 686) (by decide +kernel), List.mem_of_getElem? (i := 687) (by decide +kernel), List.mem_of_getElem? (i := 2) (by decide +kernel), cd_mX3_sizeOfMarrows⟩
theorem ckX3_306 : jCV RX3 306 mX3_marrowSize := ⟨List.mem_of_getElem? (i := 689) (by decide +kernel), List.mem_of_getElem? (i := 690) (by decide +kernel), List.mem_of_getElem? (i := 691) (by decide +kernel), List.mem_of_getElem? (i := 2) (by decide +kernel), cd_mX3_marrowSize⟩
theorem ckX3_251 : jCV RX3 251 mX3_markOfMarrows := ⟨List.mem_of_getElem? (i := 693) (by decide +kernel), List.mem_of_getElem? (i := 694) (by decide +kernel), List.mem_of_getElem? (i := 695) (by decide +kernel), List.mem_of_getElem? (i := 2) (by decide +kernel), cd_mX3_markOfMarrows⟩
theorem ckX4_248 : jCV RX4 248 mX4_sizeOf := ⟨List.mem_of_getElem? (i := 702) (by decide +kernel), List.mem_of_getElem? (i := 703) (by decide +kernel), List.mem_of_getElem? (i := 704) (by decide +kernel), List.mem_of_getElem? (i := 5) (by decide +kernel), cd_mX4_sizeOf⟩
theorem ckX4_227 : jCV RX4 227 mX4_begin := ⟨List.mem_of_getElem? (i := 706) (by decide +kernel), List.mem_of_getElem? (i := 707) (by decide +kernel), List.mem_of_getElem? (i := 708) (by decide +kernel), List.mem_of_getElem? (i := 5) (by decide +kernel), cd_mX4_begin⟩
theorem ckX4_245 : jCV RX4 245 mX4_plumSize := ⟨List.mem_of_getElem? (i := 710) (by decide +kernel), List.mem_of_getElem? (i := 711) (by decide +kernel), List.mem_of_getElem? (i := 712) (by decide +kernel), List.mem_of_getElem? (i := 5) (by decide +kernel), cd_mX4_plumSize⟩
theorem ckX4_230 : jCV RX4 230 mX4_lent := ⟨List.mem_of_getElem? (i := 714) (by decide +kernel), List.mem_of_getElem? (i := 715) (by decide +kernel), List.mem_of_getElem? (i := 716) (by decide +kernel), List.mem_of_getElem? (i := 5) (by decide +kernel), cd_mX4_lent⟩
theorem ckX4_242 : jCV RX4 242 mX4_markOf := ⟨List.mem_of_getElem? (i := 718) (by decide +kernel), List.mem_of_getElem? (i := 719) (by decide +kernel), List.mem_of_getElem? (i := 720) (by decide +kernel), List.mem_of_getElem? (i := 5) (by decide +kernel), cd_mX4_markOf⟩
theorem ckX4_236 : jCV RX4 236 mX4_plumMark := ⟨List.mem_of_getElem? (i := 722) (by decide +kernel), List.mem_of_getElem? (i := 723) (by decide +kernel), List.mem_of_getElem? (i := 724) (by decide +kernel), List.mem_of_getElem? (i := 5) (by decide +kernel), cd_mX4_plumMark⟩
theorem ckX4_239 : jCV RX4 239 mX4_sizeOfMarrow := ⟨List.mem_of_getElem? (i := 726) (by decide +kernel), List.mem_of_getElem? (i := 727) (by decide +kernel), List.mem_of_getElem? (i := 728) (by decide +kernel), List.mem_of_getElem? (i := 5) (by decide +kernel), cd_mX4_sizeOfMarrow⟩
theorem ckX4_233 : jCV RX4 233 mX4_marrowSize := ⟨List.mem_of_getElem? (i := 730) (by decide +kernel), List.mem_of_getElem? (i := 731) (by decide +kernel), List.mem_of_getElem? (i := 732) (by decide +kernel), List.mem_of_getElem? (i := 5) (by decide +kernel), cd_mX4_marrowSize⟩
theorem ckX3_254 : jCV RX3 254 mX3_rowsThere := ⟨List.mem_of_getElem? (i := 748) (by decide +kernel), List.mem_of_getElem? (i := 749) (by decide +kernel), List.mem_of_getElem? (i := 750) (by decide +kernel), List.mem_of_getElem? (i := 2) (by decide +kernel), cd_mX3_rowsThere⟩
theorem kkX3_84 : Cond.constant RX3 84 (-1000001) ∈ wsL_law := List.mem_of_getElem? (i := 99) (by decide +kernel)
theorem kkX3_263 : Cond.constant RX3 263 (-1000010) ∈ wsL_law := List.mem_of_getElem? (i := 107) (by decide +kernel)
theorem kkX4_70 : Cond.constant RX4 70 (-1000001) ∈ wsL_law := List.mem_of_getElem? (i := 125) (by decide +kernel)
theorem kkX4_57 : Cond.constant RX4 57 (-1000010) ∈ wsL_law := List.mem_of_getElem? (i := 138) (by decide +kernel)
theorem kkX3_122 : Cond.constant RX3 122 (-1000003) ∈ wsL_law := List.mem_of_getElem? (i := 191) (by decide +kernel)
theorem kkX4_87 : Cond.constant RX4 87 (-1000003) ∈ wsL_law := List.mem_of_getElem? (i := 199) (by decide +kernel)
theorem kkX3_133 : Cond.constant RX3 133 (-1000100) ∈ wsL_law := List.mem_of_getElem? (i := 205) (by decide +kernel)
theorem kkX0_65 : Cond.constant RX0 65 (-1000000) ∈ wsL_law := List.mem_of_getElem? (i := 217) (by decide +kernel)
theorem kkX4_141 : Cond.constant RX4 141 (-1000100) ∈ wsL_law := List.mem_of_getElem? (i := 273) (by decide +kernel)
theorem kkX4_127 : Cond.constant RX4 127 (-1000000) ∈ wsL_law := List.mem_of_getElem? (i := 312) (by decide +kernel)
theorem kkX3_146 : Cond.constant RX3 146 (-1000002) ∈ wsL_law := List.mem_of_getElem? (i := 330) (by decide +kernel)
theorem kkJ6_264 : Cond.constant RJ6 264 (65536) ∈ wsL_law := List.mem_of_getElem? (i := 361) (by decide +kernel)
theorem kkX4_157 : Cond.constant RX4 157 (-1000002) ∈ wsL_law := List.mem_of_getElem? (i := 384) (by decide +kernel)
theorem kkJ6_265 : Cond.constant RJ6 265 (1431655765) ∈ wsL_law := List.mem_of_getElem? (i := 530) (by decide +kernel)
theorem kkJ6_266 : Cond.constant RJ6 266 (858993459) ∈ wsL_law := List.mem_of_getElem? (i := 531) (by decide +kernel)
theorem kkJ6_267 : Cond.constant RJ6 267 (252645135) ∈ wsL_law := List.mem_of_getElem? (i := 532) (by decide +kernel)
theorem kkX3_221 : Cond.constant RX3 221 (-1000000) ∈ wsL_law := List.mem_of_getElem? (i := 575) (by decide +kernel)
theorem kkX4_68 : Cond.constantLong RX4 68 (2) ∈ wsL_law := List.mem_of_getElem? (i := 124) (by decide +kernel)
theorem kkX4_58 : Cond.constantLong RX4 58 (7) ∈ wsL_law := List.mem_of_getElem? (i := 129) (by decide +kernel)
theorem kkX4_82 : Cond.constantLong RX4 82 (255) ∈ wsL_law := List.mem_of_getElem? (i := 197) (by decide +kernel)
theorem kkX4_100 : Cond.constantLong RX4 100 (48) ∈ wsL_law := List.mem_of_getElem? (i := 288) (by decide +kernel)
theorem kkX4_102 : Cond.constantLong RX4 102 (57) ∈ wsL_law := List.mem_of_getElem? (i := 289) (by decide +kernel)
theorem kkX4_104 : Cond.constantLong RX4 104 (97) ∈ wsL_law := List.mem_of_getElem? (i := 290) (by decide +kernel)
theorem kkX4_106 : Cond.constantLong RX4 106 (122) ∈ wsL_law := List.mem_of_getElem? (i := 291) (by decide +kernel)
theorem kkX4_180 : Cond.constantLong RX4 180 (16) ∈ wsL_law := List.mem_of_getElem? (i := 485) (by decide +kernel)
theorem kkX4_196 : Cond.constantLong RX4 196 (8) ∈ wsL_law := List.mem_of_getElem? (i := 518) (by decide +kernel)
theorem kkX4_208 : Cond.constantLong RX4 208 (4) ∈ wsL_law := List.mem_of_getElem? (i := 564) (by decide +kernel)
theorem kkX4_210 : Cond.constantLong RX4 210 (-1) ∈ wsL_law := List.mem_of_getElem? (i := 565) (by decide +kernel)
theorem kkX4_215 : Cond.constantLong RX4 215 (20) ∈ wsL_law := List.mem_of_getElem? (i := 592) (by decide +kernel)
theorem kkX4_217 : Cond.constantLong RX4 217 (10) ∈ wsL_law := List.mem_of_getElem? (i := 611) (by decide +kernel)
theorem kkX4_219 : Cond.constantLong RX4 219 (5) ∈ wsL_law := List.mem_of_getElem? (i := 649) (by decide +kernel)
theorem ckX3_112 : Cond.methodLink RX3 112 arraycopyName ∈ wsL_law := List.mem_of_getElem? (i := 169) (by decide +kernel)
theorem ckX0_66 : Cond.methodLink RX0 66 arraycopyName ∈ wsL_law := List.mem_of_getElem? (i := 266) (by decide +kernel)
theorem lkX3_293 : Cond.fieldLink RX3 293 "JamSongs" "NEAREST" "[I" ∈ wsL_law := List.mem_of_getElem? (i := 644) (by decide +kernel)
end
section
/-! ===== the cells by families; small facts that the walks use ===== -/
def isK (c : Nat) : Prop := c = 20 ∨ c = 31 ∨ c = 43 ∨ c = 54
theorem isK.l0 {c : Nat} (h : isK c) : jlay c = (5, 0) := by rcases h with rfl | rfl | rfl | rfl <;> rfl
theorem isK.l1 {c : Nat} (h : isK c) : jlay (c + 1) = (0, 3) := by rcases h with rfl | rfl | rfl | rfl <;> rfl
theorem isK.l2 {c : Nat} (h : isK c) : jlay (c + 2) = (0, 3) := by rcases h with rfl | rfl | rfl | rfl <;> rfl
theorem isK.l3 {c : Nat} (h : isK c) : jlay (c + 3) = (0, 3) := by rcases h with rfl | rfl | rfl | rfl <;> rfl
theorem isK.l4 {c : Nat} (h : isK c) : jlay (c + 4) = (0, 5) := by rcases h with rfl | rfl | rfl | rfl <;> rfl
theorem isK.l5 {c : Nat} (h : isK c) : jlay (c + 5) = (0, 5) := by rcases h with rfl | rfl | rfl | rfl <;> rfl
theorem isK.l6 {c : Nat} (h : isK c) : jlay (c + 6) = (0, 5) := by rcases h with rfl | rfl | rfl | rfl <;> rfl
theorem isK.l7 {c : Nat} (h : isK c) : jlay (c + 7) = (0, 3) := by rcases h with rfl | rfl | rfl | rfl <;> rfl
theorem isK.l8 {c : Nat} (h : isK c) : jlay (c + 8) = (0, 5) := by rcases h with rfl | rfl | rfl | rfl <;> rfl
theorem isK.l9 {c : Nat} (h : isK c) : jlay (c + 9) = (0, 5) := by rcases h with rfl | rfl | rfl | rfl <;> rfl
theorem isK.l10 {c : Nat} (h : isK c) : jlay (c + 10) = (0, 5) := by rcases h with rfl | rfl | rfl | rfl <;> rfl
theorem isR_l (r : Nat) (h : r < 8) : jlay (2 + 2 * r) = (5, 1) := co_dec (P := fun r => jlay (2 + 2 * r) = (5, 1)) (by decide +kernel) h
theorem isR_i (r : Nat) (h : r < 8) : jlay (2 + 2 * r + 1) = (0, 40) := co_dec (P := fun r => jlay (2 + 2 * r + 1) = (0, 40)) (by decide +kernel) h
theorem isI_k (k : Nat) (h : k < 2) : isK (43 + 11 * k) := by
  have : k = 0 ∨ k = 1 := by omega
  rcases this with rfl | rfl
  · exact Or.inr (Or.inr (Or.inl rfl))
  · exact Or.inr (Or.inr (Or.inr rfl))
theorem isA_l (k : Nat) (h : k < 24) : jlay (66 + k) = (0, 19) := co_dec (P := fun r => jlay (66 + r) = (0, 19)) (by decide +kernel) h
theorem isB_l (k : Nat) (h : k < 4) : jlay (93 + k) = (0, 19) := co_dec (P := fun r => jlay (93 + r) = (0, 19)) (by decide +kernel) h
theorem jtg_1 (j : Nat) : jtg 1 j = 2 + 2 * j := rfl
theorem j_add {x y : Int32} {a b : Nat} (hx : x = nI a) (hy : y = nI b) : x + y = nI (a + b) := by rw [hx, hy]; exact nI_add a b
theorem j_mul {x y : Int32} {a b : Nat} (hx : x = nI a) (hy : y = nI b) : x * y = nI (a * b) := by rw [hx, hy]; exact pk_mul a b
theorem j_sub {x y : Int32} {a b : Nat} (hx : x = nI a) (hy : y = nI b) (h : b ≤ a) : x - y = nI (a - b) := by rw [hx, hy]; exact pk_sub h
theorem j_inc {x : Int32} {a : Nat} (hx : x = nI a) : x + Int32.ofInt 1 = nI (a + 1) := by rw [hx]; exact nI_1 a
theorem jnl_at {L : List (Option Value)} {i : Nat} (h : jnl (L[i]?.getD none) = true) : ∀ j, j + 1 = i + 1 → jnl (L[j]?.getD none) = true := fun j hj => by
  obtain rfl : j = i := by omega
  exact h
theorem j_lt {a b : Nat} (ha : a < 2 ^ 31) (hb : b < 2 ^ 31) : nI a < nI b ↔ a < b := nI_ltI ha hb
theorem j_le {a b : Nat} (ha : a < 2 ^ 31) (hb : b < 2 ^ 31) : nI a ≤ nI b ↔ a ≤ b := nI_leI ha hb
theorem j_eq {a b : Nat} (ha : a < 2 ^ 31) (hb : b < 2 ^ 31) : nI a = nI b ↔ a = b := nI_eq ha hb
/-- the numbers below a bound are small naturals -/
theorem j_small {x : Int32} (h0 : ¬ x < 0) {n : Nat} (hn : n < 2 ^ 31) (h1 : x < nI n) : ∃ k : Nat, k < n ∧ x = nI k := by
  obtain ⟨k, hk, rfl⟩ := nI_of h0
  exact ⟨k, (j_lt hk hn).mp h1, rfl⟩
/-- a place c, j becomes x -/
abbrev jst (m : jM) (c j : Nat) (x : Int32) : jM := jup m c (upd (m c) j x)
/-- a boolean's answer -/
def isB (v : Int32) (P : Prop) : Prop := v = 1 ∧ P ∨ v = 0 ∧ ¬ P
theorem isB.v01 {v : Int32} {P : Prop} (h : isB v P) : v = 0 ∨ v = 1 := by rcases h with ⟨rfl, -⟩ | ⟨rfl, -⟩ <;> decide
theorem isB.iff {v : Int32} {P Q : Prop} (h : isB v P) (e : P ↔ Q) : isB v Q := by rcases h with ⟨h1, h2⟩ | ⟨h1, h2⟩; exact Or.inl ⟨h1, e.mp h2⟩; exact Or.inr ⟨h1, fun q => h2 (e.mpr q)⟩
theorem isB.t {P : Prop} (h : P) : isB 1 P := Or.inl ⟨rfl, h⟩
theorem isB.f {P : Prop} (h : ¬ P) : isB 0 P := Or.inr ⟨rfl, h⟩
/-- a loop whose state at the turn k is known -/
theorem e_loop {B : jMode} {M : jMeth} {S : List Value} (head N : Nat) (Lk : Nat → List (Option Value)) (mk : Nat → jM) (k0 : Nat) (hk : k0 ≤ N) {L : List (Option Value)} {m : jM} (hL : Lk k0 = L) (hm : mk k0 = m) (hx : jE B M head (Lk N) S (mk N)) (hs : ∀ k, k < N → jE B M head (Lk (k + 1)) S (mk (k + 1)) → jE B M head (Lk k) S (mk k)) : jE B M head L S m := by
  subst hL hm
  have key : ∀ j k, k + j = N → jE B M head (Lk k) S (mk k) := by
    intro j
    induction j with
    | zero => intro k h; obtain rfl : k = N := h; exact hx
    | succ j ih => intro k h; exact hs k (by omega) (ih (k + 1) (by omega))
  exact key (N - k0) k0 (by omega)
/-- a loop with an invariant, over a state of its own -/
theorem e_loopS {σ : Type} {B : jMode} {M : jMeth} {S : List Value} (head N : Nat) (Lk : Nat → σ → List (Option Value)) (Inv : Nat → σ → jM → Prop) (k0 : Nat) (s0 : σ) (hk : k0 ≤ N) {L : List (Option Value)} {m : jM} (hL : Lk k0 s0 = L) (hI : Inv k0 s0 m) (hx : ∀ (s : σ) (m : jM), Inv N s m → jE B M head (Lk N s) S m) (hs : ∀ k, k < N → ∀ (s : σ) (m : jM), Inv k s m → (∀ (s' : σ) (m' : jM), Inv (k + 1) s' m' → jE B M head (Lk (k + 1) s') S m') → jE B M head (Lk k s) S m) : jE B M head L S m := by
  subst hL
  have key : ∀ j k, k + j = N → ∀ (s : σ) (m : jM), Inv k s m → jE B M head (Lk k s) S m := by
    intro j
    induction j with
    | zero => intro k h; obtain rfl : k = N := h; exact hx
    | succ j ih => intro k h s m hI; exact hs k (by omega) s m hI (ih (k + 1) (by omega))
  exact key (N - k0) k0 (by omega) s0 m hI
/-- a loop that ends when a measure falls -/
theorem e_loopM {σ : Type} {B : jMode} {M : jMeth} {S : List Value} (head : Nat) (Ls : σ → List (Option Value)) (Inv : σ → jM → Prop) (μ : σ → Nat) (s0 : σ) {L : List (Option Value)} {m : jM} (hL : Ls s0 = L) (hI : Inv s0 m) (hs : ∀ (s : σ) (m : jM), Inv s m → (∀ (s' : σ) (m' : jM), μ s' < μ s → Inv s' m' → jE B M head (Ls s') S m') → jE B M head (Ls s) S m) : jE B M head L S m := by
  subst hL
  have key : ∀ n (s : σ) (m : jM), μ s < n → Inv s m → jE B M head (Ls s) S m := by
    intro n
    induction n with
    | zero => intro s m h; omega
    | succ n ih => intro s m h hI; exact hs s m hI (fun s' m' h' hI' => ih s' m' (by omega) hI')
  exact key (μ s0 + 1) s0 m (by omega) hI
theorem e_start {B : jMode} {M : jMeth} {pc : Nat} {L L' : List (Option Value)} {S : List Value} {m m' : jM} (hL : L = L') (hm : m = m') (k : jE B M pc L' S m') : jE B M pc L S m := by subst hL hm; exact k
theorem cpy_0 {f g : Nat → Int32} {sp dp : Nat} : va_cpy f g sp dp 0 = g := by
  funext j
  unfold va_cpy
  rw [if_neg (by omega)]
theorem cpy_s {f g : Nat → Int32} {sp dp k : Nat} : upd (va_cpy f g sp dp k) (dp + k) (f (sp + k)) = va_cpy f g sp dp (k + 1) := by
  funext j
  unfold va_cpy upd
  by_cases h : j = dp + k
  · subst h
    rw [if_pos rfl, if_pos (by omega)]
    congr 1
    omega
  · rw [if_neg h]
    show (if dp ≤ j ∧ j < dp + k then f (sp + (j - dp)) else g j) = _
    by_cases h2 : dp ≤ j ∧ j < dp + k
    · rw [if_pos h2, if_pos (by omega)]
    · rw [if_neg h2, if_neg (by omega)]
theorem jup_id (m : jM) (c : Nat) : jup m c (m c) = m := by
  funext a
  unfold jup
  by_cases h : a = c
  · rw [if_pos h, h]
  · rw [if_neg h]
theorem jup_jup (m : jM) (c : Nat) (f g : Nat → Int32) : jup (jup m c f) c g = jup m c g := by
  funext a
  unfold jup
  by_cases h : a = c
  · rw [if_pos h, if_pos h]
  · rw [if_neg h, if_neg h, if_neg h]
theorem jup_cm (m : jM) {c d : Nat} (h : c ≠ d) (f g : Nat → Int32) : jup (jup m c f) d g = jup (jup m d g) c f := by
  funext a
  unfold jup
  by_cases h1 : a = d
  · have h2 : a ≠ c := fun e => h (e.symm.trans h1)
    rw [if_pos h1, if_neg h2, if_pos h1]
  · rw [if_neg h1]
    by_cases h2 : a = c
    · rw [if_pos h2, if_pos h2]
    · rw [if_neg h2, if_neg h2, if_neg h1]
theorem j_nlt {a b : Int32} (h : ¬ a < b) : b ≤ a := Int32.not_lt.mp h
theorem j_nle {a b : Int32} (h : ¬ a ≤ b) : b < a := Int32.not_le.mp h
theorem lg_lt (x y : Int64) : lg_cmp x y < 0 ↔ x < y := by
  unfold lg_cmp
  by_cases h : x > y
  · rw [if_pos h]
    have h' : y < x := h
    exact ⟨fun q => absurd q (by decide), fun q => absurd h' (Int64.lt_asymm q)⟩
  · rw [if_neg h]
    by_cases e : x = y
    · rw [if_pos e]
      exact ⟨fun q => absurd q (by decide), fun q => absurd q (by rw [e]; exact Int64.lt_irrefl)⟩
    · rw [if_neg e]
      exact ⟨fun _ => by rw [Int64.lt_iff_toInt_lt]; have := mt Int64.toInt_inj.mp e; have := mt Int64.lt_iff_toInt_lt.mpr h; omega, fun _ => by decide⟩
theorem lg_gt (x y : Int64) : 0 < lg_cmp x y ↔ y < x := by
  unfold lg_cmp
  by_cases h : x > y
  · rw [if_pos h]
    exact ⟨fun _ => h, fun _ => by decide⟩
  · rw [if_neg h]
    by_cases e : x = y
    · rw [if_pos e]
      exact ⟨fun q => absurd q (by decide), fun q => absurd q h⟩
    · rw [if_neg e]
      exact ⟨fun q => absurd q (by decide), fun q => absurd q h⟩
theorem j_wle (a b : Int32) : a.toInt64 ≤ b.toInt64 ↔ a ≤ b := by
  rw [Int64.le_iff_toInt_le, Int32.le_iff_toInt_le, Int32.toInt_toInt64, Int32.toInt_toInt64]
theorem j_more {x y : Int32} {k N : Nat} (hx : x = nI k) (hy : y = nI N) (h : k < N) (hN : N < 2 ^ 31) : ¬ y ≤ x := by rw [hx, hy]; exact Int32.not_le.mpr ((j_lt (by omega) hN).mpr h)
theorem j_done {x y : Int32} {N : Nat} (hx : x = nI N) (hy : y = nI N) : y ≤ x := by rw [hx, hy]; exact Int32.le_refl _
theorem cpy_s0 {f g : Nat → Int32} {k : Nat} : upd (va_cpy f g 0 0 k) k (f k) = va_cpy f g 0 0 (k + 1) := by
  have h := @cpy_s f g 0 0 k
  rwa [Nat.zero_add] at h
theorem cpy_sd {f g : Nat → Int32} {sp dp k : Nat} {x : Int32} (hx : x = f (sp + k)) : upd (va_cpy f g sp dp k) (dp + k) x = va_cpy f g sp dp (k + 1) := by rw [hx]; exact cpy_s
theorem cpy_s0' {f g : Nat → Int32} {sp k : Nat} {x : Int32} (hx : x = f (sp + k)) : upd (va_cpy f g sp 0 k) k x = va_cpy f g sp 0 (k + 1) := by
  have h := @cpy_sd f g sp 0 k x hx
  rwa [Nat.zero_add] at h
theorem j_ltn (a b : Int32) : (a < b) = ¬ b ≤ a := propext (Int32.not_le.symm)
theorem upd_upd (f : Nat → Int32) (k : Nat) (x y : Int32) : upd (upd f k x) k y = upd f k y := by
  funext j
  unfold upd
  by_cases h : j = k
  · rw [if_pos h, if_pos h]
  · rw [if_neg h, if_neg h, if_neg h]
theorem jst_jup (m : jM) {c d : Nat} (h : c ≠ d) (j : Nat) (f : Nat → Int32) (x y : Int32) : jst (jup (jst m c j x) d f) c j y = jst (jup m d f) c j y := by
  show jup (jup (jup m c (upd (m c) j x)) d f) c (upd (jup (jup m c (upd (m c) j x)) d f c) j y) = jup (jup m d f) c (upd (jup m d f c) j y)
  rw [jup_n _ _ h, jup_n _ _ h, jup_s, upd_upd, jup_cm m h, jup_jup]
end
section
set_option maxHeartbeats 2000000 in
set_option maxRecDepth 20000 in
theorem s_in (a b c : Int64) (m : jM) : iX mX4_in [.long a, .long b, .long c] m (fun v m1 => m = m1 ∧ isB v (b ≤ a ∧ a ≤ c)) := by
  refine jX_of (L := [some (.long a), none, some (.long b), none, some (.long c), none]) 0 rfl rfl (by decide +kernel) rfl ?_
  refine e_lload_n dX4_in_0 rfl ?_
  refine e_lload_n dX4_in_1 rfl ?_
  refine e_lcmp dX4_in_2 ?_
  refine e_if_lt 17 dX4_in_3 (by decide) (fun c3 => ?_) (fun c3 => ?_)
  · refine e_iconst (v := 0) dX4_in_17 rfl ?_
    exact e_zret dX4_in_18 rfl (by decide) (⟨rfl, by first | exact isB.t ⟨Int64.not_lt.mp (fun q => c3 ((lg_lt a b).mpr q)), Int64.not_lt.mp (fun q => c10 ((lg_gt a c).mpr q))⟩ | exact isB.f (fun q => Int64.not_lt.mpr q.2 ((lg_gt a c).mp c10)) | exact isB.f (fun q => Int64.not_lt.mpr q.1 ((lg_lt a b).mp c3))⟩)
  · refine e_lload_n dX4_in_6 rfl ?_
    refine e_lload dX4_in_7 rfl ?_
    refine e_lcmp dX4_in_9 ?_
    refine e_if_gt 17 dX4_in_10 (by decide) (fun c10 => ?_) (fun c10 => ?_)
    · refine e_iconst (v := 0) dX4_in_17 rfl ?_
      exact e_zret dX4_in_18 rfl (by decide) (⟨rfl, by first | exact isB.t ⟨Int64.not_lt.mp (fun q => c3 ((lg_lt a b).mpr q)), Int64.not_lt.mp (fun q => c10 ((lg_gt a c).mpr q))⟩ | exact isB.f (fun q => Int64.not_lt.mpr q.2 ((lg_gt a c).mp c10)) | exact isB.f (fun q => Int64.not_lt.mpr q.1 ((lg_lt a b).mp c3))⟩)
    · refine e_iconst (v := 1) dX4_in_13 rfl ?_
      refine e_goto 18 dX4_in_14 (by decide) ?_
      exact e_zret dX4_in_18 rfl (by decide) (⟨rfl, by first | exact isB.t ⟨Int64.not_lt.mp (fun q => c3 ((lg_lt a b).mpr q)), Int64.not_lt.mp (fun q => c10 ((lg_gt a c).mpr q))⟩ | exact isB.f (fun q => Int64.not_lt.mpr q.2 ((lg_gt a c).mp c10)) | exact isB.f (fun q => Int64.not_lt.mpr q.1 ((lg_lt a b).mp c3))⟩)

theorem s_in32 (x lo hi : Int32) (m : jM) : iX mX4_in [.long x.toInt64, .long lo.toInt64, .long hi.toInt64] m (fun v m1 => m = m1 ∧ isB v (lo ≤ x ∧ x ≤ hi)) := by
  have h := s_in x.toInt64 lo.toInt64 hi.toInt64 m
  rw [j_wle, j_wle] at h
  exact h

set_option maxHeartbeats 2000000 in
set_option maxRecDepth 20000 in
theorem s_has (x k : Int32) (m : jM) : iX mX4_has [.int x, .int k] m (fun v m1 => m = m1 ∧ isB v ((x >>> (k &&& 31)) &&& 1 = 1)) := by
  refine jX_of (L := [some (.int x), some (.int k)]) 0 rfl rfl (by decide +kernel) rfl ?_
  refine e_iload_n dX4_has_0 rfl ?_
  refine e_iload_n dX4_has_1 rfl ?_
  refine e_ishr dX4_has_2 ?_
  refine e_iconst (v := 1) dX4_has_3 rfl ?_
  refine e_iand dX4_has_4 ?_
  refine e_iconst (v := 1) dX4_has_5 rfl ?_
  refine e_icmp_ne 13 dX4_has_6 (by decide) (fun c6 => ?_) (fun c6 => ?_)
  · refine e_iconst (v := 0) dX4_has_13 rfl ?_
    exact e_zret dX4_has_14 rfl (by decide) (⟨rfl, by first | exact isB.t c6 | exact isB.f c6⟩)
  · refine e_iconst (v := 1) dX4_has_9 rfl ?_
    refine e_goto 14 dX4_has_10 (by decide) ?_
    exact e_zret dX4_has_14 rfl (by decide) (⟨rfl, by first | exact isB.t c6 | exact isB.f c6⟩)

set_option maxHeartbeats 2000000 in
set_option maxRecDepth 20000 in
theorem s_find (f : Int32) (m : jM) : iX mX4_find [.ref 98, .int f] m (fun v m1 => v = (-1000010) - f ∧ jst m 98 3 f = m1) := by
  refine jX_of (L := [some (.ref 98), some (.int f)]) 0 rfl rfl (by decide +kernel) rfl ?_
  refine e_aload_n dX4_find_0 rfl ?_
  refine e_iload_n dX4_find_1 rfl ?_
  refine e_putI dX4_find_2 lkX4_53 rfl rfl fwX4_3 (Or.inl rfl) (fun m1 hm1 => ?_)
  refine e_ldc dX4_find_5 kkX4_57 ?_
  refine e_iload_n dX4_find_7 rfl ?_
  refine e_isub dX4_find_8 ?_
  exact e_iret dX4_find_9 rfl (⟨rfl, hm1.symm⟩)

set_option maxHeartbeats 2000000 in
set_option maxRecDepth 20000 in
theorem s_well (x : Int32) (m : jM) : iX mX4_well [.ref 98, .int x] m (fun v m1 => v = x ∧ jst m 98 3 0 = m1) := by
  refine jX_of (L := [some (.ref 98), some (.int x)]) 0 rfl rfl (by decide +kernel) rfl ?_
  refine e_aload_n dX4_well_0 rfl ?_
  refine e_iconst (v := 0) dX4_well_1 rfl ?_
  refine e_putI dX4_well_2 lkX4_53 rfl rfl fwX4_3 (Or.inl rfl) (fun m1 hm1 => ?_)
  refine e_iload_n dX4_well_5 rfl ?_
  exact e_iret dX4_well_6 rfl (⟨rfl, hm1.symm⟩)

set_option maxHeartbeats 2000000 in
set_option maxRecDepth 20000 in
theorem s_isRow (x : Int32) (m : jM) : iX mX4_isRow [.int x] m (fun v m1 => m = m1 ∧ isB v (0 ≤ x ∧ x ≤ 7)) := by
  refine jX_of (L := [some (.int x)]) 0 rfl rfl (by decide +kernel) rfl ?_
  refine e_iload_n dX4_isRow_0 rfl ?_
  refine e_i2l dX4_isRow_1 ?_
  refine e_lconst (v := 0) dX4_isRow_2 rfl ?_
  refine e_ldc2 dX4_isRow_3 kkX4_58 ?_
  refine e_callSi (n := 3) mX4_in [.long x.toInt64, .long 0, .long (7)] dX4_isRow_6 ckX4_60 rfl (by decide +kernel) rfl rfl (by decide) ⟨Nat.zero_le _, Nat.zero_le _⟩ (s_in32 x 0 (7) m) (fun v6 m1 hm1 => ?_)
  rcases hm1 with ⟨rfl, ⟨rfl, q⟩ | ⟨rfl, q⟩⟩
  · exact e_zret dX4_isRow_9 rfl (by decide) (⟨rfl, by first | exact isB.t q | exact isB.f q⟩)
  · exact e_zret dX4_isRow_9 rfl (by decide) (⟨rfl, by first | exact isB.t q | exact isB.f q⟩)

/-- a number as the lane keeps it -/
def laneF (lane v : Int32) : Int32 := if lane = 0 then (v <<< ((24 : Int32) &&& 31)) >>> ((24 : Int32) &&& 31) else if lane = 1 then (v <<< ((16 : Int32) &&& 31)) >>> ((16 : Int32) &&& 31) else v

set_option maxHeartbeats 2000000 in
set_option maxRecDepth 20000 in
theorem s_asLane (l v : Int32) (m : jM) : iX mX4_asLane [.int l, .int v] m (fun r m1 => r = laneF l v ∧ m = m1) := by
  refine jX_of (L := [some (.int l), some (.int v)]) 0 rfl rfl (by decide +kernel) rfl ?_
  refine e_iload_n dX4_asLane_0 rfl ?_
  refine e_if_ne 14 dX4_asLane_1 (by decide) (fun c1 => ?_) (fun c1 => ?_)
  · refine e_iload_n dX4_asLane_14 rfl ?_
    refine e_iconst (v := 1) dX4_asLane_15 rfl ?_
    refine e_icmp_ne 29 dX4_asLane_16 (by decide) (fun c16 => ?_) (fun c16 => ?_)
    · refine e_iload_n dX4_asLane_29 rfl ?_
      exact e_iret dX4_asLane_30 rfl (⟨by unfold laneF; first | rw [if_neg c1, if_neg c16] | rw [if_neg c1, if_pos (Decidable.not_not.mp c16)] | rw [if_pos (Decidable.not_not.mp c1)] | simp_all, rfl⟩)
    · refine e_iload_n dX4_asLane_19 rfl ?_
      refine e_bipush (v := 16) dX4_asLane_20 rfl ?_
      refine e_ishl dX4_asLane_22 ?_
      refine e_bipush (v := 16) dX4_asLane_23 rfl ?_
      refine e_ishr dX4_asLane_25 ?_
      refine e_goto 30 dX4_asLane_26 (by decide) ?_
      exact e_iret dX4_asLane_30 rfl (⟨by unfold laneF; first | rw [if_neg c1, if_neg c16] | rw [if_neg c1, if_pos (Decidable.not_not.mp c16)] | rw [if_pos (Decidable.not_not.mp c1)] | simp_all, rfl⟩)
  · refine e_iload_n dX4_asLane_4 rfl ?_
    refine e_bipush (v := 24) dX4_asLane_5 rfl ?_
    refine e_ishl dX4_asLane_7 ?_
    refine e_bipush (v := 24) dX4_asLane_8 rfl ?_
    refine e_ishr dX4_asLane_10 ?_
    refine e_goto 30 dX4_asLane_11 (by decide) ?_
    exact e_iret dX4_asLane_30 rfl (⟨by unfold laneF; first | rw [if_neg c1, if_neg c16] | rw [if_neg c1, if_pos (Decidable.not_not.mp c16)] | rw [if_pos (Decidable.not_not.mp c1)] | simp_all, rfl⟩)

set_option maxHeartbeats 2000000 in
set_option maxRecDepth 20000 in
theorem s_isPan (x : Int32) (m : jM) : iX mX4_isPan [.ref 98, .int x] m (fun v m1 => m = m1 ∧ isB v (0 ≤ x ∧ x ≤ m 102 2 - 1)) := by
  refine jX_of (L := [some (.ref 98), some (.int x)]) 0 rfl rfl (by decide +kernel) rfl ?_
  refine e_iload_n dX4_isPan_0 rfl ?_
  refine e_i2l dX4_isPan_1 ?_
  refine e_lconst (v := 0) dX4_isPan_2 rfl ?_
  refine e_aload_n dX4_isPan_3 rfl ?_
  refine e_getR (o := 4) (b := 102) dX4_isPan_4 lkX4_19 rfl rfl (by decide) rfl ?_
  refine e_iconst (v := 2) dX4_isPan_7 rfl ?_
  refine e_iald dX4_isPan_8 rfl 2 rfl (by decide) (by decide) ?_
  refine e_iconst (v := 1) dX4_isPan_9 rfl ?_
  refine e_isub dX4_isPan_10 ?_
  refine e_i2l dX4_isPan_11 ?_
  refine e_callSi (n := 3) mX4_in [.long x.toInt64, .long 0, .long (((m 102 2) - 1).toInt64)] dX4_isPan_12 ckX4_60 rfl (by decide +kernel) rfl rfl (by decide) ⟨Nat.zero_le _, Nat.zero_le _⟩ (s_in32 x 0 ((m 102 2) - 1) m) (fun v12 m1 hm1 => ?_)
  rcases hm1 with ⟨rfl, ⟨rfl, q⟩ | ⟨rfl, q⟩⟩
  · exact e_zret dX4_isPan_15 rfl (by decide) (⟨rfl, by first | exact isB.t q | exact isB.f q⟩)
  · exact e_zret dX4_isPan_15 rfl (by decide) (⟨rfl, by first | exact isB.t q | exact isB.f q⟩)

set_option maxHeartbeats 2000000 in
set_option maxRecDepth 20000 in
theorem s_isSinger (x : Int32) (m : jM) : iX mX4_isSinger [.ref 98, .int x] m (fun v m1 => m = m1 ∧ isB v (0 ≤ x ∧ x ≤ m 102 1 - 1)) := by
  refine jX_of (L := [some (.ref 98), some (.int x)]) 0 rfl rfl (by decide +kernel) rfl ?_
  refine e_iload_n dX4_isSinger_0 rfl ?_
  refine e_i2l dX4_isSinger_1 ?_
  refine e_lconst (v := 0) dX4_isSinger_2 rfl ?_
  refine e_aload_n dX4_isSinger_3 rfl ?_
  refine e_getR (o := 4) (b := 102) dX4_isSinger_4 lkX4_19 rfl rfl (by decide) rfl ?_
  refine e_iconst (v := 1) dX4_isSinger_7 rfl ?_
  refine e_iald dX4_isSinger_8 rfl 1 rfl (by decide) (by decide) ?_
  refine e_iconst (v := 1) dX4_isSinger_9 rfl ?_
  refine e_isub dX4_isSinger_10 ?_
  refine e_i2l dX4_isSinger_11 ?_
  refine e_callSi (n := 3) mX4_in [.long x.toInt64, .long 0, .long (((m 102 1) - 1).toInt64)] dX4_isSinger_12 ckX4_60 rfl (by decide +kernel) rfl rfl (by decide) ⟨Nat.zero_le _, Nat.zero_le _⟩ (s_in32 x 0 ((m 102 1) - 1) m) (fun v12 m1 hm1 => ?_)
  rcases hm1 with ⟨rfl, ⟨rfl, q⟩ | ⟨rfl, q⟩⟩
  · exact e_zret dX4_isSinger_15 rfl (by decide) (⟨rfl, by first | exact isB.t q | exact isB.f q⟩)
  · exact e_zret dX4_isSinger_15 rfl (by decide) (⟨rfl, by first | exact isB.t q | exact isB.f q⟩)

/-- singer k can sing a note -/
def canP (st : Nat → Int32) (k : Nat) (x : Int32) : Prop := x = 7 ∨ ((st (4 + k) ≤ x ∧ x ≤ st (7 + k)) ∧ st (13 + k) < st (10 + k))

set_option maxHeartbeats 2000000 in
set_option maxRecDepth 20000 in
theorem s_canSing (k : Nat) (hk : k < 3) (x : Int32) (m : jM) : iX mX4_canSing [.ref 98, .int (nI k), .int x] m (fun v m1 => m = m1 ∧ isB v (canP (m 102) k x)) := by
  refine jX_of (L := [some (.ref 98), some (.int (nI k)), some (.int x)]) 0 rfl rfl (by decide +kernel) rfl ?_
  refine e_iload_n dX4_canSing_0 rfl ?_
  refine e_bipush (v := 7) dX4_canSing_1 rfl ?_
  refine e_icmp_eq 54 dX4_canSing_3 (by decide) (fun c3 => ?_) (fun c3 => ?_)
  · refine e_iconst (v := 1) dX4_canSing_54 rfl ?_
    refine e_goto 59 dX4_canSing_55 (by decide) ?_
    exact e_zret dX4_canSing_59 rfl (by decide) (⟨rfl, by unfold canP; first | exact isB.t (Or.inl c3) | exact isB.t (Or.inr ⟨q, Int32.not_le.mp c51⟩) | exact isB.f (fun z => z.elim c3 (fun z => absurd z.2 (Int32.not_lt.mpr c51))) | exact isB.f (fun z => z.elim c3 (fun z => q z.1)) | simp_all⟩)
  · refine e_iload_n dX4_canSing_6 rfl ?_
    refine e_i2l dX4_canSing_7 ?_
    refine e_aload_n dX4_canSing_8 rfl ?_
    refine e_getR (o := 4) (b := 102) dX4_canSing_9 lkX4_19 rfl rfl (by decide) rfl ?_
    refine e_iconst (v := 4) dX4_canSing_12 rfl ?_
    refine e_iload_n dX4_canSing_13 rfl ?_
    refine e_iadd dX4_canSing_14 ?_
    refine e_iald dX4_canSing_15 rfl (4 + k) (j_add rfl rfl) (by omega) (by decide) ?_
    refine e_i2l dX4_canSing_16 ?_
    refine e_aload_n dX4_canSing_17 rfl ?_
    refine e_getR (o := 4) (b := 102) dX4_canSing_18 lkX4_19 rfl rfl (by decide) rfl ?_
    refine e_bipush (v := 7) dX4_canSing_21 rfl ?_
    refine e_iload_n dX4_canSing_23 rfl ?_
    refine e_iadd dX4_canSing_24 ?_
    refine e_iald dX4_canSing_25 rfl (7 + k) (j_add rfl rfl) (by omega) (by decide) ?_
    refine e_i2l dX4_canSing_26 ?_
    refine e_callSi (n := 3) mX4_in [.long x.toInt64, .long ((m 102 (4 + k)).toInt64), .long ((m 102 (7 + k)).toInt64)] dX4_canSing_27 ckX4_60 rfl (by decide +kernel) rfl rfl (by decide) ⟨Nat.zero_le _, Nat.zero_le _⟩ (s_in32 x (m 102 (4 + k)) (m 102 (7 + k)) m) (fun v27 m1 hm1 => ?_)
    rcases hm1 with ⟨rfl, ⟨rfl, q⟩ | ⟨rfl, q⟩⟩
    · refine e_if_eq 58 dX4_canSing_30 (by decide) (fun h => absurd h (by decide)) (fun c30 => ?_)
      refine e_aload_n dX4_canSing_33 rfl ?_
      refine e_getR (o := 4) (b := 102) dX4_canSing_34 lkX4_19 rfl rfl (by decide) rfl ?_
      refine e_bipush (v := 13) dX4_canSing_37 rfl ?_
      refine e_iload_n dX4_canSing_39 rfl ?_
      refine e_iadd dX4_canSing_40 ?_
      refine e_iald dX4_canSing_41 rfl (13 + k) (j_add rfl rfl) (by omega) (by decide) ?_
      refine e_aload_n dX4_canSing_42 rfl ?_
      refine e_getR (o := 4) (b := 102) dX4_canSing_43 lkX4_19 rfl rfl (by decide) rfl ?_
      refine e_bipush (v := 10) dX4_canSing_46 rfl ?_
      refine e_iload_n dX4_canSing_48 rfl ?_
      refine e_iadd dX4_canSing_49 ?_
      refine e_iald dX4_canSing_50 rfl (10 + k) (j_add rfl rfl) (by omega) (by decide) ?_
      refine e_icmp_ge 58 dX4_canSing_51 (by decide) (fun c51 => ?_) (fun c51 => ?_)
      · refine e_iconst (v := 0) dX4_canSing_58 rfl ?_
        exact e_zret dX4_canSing_59 rfl (by decide) (⟨rfl, by unfold canP; first | exact isB.t (Or.inl c3) | exact isB.t (Or.inr ⟨q, Int32.not_le.mp c51⟩) | exact isB.f (fun z => z.elim c3 (fun z => absurd z.2 (Int32.not_lt.mpr c51))) | exact isB.f (fun z => z.elim c3 (fun z => q z.1)) | simp_all⟩)
      · refine e_iconst (v := 1) dX4_canSing_54 rfl ?_
        refine e_goto 59 dX4_canSing_55 (by decide) ?_
        exact e_zret dX4_canSing_59 rfl (by decide) (⟨rfl, by unfold canP; first | exact isB.t (Or.inl c3) | exact isB.t (Or.inr ⟨q, Int32.not_le.mp c51⟩) | exact isB.f (fun z => z.elim c3 (fun z => absurd z.2 (Int32.not_lt.mpr c51))) | exact isB.f (fun z => z.elim c3 (fun z => q z.1)) | simp_all⟩)
    · refine e_if_eq 58 dX4_canSing_30 (by decide) (fun c30 => ?_) (fun h => absurd h (by decide))
      refine e_iconst (v := 0) dX4_canSing_58 rfl ?_
      exact e_zret dX4_canSing_59 rfl (by decide) (⟨rfl, by unfold canP; first | exact isB.t (Or.inl c3) | exact isB.t (Or.inr ⟨q, Int32.not_le.mp c51⟩) | exact isB.f (fun z => z.elim c3 (fun z => absurd z.2 (Int32.not_lt.mpr c51))) | exact isB.f (fun z => z.elim c3 (fun z => q z.1)) | simp_all⟩)

set_option maxHeartbeats 2000000 in
set_option maxRecDepth 20000 in
theorem s_allRest (m : jM) : vX mX4_allRest [.ref 98] m (fun m1 => jup m 106 (va_cpy (fun _ => 7) (m 106) 0 0 3) = m1) := by
  refine jX_of (L := [some (.ref 98), none]) 1 rfl rfl (by decide +kernel) rfl ?_
  refine e_iconst (v := 0) dX4_allRest_0 rfl ?_
  refine e_istore_n (L' := [some (.ref 98), some (.int 0)]) dX4_allRest_1 (by decide) (by decide) (jnl_at (i := 0) rfl) rfl ?_
  refine e_loop 2 3 (fun k => [some (.ref 98), some (.int (nI k))]) (fun k => jup m 106 (va_cpy (fun _ => 7) (m 106) 0 0 k)) 0 (Nat.zero_le _) rfl (by rw [cpy_0, jup_id]) ?_ ?_
  · show jE _ _ 2 [some (.ref 98), some (.int (nI 3))] [] (jup m 106 (va_cpy (fun _ => 7) (m 106) 0 0 3))
    obtain ⟨mm1, hmm1⟩ : ∃ y : jM, y = jup m 106 (va_cpy (fun _ => 7) (m 106) 0 0 3) := ⟨_, rfl⟩
    refine e_start rfl hmm1.symm ?_
    refine e_iload_n dX4_allRest_2 rfl ?_
    refine e_iconst (v := 3) dX4_allRest_3 rfl ?_
    refine e_icmp_ge 21 dX4_allRest_4 (by decide) (fun c4 => ?_) (fun h => absurd (j_done rfl rfl) h)
    exact e_vret dX4_allRest_21 rfl (hmm1.symm)
  · intro k hk ih
    show jE _ _ 2 [some (.ref 98), some (.int (nI k))] [] (jup m 106 (va_cpy (fun _ => 7) (m 106) 0 0 k))
    obtain ⟨mm2, hmm2⟩ : ∃ y : jM, y = jup m 106 (va_cpy (fun _ => 7) (m 106) 0 0 k) := ⟨_, rfl⟩
    refine e_start rfl hmm2.symm ?_
    refine e_iload_n dX4_allRest_2 rfl ?_
    refine e_iconst (v := 3) dX4_allRest_3 rfl ?_
    refine e_icmp_ge 21 dX4_allRest_4 (by decide) (fun h => absurd h (j_more (N := 3) rfl rfl (by omega) (by omega))) (fun c4 => ?_)
    refine e_aload_n dX4_allRest_7 rfl ?_
    refine e_getR (o := 8) (b := 106) dX4_allRest_8 lkX4_31 rfl rfl (by decide) rfl ?_
    refine e_iload_n dX4_allRest_11 rfl ?_
    refine e_bipush (v := 7) dX4_allRest_12 rfl ?_
    refine e_iast dX4_allRest_14 rfl k rfl (by omega) (by decide) (fun m3 hm3 => ?_)
    refine e_iinc (v := nI (k + 1)) (L' := [some (.ref 98), some (.int (nI (k + 1)))]) dX4_allRest_15 rfl (j_inc rfl) (by decide) (jnl_at (i := 0) rfl) rfl ?_
    refine e_goto 2 dX4_allRest_18 (by decide) ?_
    refine e_start rfl ?_ ih
    rw [hm3, hmm2, jup_s, jup_jup]
    exact congrArg (jup m 106) (cpy_s0' (by first | rfl | (rw [jup_n _ _ (by decide)]; first | rfl | (congr 1; omega)) | (simp only [Nat.zero_add]; done) | (simp only [Nat.zero_add, jup_n _ _ (show _ ≠ _ by decide)]; done) | (rw [Nat.zero_add])))

set_option maxHeartbeats 2000000 in
set_option maxRecDepth 20000 in
theorem s_putAside (m : jM) : vX mX4_putAside [.ref 98] m (fun m1 => jup m 108 (va_cpy (m 102) (m 108) 0 0 51) = m1) := by
  refine jX_of (L := [some (.ref 98), none]) 1 rfl rfl (by decide +kernel) rfl ?_
  refine e_iconst (v := 0) dX4_putAside_0 rfl ?_
  refine e_istore_n (L' := [some (.ref 98), some (.int 0)]) dX4_putAside_1 (by decide) (by decide) (jnl_at (i := 0) rfl) rfl ?_
  refine e_loop 2 51 (fun k => [some (.ref 98), some (.int (nI k))]) (fun k => jup m 108 (va_cpy (m 102) (m 108) 0 0 k)) 0 (Nat.zero_le _) rfl (by rw [cpy_0, jup_id]) ?_ ?_
  · show jE _ _ 2 [some (.ref 98), some (.int (nI 51))] [] (jup m 108 (va_cpy (m 102) (m 108) 0 0 51))
    obtain ⟨mm1, hmm1⟩ : ∃ y : jM, y = jup m 108 (va_cpy (m 102) (m 108) 0 0 51) := ⟨_, rfl⟩
    refine e_start rfl hmm1.symm ?_
    refine e_iload_n dX4_putAside_2 rfl ?_
    refine e_bipush (v := 51) dX4_putAside_3 rfl ?_
    refine e_icmp_ge 26 dX4_putAside_5 (by decide) (fun c5 => ?_) (fun h => absurd (j_done rfl rfl) h)
    exact e_vret dX4_putAside_26 rfl (hmm1.symm)
  · intro k hk ih
    show jE _ _ 2 [some (.ref 98), some (.int (nI k))] [] (jup m 108 (va_cpy (m 102) (m 108) 0 0 k))
    obtain ⟨mm2, hmm2⟩ : ∃ y : jM, y = jup m 108 (va_cpy (m 102) (m 108) 0 0 k) := ⟨_, rfl⟩
    refine e_start rfl hmm2.symm ?_
    refine e_iload_n dX4_putAside_2 rfl ?_
    refine e_bipush (v := 51) dX4_putAside_3 rfl ?_
    refine e_icmp_ge 26 dX4_putAside_5 (by decide) (fun h => absurd h (j_more (N := 51) rfl rfl (by omega) (by omega))) (fun c5 => ?_)
    refine e_aload_n dX4_putAside_8 rfl ?_
    refine e_getR (o := 10) (b := 108) dX4_putAside_9 lkX4_37 rfl rfl (by decide) rfl ?_
    refine e_iload_n dX4_putAside_12 rfl ?_
    refine e_aload_n dX4_putAside_13 rfl ?_
    refine e_getR (o := 4) (b := 102) dX4_putAside_14 lkX4_19 rfl rfl (by decide) rfl ?_
    refine e_iload_n dX4_putAside_17 rfl ?_
    refine e_iald dX4_putAside_18 rfl k rfl (by omega) (by decide) ?_
    refine e_iast dX4_putAside_19 rfl k rfl (by omega) (by decide) (fun m3 hm3 => ?_)
    refine e_iinc (v := nI (k + 1)) (L' := [some (.ref 98), some (.int (nI (k + 1)))]) dX4_putAside_20 rfl (j_inc rfl) (by decide) (jnl_at (i := 0) rfl) rfl ?_
    refine e_goto 2 dX4_putAside_23 (by decide) ?_
    refine e_start rfl ?_ ih
    rw [hm3, hmm2, jup_s, jup_jup]
    exact congrArg (jup m 108) (cpy_s0' (by first | rfl | (rw [jup_n _ _ (by decide)]; first | rfl | (congr 1; omega)) | (simp only [Nat.zero_add]; done) | (simp only [Nat.zero_add, jup_n _ _ (show _ ≠ _ by decide)]; done) | (rw [Nat.zero_add])))

set_option maxHeartbeats 2000000 in
set_option maxRecDepth 20000 in
theorem s_takeBack (m : jM) : vX mX4_takeBack [.ref 98] m (fun m1 => jup m 102 (va_cpy (m 108) (m 102) 0 0 51) = m1) := by
  refine jX_of (L := [some (.ref 98), none]) 1 rfl rfl (by decide +kernel) rfl ?_
  refine e_iconst (v := 0) dX4_takeBack_0 rfl ?_
  refine e_istore_n (L' := [some (.ref 98), some (.int 0)]) dX4_takeBack_1 (by decide) (by decide) (jnl_at (i := 0) rfl) rfl ?_
  refine e_loop 2 51 (fun k => [some (.ref 98), some (.int (nI k))]) (fun k => jup m 102 (va_cpy (m 108) (m 102) 0 0 k)) 0 (Nat.zero_le _) rfl (by rw [cpy_0, jup_id]) ?_ ?_
  · show jE _ _ 2 [some (.ref 98), some (.int (nI 51))] [] (jup m 102 (va_cpy (m 108) (m 102) 0 0 51))
    obtain ⟨mm1, hmm1⟩ : ∃ y : jM, y = jup m 102 (va_cpy (m 108) (m 102) 0 0 51) := ⟨_, rfl⟩
    refine e_start rfl hmm1.symm ?_
    refine e_iload_n dX4_takeBack_2 rfl ?_
    refine e_bipush (v := 51) dX4_takeBack_3 rfl ?_
    refine e_icmp_ge 26 dX4_takeBack_5 (by decide) (fun c5 => ?_) (fun h => absurd (j_done rfl rfl) h)
    exact e_vret dX4_takeBack_26 rfl (hmm1.symm)
  · intro k hk ih
    show jE _ _ 2 [some (.ref 98), some (.int (nI k))] [] (jup m 102 (va_cpy (m 108) (m 102) 0 0 k))
    obtain ⟨mm2, hmm2⟩ : ∃ y : jM, y = jup m 102 (va_cpy (m 108) (m 102) 0 0 k) := ⟨_, rfl⟩
    refine e_start rfl hmm2.symm ?_
    refine e_iload_n dX4_takeBack_2 rfl ?_
    refine e_bipush (v := 51) dX4_takeBack_3 rfl ?_
    refine e_icmp_ge 26 dX4_takeBack_5 (by decide) (fun h => absurd h (j_more (N := 51) rfl rfl (by omega) (by omega))) (fun c5 => ?_)
    refine e_aload_n dX4_takeBack_8 rfl ?_
    refine e_getR (o := 4) (b := 102) dX4_takeBack_9 lkX4_19 rfl rfl (by decide) rfl ?_
    refine e_iload_n dX4_takeBack_12 rfl ?_
    refine e_aload_n dX4_takeBack_13 rfl ?_
    refine e_getR (o := 10) (b := 108) dX4_takeBack_14 lkX4_37 rfl rfl (by decide) rfl ?_
    refine e_iload_n dX4_takeBack_17 rfl ?_
    refine e_iald dX4_takeBack_18 rfl k rfl (by omega) (by decide) ?_
    refine e_iast dX4_takeBack_19 rfl k rfl (by omega) (by decide) (fun m3 hm3 => ?_)
    refine e_iinc (v := nI (k + 1)) (L' := [some (.ref 98), some (.int (nI (k + 1)))]) dX4_takeBack_20 rfl (j_inc rfl) (by decide) (jnl_at (i := 0) rfl) rfl ?_
    refine e_goto 2 dX4_takeBack_23 (by decide) ?_
    refine e_start rfl ?_ ih
    rw [hm3, hmm2, jup_s, jup_jup]
    exact congrArg (jup m 102) (cpy_s0' (by first | rfl | (rw [jup_n _ _ (by decide)]; first | rfl | (congr 1; omega)) | (simp only [Nat.zero_add]; done) | (simp only [Nat.zero_add, jup_n _ _ (show _ ≠ _ by decide)]; done) | (rw [Nat.zero_add])))
end
section
/-! ===== the reference's kitchen, as functions of its row of numbers ===== -/
def b01 (b : Bool) : Int32 := if b = true then 1 else 0
def btI (x k : Int32) : Bool := decide ((x >>> (k &&& 31)) &&& 1 = 1)
theorem btI_t {x k : Int32} (h : (x >>> (k &&& 31)) &&& 1 = 1) : btI x k = true := decide_eq_true h
theorem btI_f {x k : Int32} (h : ¬ (x >>> (k &&& 31)) &&& 1 = 1) : btI x k = false := decide_eq_false h
/-- the least note that the pan p hears, of the first singers -/
def lsB (st nt : Nat → Int32) (p : Nat) : Nat → Int32
  | 0 => -1000000
  | s + 1 => if btI (st (31 + p)) (nI s) = true ∧ nt s < 7 then (if lsB st nt p s < 0 ∨ nt s < lsB st nt p s then nt s else lsB st nt p s) else lsB st nt p s
/-- whether all of them are of its mode -/
def rtB (st nt : Nat → Int32) (p : Nat) : Nat → Bool
  | 0 => true
  | s + 1 => if btI (st (31 + p)) (nI s) = true ∧ nt s < 7 then (rtB st nt p s && btI (st (21 + p)) (nt s)) else rtB st nt p s
def rqB (kind ahead l : Int32) (r : Bool) : Bool := if kind = 3 then r && (decide (0 ≤ ahead) && (decide (l = ahead + 2) || decide (l = ahead - 2))) else r
def thkB (kind less thick l : Int32) (r : Bool) : Int32 :=
  if kind = 5 then (if l < 0 then thick + 1 else 0)
  else if ¬ kind = 4 ∧ 0 ≤ l then (if r = true then thick + 1 else if kind = 2 ∨ thick < less then 0 else thick - less) else thick
def setP3 (st : Nat → Int32) (p : Nat) (t l : Int32) : Nat → Int32 := upd (upd (upd st (36 + p) t) (41 + p) (if st (26 + p) ≤ t then 1 else 0)) (46 + p) (if st (26 + p) ≤ t then -1000000 else l)
def hearB (st nt : Nat → Int32) (V p : Nat) : Nat → Int32 := setP3 st p (thkB (st (16 + p)) (st 0) (st (36 + p)) (lsB st nt p V) (rqB (st (16 + p)) (st (46 + p)) (lsB st nt p V) (rtB st nt p V))) (lsB st nt p V)
def panB (st nt : Nat → Int32) (V p : Nat) : Nat → Int32 := if st (41 + p) = 1 then upd st (46 + p) (-1000000) else hearB st nt V p
def pansB (st nt : Nat → Int32) (V : Nat) : Nat → Nat → Int32
  | 0 => st
  | k + 1 => panB (pansB st nt V k) nt V k
def runB (st nt : Nat → Int32) (s : Nat) : Nat → Int32 := upd st (13 + s) (if nt s < 7 then st (13 + s) + 1 else 0)
def runsB (st nt : Nat → Int32) : Nat → Nat → Int32
  | 0 => st
  | k + 1 => runB (runsB st nt k) nt k
def barB (st : Nat → Int32) : Nat → Int32 := upd st 3 (st 3 + 1)
def oneB (st nt : Nat → Int32) (V P : Nat) : Nat → Int32 := barB (runsB (pansB st nt V P) nt V)
def setB (st : Nat → Int32) : Nat → Int32
  | 0 => 0
  | k + 1 => setB st k ||| (st (41 + k) <<< (nI k &&& 31))
theorem upd_s (f : Nat → Int32) (k : Nat) (x : Int32) : upd f k x k = x := if_pos rfl
theorem upd_n (f : Nat → Int32) {k j : Nat} (x : Int32) (h : j ≠ k) : upd f k x j = f j := if_neg h
theorem setP3_lo {st : Nat → Int32} {p : Nat} {t l : Int32} {i : Nat} (h : i < 36) : setP3 st p t l i = st i := by
  unfold setP3
  rw [upd_n _ _ (by omega), upd_n _ _ (by omega), upd_n _ _ (by omega)]
theorem panB_lo {st nt : Nat → Int32} {V p i : Nat} (h : i < 36) : panB st nt V p i = st i := by
  unfold panB
  by_cases c : st (41 + p) = 1
  · rw [if_pos c, upd_n _ _ (by omega)]
  · rw [if_neg c]
    exact setP3_lo h
theorem pansB_lo {st nt : Nat → Int32} {V i : Nat} (h : i < 36) : ∀ k, pansB st nt V k i = st i
  | 0 => rfl
  | k + 1 => (panB_lo h).trans (pansB_lo h k)
theorem runsB_lo {st nt : Nat → Int32} {i : Nat} (h : i < 13 ∨ 16 ≤ i) : ∀ k, k ≤ 3 → runsB st nt k i = st i
  | 0, _ => rfl
  | k + 1, hk => by
    show upd _ _ _ _ = _
    rw [upd_n _ _ (by omega)]
    exact runsB_lo h k (by omega)
def noteA (acts st : Nat → Int32) (n : Nat) : Nat → Int32 := if n = 24 then va_cpy st (va_cpy acts acts 51 0 1173) 0 1173 51 else va_cpy st acts 0 (51 * n) 51
def noteN (n : Nat) : Nat := if n = 24 then 24 else n + 1
end
section
set_option maxHeartbeats 2000000 in
set_option maxRecDepth 20000 in
theorem s_setPans (m : jM) (P : Nat) (hP : P ≤ 5) (h2 : m 102 2 = nI P) : iX mX4_setPans [.ref 98] m (fun v m1 => v = setB (m 102) P ∧ m = m1) := by
  refine jX_of (L := [some (.ref 98), none, none]) 2 rfl rfl (by decide +kernel) rfl ?_
  refine e_iconst (v := 0) dX4_setPans_0 rfl ?_
  refine e_istore_n (L' := [some (.ref 98), some (.int 0), none]) dX4_setPans_1 (Nat.le_of_ble_eq_true rfl) (Nat.le_of_ble_eq_true rfl) (jnl_at (i := 0) rfl) rfl ?_
  refine e_iconst (v := 0) dX4_setPans_2 rfl ?_
  refine e_istore_n (L' := [some (.ref 98), some (.int 0), some (.int 0)]) dX4_setPans_3 (Nat.le_of_ble_eq_true rfl) (Nat.le_of_ble_eq_true rfl) (jnl_at (i := 1) rfl) rfl ?_
  refine e_loop 4 P (fun k => [some (.ref 98), some (.int (setB (m 102) k)), some (.int (nI k))]) (fun k => m) 0 (Nat.zero_le _) rfl (rfl) ?_ ?_
  · show jE _ _ 4 [some (.ref 98), some (.int (setB (m 102) P)), some (.int (nI P))] [] m
    refine e_iload_n dX4_setPans_4 rfl ?_
    refine e_aload_n dX4_setPans_5 rfl ?_
    refine e_getR (o := 4) (b := 102) dX4_setPans_6 lkX4_19 rfl rfl (by decide) rfl ?_
    refine e_iconst (v := 2) dX4_setPans_9 rfl ?_
    refine e_iald dX4_setPans_10 rfl 2 rfl (by decide) (by decide) ?_
    rw [show m 102 2 = nI P from h2]
    refine e_icmp_ge 34 dX4_setPans_11 (by decide) (fun c11 => ?_) (fun h => absurd (j_done rfl rfl) h)
    refine e_iload_n dX4_setPans_34 rfl ?_
    exact e_iret dX4_setPans_35 rfl (⟨rfl, rfl⟩)
  · intro k hk ih
    show jE _ _ 4 [some (.ref 98), some (.int (setB (m 102) k)), some (.int (nI k))] [] m
    refine e_iload_n dX4_setPans_4 rfl ?_
    refine e_aload_n dX4_setPans_5 rfl ?_
    refine e_getR (o := 4) (b := 102) dX4_setPans_6 lkX4_19 rfl rfl (by decide) rfl ?_
    refine e_iconst (v := 2) dX4_setPans_9 rfl ?_
    refine e_iald dX4_setPans_10 rfl 2 rfl (by decide) (by decide) ?_
    rw [show m 102 2 = nI P from h2]
    refine e_icmp_ge 34 dX4_setPans_11 (by decide) (fun h => absurd h (j_more (N := P) rfl rfl (by omega) (by omega))) (fun c11 => ?_)
    refine e_iload_n dX4_setPans_14 rfl ?_
    refine e_aload_n dX4_setPans_15 rfl ?_
    refine e_getR (o := 4) (b := 102) dX4_setPans_16 lkX4_19 rfl rfl (by decide) rfl ?_
    refine e_bipush (v := 41) dX4_setPans_19 rfl ?_
    refine e_iload_n dX4_setPans_21 rfl ?_
    refine e_iadd dX4_setPans_22 ?_
    refine e_iald dX4_setPans_23 rfl (41 + k) (j_add rfl rfl) (by omega) (by decide) ?_
    refine e_iload_n dX4_setPans_24 rfl ?_
    refine e_ishl dX4_setPans_25 ?_
    refine e_ior dX4_setPans_26 ?_
    refine e_istore_n (L' := [some (.ref 98), some (.int ((setB (m 102) k) ||| ((m 102 (41 + k)) <<< ((nI k) &&& 31)))), some (.int (nI k))]) dX4_setPans_27 (Nat.le_of_ble_eq_true rfl) (Nat.le_of_ble_eq_true rfl) (jnl_at (i := 0) rfl) rfl ?_
    refine e_iinc (v := nI (k + 1)) (L' := [some (.ref 98), some (.int ((setB (m 102) k) ||| ((m 102 (41 + k)) <<< ((nI k) &&& 31)))), some (.int (nI (k + 1)))]) dX4_setPans_28 rfl (j_inc rfl) (by decide) (jnl_at (i := 1) rfl) rfl ?_
    refine e_goto 4 dX4_setPans_31 (by decide) ?_
    exact ih

set_option maxHeartbeats 2000000 in
set_option maxRecDepth 20000 in
theorem s_ph259 (m : jM) (p : Nat) (hp : p < 5) (t l x3 x4 x6 : Int32) : jE (jmd mX4_panHears (vP (fun m1 => jup m 102 (setP3 (m 102) p t l) = m1))) mX4_panHears 259 [some (.ref 98), some (.int (nI p)), some (.int l), some (.int x3), some (.int x4), some (.int t), some (.int x6)] [] m := by
  refine e_aload_n dX4_panHears_259 rfl ?_
  refine e_getR (o := 4) (b := 102) dX4_panHears_260 lkX4_19 rfl rfl (by decide) rfl ?_
  refine e_bipush (v := 36) dX4_panHears_263 rfl ?_
  refine e_iload_n dX4_panHears_265 rfl ?_
  refine e_iadd dX4_panHears_266 ?_
  refine e_iload dX4_panHears_267 rfl ?_
  refine e_iast dX4_panHears_269 rfl (36 + p) (j_add rfl rfl) (by omega) (by decide) (fun n1 hn1 => ?_)
  refine e_aload_n dX4_panHears_270 rfl ?_
  refine e_getR (o := 4) (b := 102) dX4_panHears_271 lkX4_19 rfl rfl (by decide) rfl ?_
  refine e_bipush (v := 41) dX4_panHears_274 rfl ?_
  refine e_iload_n dX4_panHears_276 rfl ?_
  refine e_iadd dX4_panHears_277 ?_
  refine e_iload dX4_panHears_278 rfl ?_
  refine e_aload_n dX4_panHears_280 rfl ?_
  refine e_getR (o := 4) (b := 102) dX4_panHears_281 lkX4_19 rfl rfl (by decide) rfl ?_
  refine e_bipush (v := 26) dX4_panHears_284 rfl ?_
  refine e_iload_n dX4_panHears_286 rfl ?_
  refine e_iadd dX4_panHears_287 ?_
  refine e_iald dX4_panHears_288 rfl (26 + p) (j_add rfl rfl) (by omega) (by decide) ?_
  rw [show n1 102 (26 + p) = m 102 (26 + p) from by rw [hn1, jup_s, upd_n _ _ (by omega)]]
  refine e_icmp_lt 296 dX4_panHears_289 (by decide) (fun c289 => ?_) (fun c289 => ?_)
  · refine e_iconst (v := 0) dX4_panHears_296 rfl ?_
    refine e_iast dX4_panHears_297 rfl (41 + p) (j_add rfl rfl) (by omega) (by decide) (fun n2 hn2 => ?_)
    refine e_aload_n dX4_panHears_298 rfl ?_
    refine e_getR (o := 4) (b := 102) dX4_panHears_299 lkX4_19 rfl rfl (by decide) rfl ?_
    refine e_bipush (v := 46) dX4_panHears_302 rfl ?_
    refine e_iload_n dX4_panHears_304 rfl ?_
    refine e_iadd dX4_panHears_305 ?_
    refine e_aload_n dX4_panHears_306 rfl ?_
    refine e_getR (o := 4) (b := 102) dX4_panHears_307 lkX4_19 rfl rfl (by decide) rfl ?_
    refine e_bipush (v := 41) dX4_panHears_310 rfl ?_
    refine e_iload_n dX4_panHears_312 rfl ?_
    refine e_iadd dX4_panHears_313 ?_
    refine e_iald dX4_panHears_314 rfl (41 + p) (j_add rfl rfl) (by omega) (by decide) ?_
    rw [show n2 102 (41 + p) = (if m 102 (26 + p) ≤ t then 1 else 0 : Int32) from by rw [hn2, jup_s, upd_s]; first | rw [if_pos (Int32.not_lt.mp c289)] | rw [if_neg (Int32.not_le.mpr c289)]]
    refine e_iconst (v := 1) dX4_panHears_315 rfl ?_
    refine e_icmp_ne 324 dX4_panHears_316 (by decide) (fun c316 => ?_) (fun c316 => ?_)
    · refine e_iload_n dX4_panHears_324 rfl ?_
      refine e_iast dX4_panHears_325 rfl (46 + p) (j_add rfl rfl) (by omega) (by decide) (fun n3 hn3 => ?_)
      exact e_vret dX4_panHears_326 rfl (by rw [hn3, hn2, hn1]; unfold setP3; rw [jup_s, jup_jup, jup_s, jup_jup]; first | (have g : m 102 (26 + p) ≤ t := Int32.not_lt.mp c289; simp [g] at c316 ⊢; done) | (have g : ¬ m 102 (26 + p) ≤ t := Int32.not_le.mpr c289; simp [g] at c316 ⊢; done))
    · refine e_ldc dX4_panHears_319 kkX4_127 ?_
      refine e_goto 325 dX4_panHears_321 (by decide) ?_
      refine e_iast dX4_panHears_325 rfl (46 + p) (j_add rfl rfl) (by omega) (by decide) (fun n3 hn3 => ?_)
      exact e_vret dX4_panHears_326 rfl (by rw [hn3, hn2, hn1]; unfold setP3; rw [jup_s, jup_jup, jup_s, jup_jup]; first | (have g : m 102 (26 + p) ≤ t := Int32.not_lt.mp c289; simp [g] at c316 ⊢; done) | (have g : ¬ m 102 (26 + p) ≤ t := Int32.not_le.mpr c289; simp [g] at c316 ⊢; done))
  · refine e_iconst (v := 1) dX4_panHears_292 rfl ?_
    refine e_goto 297 dX4_panHears_293 (by decide) ?_
    refine e_iast dX4_panHears_297 rfl (41 + p) (j_add rfl rfl) (by omega) (by decide) (fun n2 hn2 => ?_)
    refine e_aload_n dX4_panHears_298 rfl ?_
    refine e_getR (o := 4) (b := 102) dX4_panHears_299 lkX4_19 rfl rfl (by decide) rfl ?_
    refine e_bipush (v := 46) dX4_panHears_302 rfl ?_
    refine e_iload_n dX4_panHears_304 rfl ?_
    refine e_iadd dX4_panHears_305 ?_
    refine e_aload_n dX4_panHears_306 rfl ?_
    refine e_getR (o := 4) (b := 102) dX4_panHears_307 lkX4_19 rfl rfl (by decide) rfl ?_
    refine e_bipush (v := 41) dX4_panHears_310 rfl ?_
    refine e_iload_n dX4_panHears_312 rfl ?_
    refine e_iadd dX4_panHears_313 ?_
    refine e_iald dX4_panHears_314 rfl (41 + p) (j_add rfl rfl) (by omega) (by decide) ?_
    rw [show n2 102 (41 + p) = (if m 102 (26 + p) ≤ t then 1 else 0 : Int32) from by rw [hn2, jup_s, upd_s]; first | rw [if_pos (Int32.not_lt.mp c289)] | rw [if_neg (Int32.not_le.mpr c289)]]
    refine e_iconst (v := 1) dX4_panHears_315 rfl ?_
    refine e_icmp_ne 324 dX4_panHears_316 (by decide) (fun c316 => ?_) (fun c316 => ?_)
    · refine e_iload_n dX4_panHears_324 rfl ?_
      refine e_iast dX4_panHears_325 rfl (46 + p) (j_add rfl rfl) (by omega) (by decide) (fun n3 hn3 => ?_)
      exact e_vret dX4_panHears_326 rfl (by rw [hn3, hn2, hn1]; unfold setP3; rw [jup_s, jup_jup, jup_s, jup_jup]; first | (have g : m 102 (26 + p) ≤ t := Int32.not_lt.mp c289; simp [g] at c316 ⊢; done) | (have g : ¬ m 102 (26 + p) ≤ t := Int32.not_le.mpr c289; simp [g] at c316 ⊢; done))
    · refine e_ldc dX4_panHears_319 kkX4_127 ?_
      refine e_goto 325 dX4_panHears_321 (by decide) ?_
      refine e_iast dX4_panHears_325 rfl (46 + p) (j_add rfl rfl) (by omega) (by decide) (fun n3 hn3 => ?_)
      exact e_vret dX4_panHears_326 rfl (by rw [hn3, hn2, hn1]; unfold setP3; rw [jup_s, jup_jup, jup_s, jup_jup]; first | (have g : m 102 (26 + p) ≤ t := Int32.not_lt.mp c289; simp [g] at c316 ⊢; done) | (have g : ¬ m 102 (26 + p) ≤ t := Int32.not_le.mpr c289; simp [g] at c316 ⊢; done))

set_option maxHeartbeats 2000000 in
set_option maxRecDepth 20000 in
theorem s_ph183 (m : jM) (p : Nat) (hp : p < 5) (l x6 : Int32) (r : Bool) : jE (jmd mX4_panHears (vP (fun m1 => jup m 102 (setP3 (m 102) p (thkB (m 102 (16 + p)) (m 102 0) (m 102 (36 + p)) l r) l) = m1))) mX4_panHears 183 [some (.ref 98), some (.int (nI p)), some (.int l), some (.int (b01 r)), some (.int (m 102 (16 + p))), some (.int (m 102 (36 + p))), some (.int x6)] [] m := by
  refine e_iload dX4_panHears_183 rfl ?_
  refine e_iconst (v := 5) dX4_panHears_185 rfl ?_
  refine e_icmp_ne 206 dX4_panHears_186 (by decide) (fun c186 => ?_) (fun c186 => ?_)
  · refine e_iload dX4_panHears_206 rfl ?_
    refine e_iconst (v := 4) dX4_panHears_208 rfl ?_
    refine e_icmp_eq 259 dX4_panHears_209 (by decide) (fun c209 => ?_) (fun c209 => ?_)
    · rw [show thkB (m 102 (16 + p)) (m 102 0) (m 102 (36 + p)) l r = m 102 (36 + p) from by unfold thkB; simp_all [b01, j_ltn, -Int32.not_le, -Int32.not_lt]]
      exact s_ph259 m p hp (m 102 (36 + p)) l (b01 r) (m 102 (16 + p)) x6
    · refine e_iload_n dX4_panHears_212 rfl ?_
      refine e_if_lt 259 dX4_panHears_213 (by decide) (fun c213 => ?_) (fun c213 => ?_)
      · rw [show thkB (m 102 (16 + p)) (m 102 0) (m 102 (36 + p)) l r = m 102 (36 + p) from by unfold thkB; simp_all [b01, j_ltn, -Int32.not_le, -Int32.not_lt]]
        exact s_ph259 m p hp (m 102 (36 + p)) l (b01 r) (m 102 (16 + p)) x6
      · refine e_iload_n dX4_panHears_216 rfl ?_
        refine e_if_eq 227 dX4_panHears_217 (by decide) (fun c217 => ?_) (fun c217 => ?_)
        · refine e_iload dX4_panHears_227 rfl ?_
          refine e_iconst (v := 2) dX4_panHears_229 rfl ?_
          refine e_icmp_eq 244 dX4_panHears_230 (by decide) (fun c230 => ?_) (fun c230 => ?_)
          · refine e_iconst (v := 0) dX4_panHears_244 rfl ?_
            refine e_goto 257 dX4_panHears_245 (by decide) ?_
            refine e_istore (L' := [some (.ref 98), some (.int (nI p)), some (.int l), some (.int (b01 r)), some (.int (m 102 (16 + p))), some (.int 0), some (.int x6)]) dX4_panHears_257 (Nat.le_of_ble_eq_true rfl) (Nat.le_of_ble_eq_true rfl) (jnl_at (i := 4) rfl) rfl ?_
            rw [show thkB (m 102 (16 + p)) (m 102 0) (m 102 (36 + p)) l r = 0 from by unfold thkB; simp_all [b01, j_ltn, -Int32.not_le, -Int32.not_lt]]
            exact s_ph259 m p hp (0) l (b01 r) (m 102 (16 + p)) x6
          · refine e_iload dX4_panHears_233 rfl ?_
            refine e_aload_n dX4_panHears_235 rfl ?_
            refine e_getR (o := 4) (b := 102) dX4_panHears_236 lkX4_19 rfl rfl (by decide) rfl ?_
            refine e_iconst (v := 0) dX4_panHears_239 rfl ?_
            refine e_iald dX4_panHears_240 rfl 0 rfl (by decide) (by decide) ?_
            refine e_icmp_ge 248 dX4_panHears_241 (by decide) (fun c241 => ?_) (fun c241 => ?_)
            · refine e_iload dX4_panHears_248 rfl ?_
              refine e_aload_n dX4_panHears_250 rfl ?_
              refine e_getR (o := 4) (b := 102) dX4_panHears_251 lkX4_19 rfl rfl (by decide) rfl ?_
              refine e_iconst (v := 0) dX4_panHears_254 rfl ?_
              refine e_iald dX4_panHears_255 rfl 0 rfl (by decide) (by decide) ?_
              refine e_isub dX4_panHears_256 ?_
              refine e_istore (L' := [some (.ref 98), some (.int (nI p)), some (.int l), some (.int (b01 r)), some (.int (m 102 (16 + p))), some (.int ((m 102 (36 + p)) - (m 102 0))), some (.int x6)]) dX4_panHears_257 (Nat.le_of_ble_eq_true rfl) (Nat.le_of_ble_eq_true rfl) (jnl_at (i := 4) rfl) rfl ?_
              rw [show thkB (m 102 (16 + p)) (m 102 0) (m 102 (36 + p)) l r = (m 102 (36 + p)) - (m 102 0) from by unfold thkB; simp_all [b01, j_ltn, -Int32.not_le, -Int32.not_lt]]
              exact s_ph259 m p hp ((m 102 (36 + p)) - (m 102 0)) l (b01 r) (m 102 (16 + p)) x6
            · refine e_iconst (v := 0) dX4_panHears_244 rfl ?_
              refine e_goto 257 dX4_panHears_245 (by decide) ?_
              refine e_istore (L' := [some (.ref 98), some (.int (nI p)), some (.int l), some (.int (b01 r)), some (.int (m 102 (16 + p))), some (.int 0), some (.int x6)]) dX4_panHears_257 (Nat.le_of_ble_eq_true rfl) (Nat.le_of_ble_eq_true rfl) (jnl_at (i := 4) rfl) rfl ?_
              rw [show thkB (m 102 (16 + p)) (m 102 0) (m 102 (36 + p)) l r = 0 from by unfold thkB; simp_all [b01, j_ltn, -Int32.not_le, -Int32.not_lt]]
              exact s_ph259 m p hp (0) l (b01 r) (m 102 (16 + p)) x6
        · refine e_iload dX4_panHears_220 rfl ?_
          refine e_iconst (v := 1) dX4_panHears_222 rfl ?_
          refine e_iadd dX4_panHears_223 ?_
          refine e_goto 257 dX4_panHears_224 (by decide) ?_
          refine e_istore (L' := [some (.ref 98), some (.int (nI p)), some (.int l), some (.int (b01 r)), some (.int (m 102 (16 + p))), some (.int ((m 102 (36 + p)) + 1)), some (.int x6)]) dX4_panHears_257 (Nat.le_of_ble_eq_true rfl) (Nat.le_of_ble_eq_true rfl) (jnl_at (i := 4) rfl) rfl ?_
          rw [show thkB (m 102 (16 + p)) (m 102 0) (m 102 (36 + p)) l r = (m 102 (36 + p)) + 1 from by unfold thkB; simp_all [b01, j_ltn, -Int32.not_le, -Int32.not_lt]]
          exact s_ph259 m p hp ((m 102 (36 + p)) + 1) l (b01 r) (m 102 (16 + p)) x6
  · refine e_iload_n dX4_panHears_189 rfl ?_
    refine e_if_ge 200 dX4_panHears_190 (by decide) (fun c190 => ?_) (fun c190 => ?_)
    · refine e_iconst (v := 0) dX4_panHears_200 rfl ?_
      refine e_istore (L' := [some (.ref 98), some (.int (nI p)), some (.int l), some (.int (b01 r)), some (.int (m 102 (16 + p))), some (.int 0), some (.int x6)]) dX4_panHears_201 (Nat.le_of_ble_eq_true rfl) (Nat.le_of_ble_eq_true rfl) (jnl_at (i := 4) rfl) rfl ?_
      refine e_goto 259 dX4_panHears_203 (by decide) ?_
      rw [show thkB (m 102 (16 + p)) (m 102 0) (m 102 (36 + p)) l r = 0 from by unfold thkB; simp_all [b01, j_ltn, -Int32.not_le, -Int32.not_lt]]
      exact s_ph259 m p hp (0) l (b01 r) (m 102 (16 + p)) x6
    · refine e_iload dX4_panHears_193 rfl ?_
      refine e_iconst (v := 1) dX4_panHears_195 rfl ?_
      refine e_iadd dX4_panHears_196 ?_
      refine e_goto 201 dX4_panHears_197 (by decide) ?_
      refine e_istore (L' := [some (.ref 98), some (.int (nI p)), some (.int l), some (.int (b01 r)), some (.int (m 102 (16 + p))), some (.int ((m 102 (36 + p)) + 1)), some (.int x6)]) dX4_panHears_201 (Nat.le_of_ble_eq_true rfl) (Nat.le_of_ble_eq_true rfl) (jnl_at (i := 4) rfl) rfl ?_
      refine e_goto 259 dX4_panHears_203 (by decide) ?_
      rw [show thkB (m 102 (16 + p)) (m 102 0) (m 102 (36 + p)) l r = (m 102 (36 + p)) + 1 from by unfold thkB; simp_all [b01, j_ltn, -Int32.not_le, -Int32.not_lt]]
      exact s_ph259 m p hp ((m 102 (36 + p)) + 1) l (b01 r) (m 102 (16 + p)) x6

set_option maxHeartbeats 2000000 in
set_option maxRecDepth 20000 in
theorem s_ph113 (m : jM) (p : Nat) (hp : p < 5) (l x4 : Int32) (r : Bool) : jE (jmd mX4_panHears (vP (fun m1 => jup m 102 (setP3 (m 102) p (thkB (m 102 (16 + p)) (m 102 0) (m 102 (36 + p)) l (rqB (m 102 (16 + p)) (m 102 (46 + p)) l r)) l) = m1))) mX4_panHears 113 [some (.ref 98), some (.int (nI p)), some (.int l), some (.int (b01 r)), some (.int x4), none, none] [] m := by
  refine e_aload_n dX4_panHears_113 rfl ?_
  refine e_getR (o := 4) (b := 102) dX4_panHears_114 lkX4_19 rfl rfl (by decide) rfl ?_
  refine e_bipush (v := 16) dX4_panHears_117 rfl ?_
  refine e_iload_n dX4_panHears_119 rfl ?_
  refine e_iadd dX4_panHears_120 ?_
  refine e_iald dX4_panHears_121 rfl (16 + p) (j_add rfl rfl) (by omega) (by decide) ?_
  refine e_istore (L' := [some (.ref 98), some (.int (nI p)), some (.int l), some (.int (b01 r)), some (.int (m 102 (16 + p))), none, none]) dX4_panHears_122 (Nat.le_of_ble_eq_true rfl) (Nat.le_of_ble_eq_true rfl) (jnl_at (i := 3) rfl) rfl ?_
  refine e_aload_n dX4_panHears_124 rfl ?_
  refine e_getR (o := 4) (b := 102) dX4_panHears_125 lkX4_19 rfl rfl (by decide) rfl ?_
  refine e_bipush (v := 36) dX4_panHears_128 rfl ?_
  refine e_iload_n dX4_panHears_130 rfl ?_
  refine e_iadd dX4_panHears_131 ?_
  refine e_iald dX4_panHears_132 rfl (36 + p) (j_add rfl rfl) (by omega) (by decide) ?_
  refine e_istore (L' := [some (.ref 98), some (.int (nI p)), some (.int l), some (.int (b01 r)), some (.int (m 102 (16 + p))), some (.int (m 102 (36 + p))), none]) dX4_panHears_133 (Nat.le_of_ble_eq_true rfl) (Nat.le_of_ble_eq_true rfl) (jnl_at (i := 4) rfl) rfl ?_
  refine e_aload_n dX4_panHears_135 rfl ?_
  refine e_getR (o := 4) (b := 102) dX4_panHears_136 lkX4_19 rfl rfl (by decide) rfl ?_
  refine e_bipush (v := 46) dX4_panHears_139 rfl ?_
  refine e_iload_n dX4_panHears_141 rfl ?_
  refine e_iadd dX4_panHears_142 ?_
  refine e_iald dX4_panHears_143 rfl (46 + p) (j_add rfl rfl) (by omega) (by decide) ?_
  refine e_istore (L' := [some (.ref 98), some (.int (nI p)), some (.int l), some (.int (b01 r)), some (.int (m 102 (16 + p))), some (.int (m 102 (36 + p))), some (.int (m 102 (46 + p)))]) dX4_panHears_144 (Nat.le_of_ble_eq_true rfl) (Nat.le_of_ble_eq_true rfl) (jnl_at (i := 5) rfl) rfl ?_
  refine e_iload dX4_panHears_146 rfl ?_
  refine e_iconst (v := 3) dX4_panHears_148 rfl ?_
  refine e_icmp_ne 183 dX4_panHears_149 (by decide) (fun c149 => ?_) (fun c149 => ?_)
  · rw [show rqB (m 102 (16 + p)) (m 102 (46 + p)) l r = r from by unfold rqB; simp_all [b01, j_ltn, -Int32.not_le, -Int32.not_lt]]
    exact s_ph183 m p hp l (m 102 (46 + p)) r
  · refine e_iload_n dX4_panHears_152 rfl ?_
    refine e_if_eq 181 dX4_panHears_153 (by decide) (fun c153 => ?_) (fun c153 => ?_)
    · refine e_iconst (v := 0) dX4_panHears_181 rfl ?_
      refine e_istore_n (L' := [some (.ref 98), some (.int (nI p)), some (.int l), some (.int 0), some (.int (m 102 (16 + p))), some (.int (m 102 (36 + p))), some (.int (m 102 (46 + p)))]) dX4_panHears_182 (Nat.le_of_ble_eq_true rfl) (Nat.le_of_ble_eq_true rfl) (jnl_at (i := 2) rfl) rfl ?_
      rw [show rqB (m 102 (16 + p)) (m 102 (46 + p)) l r = false from by unfold rqB; simp_all [b01, j_ltn, -Int32.not_le, -Int32.not_lt]]
      exact s_ph183 m p hp l (m 102 (46 + p)) false
    · refine e_iload dX4_panHears_156 rfl ?_
      refine e_if_lt 181 dX4_panHears_158 (by decide) (fun c158 => ?_) (fun c158 => ?_)
      · refine e_iconst (v := 0) dX4_panHears_181 rfl ?_
        refine e_istore_n (L' := [some (.ref 98), some (.int (nI p)), some (.int l), some (.int 0), some (.int (m 102 (16 + p))), some (.int (m 102 (36 + p))), some (.int (m 102 (46 + p)))]) dX4_panHears_182 (Nat.le_of_ble_eq_true rfl) (Nat.le_of_ble_eq_true rfl) (jnl_at (i := 2) rfl) rfl ?_
        rw [show rqB (m 102 (16 + p)) (m 102 (46 + p)) l r = false from by unfold rqB; simp_all [b01, j_ltn, -Int32.not_le, -Int32.not_lt]]
        exact s_ph183 m p hp l (m 102 (46 + p)) false
      · refine e_iload_n dX4_panHears_161 rfl ?_
        refine e_iload dX4_panHears_162 rfl ?_
        refine e_iconst (v := 2) dX4_panHears_164 rfl ?_
        refine e_iadd dX4_panHears_165 ?_
        refine e_icmp_eq 177 dX4_panHears_166 (by decide) (fun c166 => ?_) (fun c166 => ?_)
        · refine e_iconst (v := 1) dX4_panHears_177 rfl ?_
          refine e_goto 182 dX4_panHears_178 (by decide) ?_
          refine e_istore_n (L' := [some (.ref 98), some (.int (nI p)), some (.int l), some (.int 1), some (.int (m 102 (16 + p))), some (.int (m 102 (36 + p))), some (.int (m 102 (46 + p)))]) dX4_panHears_182 (Nat.le_of_ble_eq_true rfl) (Nat.le_of_ble_eq_true rfl) (jnl_at (i := 2) rfl) rfl ?_
          rw [show rqB (m 102 (16 + p)) (m 102 (46 + p)) l r = true from by unfold rqB; simp_all [b01, j_ltn, -Int32.not_le, -Int32.not_lt]]
          exact s_ph183 m p hp l (m 102 (46 + p)) true
        · refine e_iload_n dX4_panHears_169 rfl ?_
          refine e_iload dX4_panHears_170 rfl ?_
          refine e_iconst (v := 2) dX4_panHears_172 rfl ?_
          refine e_isub dX4_panHears_173 ?_
          refine e_icmp_ne 181 dX4_panHears_174 (by decide) (fun c174 => ?_) (fun c174 => ?_)
          · refine e_iconst (v := 0) dX4_panHears_181 rfl ?_
            refine e_istore_n (L' := [some (.ref 98), some (.int (nI p)), some (.int l), some (.int 0), some (.int (m 102 (16 + p))), some (.int (m 102 (36 + p))), some (.int (m 102 (46 + p)))]) dX4_panHears_182 (Nat.le_of_ble_eq_true rfl) (Nat.le_of_ble_eq_true rfl) (jnl_at (i := 2) rfl) rfl ?_
            rw [show rqB (m 102 (16 + p)) (m 102 (46 + p)) l r = false from by unfold rqB; simp_all [b01, j_ltn, -Int32.not_le, -Int32.not_lt]]
            exact s_ph183 m p hp l (m 102 (46 + p)) false
          · refine e_iconst (v := 1) dX4_panHears_177 rfl ?_
            refine e_goto 182 dX4_panHears_178 (by decide) ?_
            refine e_istore_n (L' := [some (.ref 98), some (.int (nI p)), some (.int l), some (.int 1), some (.int (m 102 (16 + p))), some (.int (m 102 (36 + p))), some (.int (m 102 (46 + p)))]) dX4_panHears_182 (Nat.le_of_ble_eq_true rfl) (Nat.le_of_ble_eq_true rfl) (jnl_at (i := 2) rfl) rfl ?_
            rw [show rqB (m 102 (16 + p)) (m 102 (46 + p)) l r = true from by unfold rqB; simp_all [b01, j_ltn, -Int32.not_le, -Int32.not_lt]]
            exact s_ph183 m p hp l (m 102 (46 + p)) true

set_option maxHeartbeats 2000000 in
set_option maxRecDepth 20000 in
theorem s_panHears (m : jM) (p : Nat) (hp : p < 5) (V : Nat) (hV : V ≤ 3) (h1 : m 102 1 = nI V) : vX mX4_panHears [.ref 98, .int (nI p)] m (fun m1 => jup m 102 (hearB (m 102) (m 106) V p) = m1) := by
  refine jX_of (L := [some (.ref 98), some (.int (nI p)), none, none, none, none, none]) 5 rfl rfl (by decide +kernel) rfl ?_
  refine e_ldc dX4_panHears_0 kkX4_127 ?_
  refine e_istore_n (L' := [some (.ref 98), some (.int (nI p)), some (.int (-1000000)), none, none, none, none]) dX4_panHears_2 (Nat.le_of_ble_eq_true rfl) (Nat.le_of_ble_eq_true rfl) (jnl_at (i := 1) rfl) rfl ?_
  refine e_iconst (v := 1) dX4_panHears_3 rfl ?_
  refine e_istore_n (L' := [some (.ref 98), some (.int (nI p)), some (.int (-1000000)), some (.int 1), none, none, none]) dX4_panHears_4 (Nat.le_of_ble_eq_true rfl) (Nat.le_of_ble_eq_true rfl) (jnl_at (i := 2) rfl) rfl ?_
  refine e_iconst (v := 0) dX4_panHears_5 rfl ?_
  refine e_istore (L' := [some (.ref 98), some (.int (nI p)), some (.int (-1000000)), some (.int 1), some (.int 0), none, none]) dX4_panHears_6 (Nat.le_of_ble_eq_true rfl) (Nat.le_of_ble_eq_true rfl) (jnl_at (i := 3) rfl) rfl ?_
  refine e_loop 8 V (fun k => [some (.ref 98), some (.int (nI p)), some (.int (lsB (m 102) (m 106) p k)), some (.int (b01 (rtB (m 102) (m 106) p k))), some (.int (nI k)), none, none]) (fun k => m) 0 (Nat.zero_le _) rfl (rfl) ?_ ?_
  · show jE _ _ 8 [some (.ref 98), some (.int (nI p)), some (.int (lsB (m 102) (m 106) p V)), some (.int (b01 (rtB (m 102) (m 106) p V))), some (.int (nI V)), none, none] [] m
    refine e_iload dX4_panHears_8 rfl ?_
    refine e_aload_n dX4_panHears_10 rfl ?_
    refine e_getR (o := 4) (b := 102) dX4_panHears_11 lkX4_19 rfl rfl (by decide) rfl ?_
    refine e_iconst (v := 1) dX4_panHears_14 rfl ?_
    refine e_iald dX4_panHears_15 rfl 1 rfl (by decide) (by decide) ?_
    rw [show m 102 1 = nI V from h1]
    refine e_icmp_ge 113 dX4_panHears_16 (by decide) (fun c16 => ?_) (fun h => absurd (j_done rfl rfl) h)
    exact s_ph113 m p hp _ _ _
  · intro k hk ih
    show jE _ _ 8 [some (.ref 98), some (.int (nI p)), some (.int (lsB (m 102) (m 106) p k)), some (.int (b01 (rtB (m 102) (m 106) p k))), some (.int (nI k)), none, none] [] m
    refine e_iload dX4_panHears_8 rfl ?_
    refine e_aload_n dX4_panHears_10 rfl ?_
    refine e_getR (o := 4) (b := 102) dX4_panHears_11 lkX4_19 rfl rfl (by decide) rfl ?_
    refine e_iconst (v := 1) dX4_panHears_14 rfl ?_
    refine e_iald dX4_panHears_15 rfl 1 rfl (by decide) (by decide) ?_
    rw [show m 102 1 = nI V from h1]
    refine e_icmp_ge 113 dX4_panHears_16 (by decide) (fun h => absurd h (j_more (N := V) rfl rfl (by omega) (by omega))) (fun c16 => ?_)
    refine e_aload_n dX4_panHears_19 rfl ?_
    refine e_getR (o := 4) (b := 102) dX4_panHears_20 lkX4_19 rfl rfl (by decide) rfl ?_
    refine e_bipush (v := 31) dX4_panHears_23 rfl ?_
    refine e_iload_n dX4_panHears_25 rfl ?_
    refine e_iadd dX4_panHears_26 ?_
    refine e_iald dX4_panHears_27 rfl (31 + p) (j_add rfl rfl) (by omega) (by decide) ?_
    refine e_iload dX4_panHears_28 rfl ?_
    refine e_callSi (n := 2) mX4_has [.int (m 102 (31 + p)), .int (nI k)] dX4_panHears_30 ckX4_149 rfl (by decide +kernel) rfl rfl (by decide) ⟨Nat.zero_le _, Nat.zero_le _⟩ (s_has (m 102 (31 + p)) (nI k) m) (fun v30 m1 hm1 => ?_)
    rcases hm1 with ⟨rfl, ⟨rfl, q30⟩ | ⟨rfl, q30⟩⟩
    · refine e_if_eq 107 dX4_panHears_33 (by decide) (fun h => absurd h (by decide)) (fun c33 => ?_)
      refine e_aload_n dX4_panHears_36 rfl ?_
      refine e_getR (o := 8) (b := 106) dX4_panHears_37 lkX4_31 rfl rfl (by decide) rfl ?_
      refine e_iload dX4_panHears_40 rfl ?_
      refine e_iald dX4_panHears_42 rfl k rfl (by omega) (by decide) ?_
      refine e_bipush (v := 7) dX4_panHears_43 rfl ?_
      refine e_icmp_ge 107 dX4_panHears_45 (by decide) (fun c45 => ?_) (fun c45 => ?_)
      · refine e_iinc (v := nI (k + 1)) (L' := [some (.ref 98), some (.int (nI p)), some (.int (lsB (m 102) (m 106) p k)), some (.int (b01 (rtB (m 102) (m 106) p k))), some (.int (nI (k + 1))), none, none]) dX4_panHears_107 rfl (j_inc rfl) (by decide) (jnl_at (i := 3) rfl) rfl ?_
        refine e_goto 8 dX4_panHears_110 (by decide) ?_
        refine e_start ?_ rfl ih
        simp_all [lsB, rtB, b01, btI, j_ltn, -Int32.not_le, -Int32.not_lt]
      · refine e_iload_n dX4_panHears_48 rfl ?_
        refine e_if_eq 78 dX4_panHears_49 (by decide) (fun c49 => ?_) (fun c49 => ?_)
        · refine e_iconst (v := 0) dX4_panHears_78 rfl ?_
          refine e_istore_n (L' := [some (.ref 98), some (.int (nI p)), some (.int (lsB (m 102) (m 106) p k)), some (.int 0), some (.int (nI k)), none, none]) dX4_panHears_79 (Nat.le_of_ble_eq_true rfl) (Nat.le_of_ble_eq_true rfl) (jnl_at (i := 2) rfl) rfl ?_
          refine e_iload_n dX4_panHears_80 rfl ?_
          refine e_if_lt 95 dX4_panHears_81 (by decide) (fun c81 => ?_) (fun c81 => ?_)
          · refine e_aload_n dX4_panHears_95 rfl ?_
            refine e_getR (o := 8) (b := 106) dX4_panHears_96 lkX4_31 rfl rfl (by decide) rfl ?_
            refine e_iload dX4_panHears_99 rfl ?_
            refine e_iald dX4_panHears_101 rfl k rfl (by omega) (by decide) ?_
            refine e_goto 106 dX4_panHears_102 (by decide) ?_
            refine e_istore_n (L' := [some (.ref 98), some (.int (nI p)), some (.int (m 106 k)), some (.int 0), some (.int (nI k)), none, none]) dX4_panHears_106 (Nat.le_of_ble_eq_true rfl) (Nat.le_of_ble_eq_true rfl) (jnl_at (i := 1) rfl) rfl ?_
            refine e_iinc (v := nI (k + 1)) (L' := [some (.ref 98), some (.int (nI p)), some (.int (m 106 k)), some (.int 0), some (.int (nI (k + 1))), none, none]) dX4_panHears_107 rfl (j_inc rfl) (by decide) (jnl_at (i := 3) rfl) rfl ?_
            refine e_goto 8 dX4_panHears_110 (by decide) ?_
            refine e_start ?_ rfl ih
            simp_all [lsB, rtB, b01, btI, j_ltn, -Int32.not_le, -Int32.not_lt]
          · refine e_aload_n dX4_panHears_84 rfl ?_
            refine e_getR (o := 8) (b := 106) dX4_panHears_85 lkX4_31 rfl rfl (by decide) rfl ?_
            refine e_iload dX4_panHears_88 rfl ?_
            refine e_iald dX4_panHears_90 rfl k rfl (by omega) (by decide) ?_
            refine e_iload_n dX4_panHears_91 rfl ?_
            refine e_icmp_ge 105 dX4_panHears_92 (by decide) (fun c92 => ?_) (fun c92 => ?_)
            · refine e_iload_n dX4_panHears_105 rfl ?_
              refine e_istore_n (L' := [some (.ref 98), some (.int (nI p)), some (.int (lsB (m 102) (m 106) p k)), some (.int 0), some (.int (nI k)), none, none]) dX4_panHears_106 (Nat.le_of_ble_eq_true rfl) (Nat.le_of_ble_eq_true rfl) (jnl_at (i := 1) rfl) rfl ?_
              refine e_iinc (v := nI (k + 1)) (L' := [some (.ref 98), some (.int (nI p)), some (.int (lsB (m 102) (m 106) p k)), some (.int 0), some (.int (nI (k + 1))), none, none]) dX4_panHears_107 rfl (j_inc rfl) (by decide) (jnl_at (i := 3) rfl) rfl ?_
              refine e_goto 8 dX4_panHears_110 (by decide) ?_
              refine e_start ?_ rfl ih
              simp_all [lsB, rtB, b01, btI, j_ltn, -Int32.not_le, -Int32.not_lt]
            · refine e_aload_n dX4_panHears_95 rfl ?_
              refine e_getR (o := 8) (b := 106) dX4_panHears_96 lkX4_31 rfl rfl (by decide) rfl ?_
              refine e_iload dX4_panHears_99 rfl ?_
              refine e_iald dX4_panHears_101 rfl k rfl (by omega) (by decide) ?_
              refine e_goto 106 dX4_panHears_102 (by decide) ?_
              refine e_istore_n (L' := [some (.ref 98), some (.int (nI p)), some (.int (m 106 k)), some (.int 0), some (.int (nI k)), none, none]) dX4_panHears_106 (Nat.le_of_ble_eq_true rfl) (Nat.le_of_ble_eq_true rfl) (jnl_at (i := 1) rfl) rfl ?_
              refine e_iinc (v := nI (k + 1)) (L' := [some (.ref 98), some (.int (nI p)), some (.int (m 106 k)), some (.int 0), some (.int (nI (k + 1))), none, none]) dX4_panHears_107 rfl (j_inc rfl) (by decide) (jnl_at (i := 3) rfl) rfl ?_
              refine e_goto 8 dX4_panHears_110 (by decide) ?_
              refine e_start ?_ rfl ih
              simp_all [lsB, rtB, b01, btI, j_ltn, -Int32.not_le, -Int32.not_lt]
        · refine e_aload_n dX4_panHears_52 rfl ?_
          refine e_getR (o := 4) (b := 102) dX4_panHears_53 lkX4_19 rfl rfl (by decide) rfl ?_
          refine e_bipush (v := 21) dX4_panHears_56 rfl ?_
          refine e_iload_n dX4_panHears_58 rfl ?_
          refine e_iadd dX4_panHears_59 ?_
          refine e_iald dX4_panHears_60 rfl (21 + p) (j_add rfl rfl) (by omega) (by decide) ?_
          refine e_aload_n dX4_panHears_61 rfl ?_
          refine e_getR (o := 8) (b := 106) dX4_panHears_62 lkX4_31 rfl rfl (by decide) rfl ?_
          refine e_iload dX4_panHears_65 rfl ?_
          refine e_iald dX4_panHears_67 rfl k rfl (by omega) (by decide) ?_
          refine e_callSi (n := 2) mX4_has [.int (m 102 (21 + p)), .int (m 106 k)] dX4_panHears_68 ckX4_149 rfl (by decide +kernel) rfl rfl (by decide) ⟨Nat.zero_le _, Nat.zero_le _⟩ (s_has (m 102 (21 + p)) (m 106 k) m) (fun v68 m2 hm2 => ?_)
          rcases hm2 with ⟨rfl, ⟨rfl, q68⟩ | ⟨rfl, q68⟩⟩
          · refine e_if_eq 78 dX4_panHears_71 (by decide) (fun h => absurd h (by decide)) (fun c71 => ?_)
            refine e_iconst (v := 1) dX4_panHears_74 rfl ?_
            refine e_goto 79 dX4_panHears_75 (by decide) ?_
            refine e_istore_n (L' := [some (.ref 98), some (.int (nI p)), some (.int (lsB (m 102) (m 106) p k)), some (.int 1), some (.int (nI k)), none, none]) dX4_panHears_79 (Nat.le_of_ble_eq_true rfl) (Nat.le_of_ble_eq_true rfl) (jnl_at (i := 2) rfl) rfl ?_
            refine e_iload_n dX4_panHears_80 rfl ?_
            refine e_if_lt 95 dX4_panHears_81 (by decide) (fun c81 => ?_) (fun c81 => ?_)
            · refine e_aload_n dX4_panHears_95 rfl ?_
              refine e_getR (o := 8) (b := 106) dX4_panHears_96 lkX4_31 rfl rfl (by decide) rfl ?_
              refine e_iload dX4_panHears_99 rfl ?_
              refine e_iald dX4_panHears_101 rfl k rfl (by omega) (by decide) ?_
              refine e_goto 106 dX4_panHears_102 (by decide) ?_
              refine e_istore_n (L' := [some (.ref 98), some (.int (nI p)), some (.int (m 106 k)), some (.int 1), some (.int (nI k)), none, none]) dX4_panHears_106 (Nat.le_of_ble_eq_true rfl) (Nat.le_of_ble_eq_true rfl) (jnl_at (i := 1) rfl) rfl ?_
              refine e_iinc (v := nI (k + 1)) (L' := [some (.ref 98), some (.int (nI p)), some (.int (m 106 k)), some (.int 1), some (.int (nI (k + 1))), none, none]) dX4_panHears_107 rfl (j_inc rfl) (by decide) (jnl_at (i := 3) rfl) rfl ?_
              refine e_goto 8 dX4_panHears_110 (by decide) ?_
              refine e_start ?_ rfl ih
              simp_all [lsB, rtB, b01, btI, j_ltn, -Int32.not_le, -Int32.not_lt]
            · refine e_aload_n dX4_panHears_84 rfl ?_
              refine e_getR (o := 8) (b := 106) dX4_panHears_85 lkX4_31 rfl rfl (by decide) rfl ?_
              refine e_iload dX4_panHears_88 rfl ?_
              refine e_iald dX4_panHears_90 rfl k rfl (by omega) (by decide) ?_
              refine e_iload_n dX4_panHears_91 rfl ?_
              refine e_icmp_ge 105 dX4_panHears_92 (by decide) (fun c92 => ?_) (fun c92 => ?_)
              · refine e_iload_n dX4_panHears_105 rfl ?_
                refine e_istore_n (L' := [some (.ref 98), some (.int (nI p)), some (.int (lsB (m 102) (m 106) p k)), some (.int 1), some (.int (nI k)), none, none]) dX4_panHears_106 (Nat.le_of_ble_eq_true rfl) (Nat.le_of_ble_eq_true rfl) (jnl_at (i := 1) rfl) rfl ?_
                refine e_iinc (v := nI (k + 1)) (L' := [some (.ref 98), some (.int (nI p)), some (.int (lsB (m 102) (m 106) p k)), some (.int 1), some (.int (nI (k + 1))), none, none]) dX4_panHears_107 rfl (j_inc rfl) (by decide) (jnl_at (i := 3) rfl) rfl ?_
                refine e_goto 8 dX4_panHears_110 (by decide) ?_
                refine e_start ?_ rfl ih
                simp_all [lsB, rtB, b01, btI, j_ltn, -Int32.not_le, -Int32.not_lt]
              · refine e_aload_n dX4_panHears_95 rfl ?_
                refine e_getR (o := 8) (b := 106) dX4_panHears_96 lkX4_31 rfl rfl (by decide) rfl ?_
                refine e_iload dX4_panHears_99 rfl ?_
                refine e_iald dX4_panHears_101 rfl k rfl (by omega) (by decide) ?_
                refine e_goto 106 dX4_panHears_102 (by decide) ?_
                refine e_istore_n (L' := [some (.ref 98), some (.int (nI p)), some (.int (m 106 k)), some (.int 1), some (.int (nI k)), none, none]) dX4_panHears_106 (Nat.le_of_ble_eq_true rfl) (Nat.le_of_ble_eq_true rfl) (jnl_at (i := 1) rfl) rfl ?_
                refine e_iinc (v := nI (k + 1)) (L' := [some (.ref 98), some (.int (nI p)), some (.int (m 106 k)), some (.int 1), some (.int (nI (k + 1))), none, none]) dX4_panHears_107 rfl (j_inc rfl) (by decide) (jnl_at (i := 3) rfl) rfl ?_
                refine e_goto 8 dX4_panHears_110 (by decide) ?_
                refine e_start ?_ rfl ih
                simp_all [lsB, rtB, b01, btI, j_ltn, -Int32.not_le, -Int32.not_lt]
          · refine e_if_eq 78 dX4_panHears_71 (by decide) (fun c71 => ?_) (fun h => absurd h (by decide))
            refine e_iconst (v := 0) dX4_panHears_78 rfl ?_
            refine e_istore_n (L' := [some (.ref 98), some (.int (nI p)), some (.int (lsB (m 102) (m 106) p k)), some (.int 0), some (.int (nI k)), none, none]) dX4_panHears_79 (Nat.le_of_ble_eq_true rfl) (Nat.le_of_ble_eq_true rfl) (jnl_at (i := 2) rfl) rfl ?_
            refine e_iload_n dX4_panHears_80 rfl ?_
            refine e_if_lt 95 dX4_panHears_81 (by decide) (fun c81 => ?_) (fun c81 => ?_)
            · refine e_aload_n dX4_panHears_95 rfl ?_
              refine e_getR (o := 8) (b := 106) dX4_panHears_96 lkX4_31 rfl rfl (by decide) rfl ?_
              refine e_iload dX4_panHears_99 rfl ?_
              refine e_iald dX4_panHears_101 rfl k rfl (by omega) (by decide) ?_
              refine e_goto 106 dX4_panHears_102 (by decide) ?_
              refine e_istore_n (L' := [some (.ref 98), some (.int (nI p)), some (.int (m 106 k)), some (.int 0), some (.int (nI k)), none, none]) dX4_panHears_106 (Nat.le_of_ble_eq_true rfl) (Nat.le_of_ble_eq_true rfl) (jnl_at (i := 1) rfl) rfl ?_
              refine e_iinc (v := nI (k + 1)) (L' := [some (.ref 98), some (.int (nI p)), some (.int (m 106 k)), some (.int 0), some (.int (nI (k + 1))), none, none]) dX4_panHears_107 rfl (j_inc rfl) (by decide) (jnl_at (i := 3) rfl) rfl ?_
              refine e_goto 8 dX4_panHears_110 (by decide) ?_
              refine e_start ?_ rfl ih
              simp_all [lsB, rtB, b01, btI, j_ltn, -Int32.not_le, -Int32.not_lt]
            · refine e_aload_n dX4_panHears_84 rfl ?_
              refine e_getR (o := 8) (b := 106) dX4_panHears_85 lkX4_31 rfl rfl (by decide) rfl ?_
              refine e_iload dX4_panHears_88 rfl ?_
              refine e_iald dX4_panHears_90 rfl k rfl (by omega) (by decide) ?_
              refine e_iload_n dX4_panHears_91 rfl ?_
              refine e_icmp_ge 105 dX4_panHears_92 (by decide) (fun c92 => ?_) (fun c92 => ?_)
              · refine e_iload_n dX4_panHears_105 rfl ?_
                refine e_istore_n (L' := [some (.ref 98), some (.int (nI p)), some (.int (lsB (m 102) (m 106) p k)), some (.int 0), some (.int (nI k)), none, none]) dX4_panHears_106 (Nat.le_of_ble_eq_true rfl) (Nat.le_of_ble_eq_true rfl) (jnl_at (i := 1) rfl) rfl ?_
                refine e_iinc (v := nI (k + 1)) (L' := [some (.ref 98), some (.int (nI p)), some (.int (lsB (m 102) (m 106) p k)), some (.int 0), some (.int (nI (k + 1))), none, none]) dX4_panHears_107 rfl (j_inc rfl) (by decide) (jnl_at (i := 3) rfl) rfl ?_
                refine e_goto 8 dX4_panHears_110 (by decide) ?_
                refine e_start ?_ rfl ih
                simp_all [lsB, rtB, b01, btI, j_ltn, -Int32.not_le, -Int32.not_lt]
              · refine e_aload_n dX4_panHears_95 rfl ?_
                refine e_getR (o := 8) (b := 106) dX4_panHears_96 lkX4_31 rfl rfl (by decide) rfl ?_
                refine e_iload dX4_panHears_99 rfl ?_
                refine e_iald dX4_panHears_101 rfl k rfl (by omega) (by decide) ?_
                refine e_goto 106 dX4_panHears_102 (by decide) ?_
                refine e_istore_n (L' := [some (.ref 98), some (.int (nI p)), some (.int (m 106 k)), some (.int 0), some (.int (nI k)), none, none]) dX4_panHears_106 (Nat.le_of_ble_eq_true rfl) (Nat.le_of_ble_eq_true rfl) (jnl_at (i := 1) rfl) rfl ?_
                refine e_iinc (v := nI (k + 1)) (L' := [some (.ref 98), some (.int (nI p)), some (.int (m 106 k)), some (.int 0), some (.int (nI (k + 1))), none, none]) dX4_panHears_107 rfl (j_inc rfl) (by decide) (jnl_at (i := 3) rfl) rfl ?_
                refine e_goto 8 dX4_panHears_110 (by decide) ?_
                refine e_start ?_ rfl ih
                simp_all [lsB, rtB, b01, btI, j_ltn, -Int32.not_le, -Int32.not_lt]
    · refine e_if_eq 107 dX4_panHears_33 (by decide) (fun c33 => ?_) (fun h => absurd h (by decide))
      refine e_iinc (v := nI (k + 1)) (L' := [some (.ref 98), some (.int (nI p)), some (.int (lsB (m 102) (m 106) p k)), some (.int (b01 (rtB (m 102) (m 106) p k))), some (.int (nI (k + 1))), none, none]) dX4_panHears_107 rfl (j_inc rfl) (by decide) (jnl_at (i := 3) rfl) rfl ?_
      refine e_goto 8 dX4_panHears_110 (by decide) ?_
      refine e_start ?_ rfl ih
      simp_all [lsB, rtB, b01, btI, j_ltn, -Int32.not_le, -Int32.not_lt]
end
section
set_option maxHeartbeats 2000000 in
set_option maxRecDepth 20000 in
theorem s_oneBar (m : jM) (V : Nat) (hV : V ≤ 3) (h1 : m 102 1 = nI V) (P : Nat) (hP : P ≤ 5) (h2 : m 102 2 = nI P) : vX mX4_oneBar [.ref 98] m (fun m1 => jup m 102 (oneB (m 102) (m 106) V P) = m1) := by
  refine jX_of (L := [some (.ref 98), none]) 1 rfl rfl (by decide +kernel) rfl ?_
  refine e_iconst (v := 0) dX4_oneBar_0 rfl ?_
  refine e_istore_n (L' := [some (.ref 98), some (.int 0)]) dX4_oneBar_1 (Nat.le_of_ble_eq_true rfl) (Nat.le_of_ble_eq_true rfl) (jnl_at (i := 0) rfl) rfl ?_
  refine e_loop 2 P (fun k => [some (.ref 98), some (.int (nI k))]) (fun k => jup m 102 (pansB (m 102) (m 106) V k)) 0 (Nat.zero_le _) rfl (jup_id m 102) ?_ ?_
  · show jE _ _ 2 [some (.ref 98), some (.int (nI P))] [] (jup m 102 (pansB (m 102) (m 106) V P))
    obtain ⟨mm1, hmm1⟩ : ∃ y : jM, y = jup m 102 (pansB (m 102) (m 106) V P) := ⟨_, rfl⟩
    refine e_start rfl hmm1.symm ?_
    refine e_iload_n dX4_oneBar_2 rfl ?_
    refine e_aload_n dX4_oneBar_3 rfl ?_
    refine e_getR (o := 4) (b := 102) dX4_oneBar_4 lkX4_19 rfl rfl (by decide) rfl ?_
    refine e_iconst (v := 2) dX4_oneBar_7 rfl ?_
    refine e_iald dX4_oneBar_8 rfl 2 rfl (by decide) (by decide) ?_
    rw [show mm1 102 2 = nI P from by rw [hmm1, jup_s]; exact (pansB_lo (by omega) _).trans h2]
    refine e_icmp_ge 50 dX4_oneBar_9 (by decide) (fun c9 => ?_) (fun h => absurd (j_done rfl rfl) h)
    refine e_iconst (v := 0) dX4_oneBar_50 rfl ?_
    refine e_istore_n (L' := [some (.ref 98), some (.int 0)]) dX4_oneBar_51 (Nat.le_of_ble_eq_true rfl) (Nat.le_of_ble_eq_true rfl) (jnl_at (i := 0) rfl) rfl ?_
    refine e_loop 52 V (fun k => [some (.ref 98), some (.int (nI k))]) (fun k => jup m 102 (runsB (pansB (m 102) (m 106) V P) (m 106) k)) 0 (Nat.zero_le _) rfl (hmm1.symm) ?_ ?_
    · show jE _ _ 52 [some (.ref 98), some (.int (nI V))] [] (jup m 102 (runsB (pansB (m 102) (m 106) V P) (m 106) V))
      obtain ⟨me, hme⟩ : ∃ y : jM, y = jup m 102 (runsB (pansB (m 102) (m 106) V P) (m 106) V) := ⟨_, rfl⟩
      refine e_start rfl hme.symm ?_
      refine e_iload_n dX4_oneBar_52 rfl ?_
      refine e_aload_n dX4_oneBar_53 rfl ?_
      refine e_getR (o := 4) (b := 102) dX4_oneBar_54 lkX4_19 rfl rfl (by decide) rfl ?_
      refine e_iconst (v := 1) dX4_oneBar_57 rfl ?_
      refine e_iald dX4_oneBar_58 rfl 1 rfl (by decide) (by decide) ?_
      rw [show me 102 1 = nI V from by rw [hme, jup_s, runsB_lo (by omega) _ (by omega)]; exact (pansB_lo (by omega) _).trans h1]
      refine e_icmp_ge 103 dX4_oneBar_59 (by decide) (fun c59 => ?_) (fun h => absurd (j_done rfl rfl) h)
      refine e_aload_n dX4_oneBar_103 rfl ?_
      refine e_getR (o := 4) (b := 102) dX4_oneBar_104 lkX4_19 rfl rfl (by decide) rfl ?_
      refine e_iconst (v := 3) dX4_oneBar_107 rfl ?_
      refine e_dup2 dX4_oneBar_108 rfl rfl ?_
      refine e_iald dX4_oneBar_109 rfl 3 rfl (by decide) (by decide) ?_
      refine e_iconst (v := 1) dX4_oneBar_110 rfl ?_
      refine e_iadd dX4_oneBar_111 ?_
      refine e_iast dX4_oneBar_112 rfl 3 rfl (by decide) (by decide) (fun n3 hn3 => ?_)
      exact e_vret dX4_oneBar_113 rfl (by rw [hn3, hme, jup_s, jup_jup]; rfl)
    · intro k hk ih
      show jE _ _ 52 [some (.ref 98), some (.int (nI k))] [] (jup m 102 (runsB (pansB (m 102) (m 106) V P) (m 106) k))
      obtain ⟨mm3, hmm3⟩ : ∃ y : jM, y = jup m 102 (runsB (pansB (m 102) (m 106) V P) (m 106) k) := ⟨_, rfl⟩
      refine e_start rfl hmm3.symm ?_
      refine e_iload_n dX4_oneBar_52 rfl ?_
      refine e_aload_n dX4_oneBar_53 rfl ?_
      refine e_getR (o := 4) (b := 102) dX4_oneBar_54 lkX4_19 rfl rfl (by decide) rfl ?_
      refine e_iconst (v := 1) dX4_oneBar_57 rfl ?_
      refine e_iald dX4_oneBar_58 rfl 1 rfl (by decide) (by decide) ?_
      rw [show mm3 102 1 = nI V from by rw [hmm3, jup_s, runsB_lo (by omega) _ (by omega)]; exact (pansB_lo (by omega) _).trans h1]
      refine e_icmp_ge 103 dX4_oneBar_59 (by decide) (fun h => absurd h (j_more (N := V) rfl rfl (by omega) (by omega))) (fun c59 => ?_)
      refine e_aload_n dX4_oneBar_62 rfl ?_
      refine e_getR (o := 4) (b := 102) dX4_oneBar_63 lkX4_19 rfl rfl (by decide) rfl ?_
      refine e_bipush (v := 13) dX4_oneBar_66 rfl ?_
      refine e_iload_n dX4_oneBar_68 rfl ?_
      refine e_iadd dX4_oneBar_69 ?_
      refine e_aload_n dX4_oneBar_70 rfl ?_
      refine e_getR (o := 8) (b := 106) dX4_oneBar_71 lkX4_31 rfl rfl (by decide) rfl ?_
      refine e_iload_n dX4_oneBar_74 rfl ?_
      refine e_iald dX4_oneBar_75 rfl k rfl (by omega) (by decide) ?_
      refine e_bipush (v := 7) dX4_oneBar_76 rfl ?_
      refine e_icmp_ge 95 dX4_oneBar_78 (by decide) (fun c78 => ?_) (fun c78 => ?_)
      · refine e_iconst (v := 0) dX4_oneBar_95 rfl ?_
        refine e_iast dX4_oneBar_96 rfl (13 + k) (j_add rfl rfl) (by omega) (by decide) (fun n2 hn2 => ?_)
        refine e_iinc (v := nI (k + 1)) (L' := [some (.ref 98), some (.int (nI (k + 1)))]) dX4_oneBar_97 rfl (j_inc rfl) (by decide) (jnl_at (i := 0) rfl) rfl ?_
        refine e_goto 52 dX4_oneBar_100 (by decide) ?_
        refine e_start rfl ?_ ih
        rw [hmm3, jup_n _ _ (by decide)] at c78
        rw [hn2, hmm3, jup_s, jup_jup]
        refine congrArg (jup m 102) ?_
        show _ = upd _ _ (if m 106 k < 7 then _ else _)
        first | rw [if_pos (Int32.not_le.mp c78)] | rw [if_neg (Int32.not_lt.mpr c78)]
      · refine e_aload_n dX4_oneBar_81 rfl ?_
        refine e_getR (o := 4) (b := 102) dX4_oneBar_82 lkX4_19 rfl rfl (by decide) rfl ?_
        refine e_bipush (v := 13) dX4_oneBar_85 rfl ?_
        refine e_iload_n dX4_oneBar_87 rfl ?_
        refine e_iadd dX4_oneBar_88 ?_
        refine e_iald dX4_oneBar_89 rfl (13 + k) (j_add rfl rfl) (by omega) (by decide) ?_
        refine e_iconst (v := 1) dX4_oneBar_90 rfl ?_
        refine e_iadd dX4_oneBar_91 ?_
        refine e_goto 96 dX4_oneBar_92 (by decide) ?_
        refine e_iast dX4_oneBar_96 rfl (13 + k) (j_add rfl rfl) (by omega) (by decide) (fun n2 hn2 => ?_)
        refine e_iinc (v := nI (k + 1)) (L' := [some (.ref 98), some (.int (nI (k + 1)))]) dX4_oneBar_97 rfl (j_inc rfl) (by decide) (jnl_at (i := 0) rfl) rfl ?_
        refine e_goto 52 dX4_oneBar_100 (by decide) ?_
        refine e_start rfl ?_ ih
        rw [hmm3, jup_n _ _ (by decide)] at c78
        rw [hn2, hmm3, jup_s, jup_jup]
        refine congrArg (jup m 102) ?_
        show _ = upd _ _ (if m 106 k < 7 then _ else _)
        first | rw [if_pos (Int32.not_le.mp c78)] | rw [if_neg (Int32.not_lt.mpr c78)]
  · intro k hk ih
    show jE _ _ 2 [some (.ref 98), some (.int (nI k))] [] (jup m 102 (pansB (m 102) (m 106) V k))
    obtain ⟨mm6, hmm6⟩ : ∃ y : jM, y = jup m 102 (pansB (m 102) (m 106) V k) := ⟨_, rfl⟩
    refine e_start rfl hmm6.symm ?_
    refine e_iload_n dX4_oneBar_2 rfl ?_
    refine e_aload_n dX4_oneBar_3 rfl ?_
    refine e_getR (o := 4) (b := 102) dX4_oneBar_4 lkX4_19 rfl rfl (by decide) rfl ?_
    refine e_iconst (v := 2) dX4_oneBar_7 rfl ?_
    refine e_iald dX4_oneBar_8 rfl 2 rfl (by decide) (by decide) ?_
    rw [show mm6 102 2 = nI P from by rw [hmm6, jup_s]; exact (pansB_lo (by omega) _).trans h2]
    refine e_icmp_ge 50 dX4_oneBar_9 (by decide) (fun h => absurd h (j_more (N := P) rfl rfl (by omega) (by omega))) (fun c9 => ?_)
    refine e_aload_n dX4_oneBar_12 rfl ?_
    refine e_getR (o := 4) (b := 102) dX4_oneBar_13 lkX4_19 rfl rfl (by decide) rfl ?_
    refine e_bipush (v := 41) dX4_oneBar_16 rfl ?_
    refine e_iload_n dX4_oneBar_18 rfl ?_
    refine e_iadd dX4_oneBar_19 ?_
    refine e_iald dX4_oneBar_20 rfl (41 + k) (j_add rfl rfl) (by omega) (by decide) ?_
    refine e_iconst (v := 1) dX4_oneBar_21 rfl ?_
    refine e_icmp_ne 39 dX4_oneBar_22 (by decide) (fun c22 => ?_) (fun c22 => ?_)
    · refine e_aload_n dX4_oneBar_39 rfl ?_
      refine e_iload_n dX4_oneBar_40 rfl ?_
      refine e_callVv (n := 1) mX4_panHears [.int (nI k)] dX4_oneBar_41 ckX4_153 rfl (by decide +kernel) rfl rfl rfl rfl (by decide) ⟨Nat.zero_le _, Nat.zero_le _⟩ (s_panHears mm6 k (by omega) V hV (by rw [hmm6, jup_s]; exact (pansB_lo (by omega) _).trans h1)) (fun m7 hm7 => ?_)
      refine e_iinc (v := nI (k + 1)) (L' := [some (.ref 98), some (.int (nI (k + 1)))]) dX4_oneBar_44 rfl (j_inc rfl) (by decide) (jnl_at (i := 0) rfl) rfl ?_
      refine e_goto 2 dX4_oneBar_47 (by decide) ?_
      refine e_start rfl ?_ ih
      rw [hmm6, jup_s] at c22
      rw [← hm7, hmm6, jup_s, jup_jup, jup_n _ _ (by decide)]
      exact congrArg (jup m 102) (if_neg c22).symm
    · refine e_aload_n dX4_oneBar_25 rfl ?_
      refine e_getR (o := 4) (b := 102) dX4_oneBar_26 lkX4_19 rfl rfl (by decide) rfl ?_
      refine e_bipush (v := 46) dX4_oneBar_29 rfl ?_
      refine e_iload_n dX4_oneBar_31 rfl ?_
      refine e_iadd dX4_oneBar_32 ?_
      refine e_ldc dX4_oneBar_33 kkX4_127 ?_
      refine e_iast dX4_oneBar_35 rfl (46 + k) (j_add rfl rfl) (by omega) (by decide) (fun n1 hn1 => ?_)
      refine e_goto 44 dX4_oneBar_36 (by decide) ?_
      refine e_iinc (v := nI (k + 1)) (L' := [some (.ref 98), some (.int (nI (k + 1)))]) dX4_oneBar_44 rfl (j_inc rfl) (by decide) (jnl_at (i := 0) rfl) rfl ?_
      refine e_goto 2 dX4_oneBar_47 (by decide) ?_
      refine e_start rfl ?_ ih
      rw [hmm6, jup_s] at c22
      rw [hn1, hmm6, jup_s, jup_jup]
      exact congrArg (jup m 102) (if_pos c22).symm

set_option maxHeartbeats 2000000 in
set_option maxRecDepth 20000 in
theorem s_note51 (m : jM) (n : Nat) (hn : n < 24) (hc : m 98 18 = nI n) : jE (jmd mX4_note (vP (fun m1 => jst (jup m 107 (va_cpy (m 102) (m 107) 0 (51 * n) 51)) 98 18 (nI (n + 1)) = m1))) mX4_note 51 [some (.ref 98), some (.int 0)] [] m := by
  refine e_loop 51 51 (fun k => [some (.ref 98), some (.int (nI k))]) (fun k => jup m 107 (va_cpy (m 102) (m 107) 0 (51 * n) k)) 0 (Nat.zero_le _) rfl (by rw [cpy_0, jup_id]) ?_ ?_
  · show jE _ _ 51 [some (.ref 98), some (.int (nI 51))] [] (jup m 107 (va_cpy (m 102) (m 107) 0 (51 * n) 51))
    obtain ⟨me, hme⟩ : ∃ y : jM, y = jup m 107 (va_cpy (m 102) (m 107) 0 (51 * n) 51) := ⟨_, rfl⟩
    refine e_start rfl hme.symm ?_
    refine e_iload_n dX4_note_51 rfl ?_
    refine e_bipush (v := 51) dX4_note_52 rfl ?_
    refine e_icmp_ge 83 dX4_note_54 (by decide) (fun c54 => ?_) (fun h => absurd (j_done rfl rfl) h)
    refine e_aload_n dX4_note_83 rfl ?_
    refine e_dup dX4_note_84 rfl ?_
    refine e_getI dX4_note_85 lkX4_146 rfl rfl ?_
    rw [show me 98 18 = nI n from by rw [hme, jup_n _ _ (by decide)]; exact hc]
    refine e_iconst (v := 1) dX4_note_88 rfl ?_
    refine e_iadd dX4_note_89 ?_
    rw [show (nI n) + 1 = nI (n + 1) from nI_1 n]
    refine e_putI dX4_note_90 lkX4_146 rfl rfl fwX4_18 (Or.inl rfl) (fun mf hmf => ?_)
    exact e_vret dX4_note_93 rfl (by rw [hmf, hme])
  · intro k hk ih
    show jE _ _ 51 [some (.ref 98), some (.int (nI k))] [] (jup m 107 (va_cpy (m 102) (m 107) 0 (51 * n) k))
    obtain ⟨mb, hmb⟩ : ∃ y : jM, y = jup m 107 (va_cpy (m 102) (m 107) 0 (51 * n) k) := ⟨_, rfl⟩
    refine e_start rfl hmb.symm ?_
    refine e_iload_n dX4_note_51 rfl ?_
    refine e_bipush (v := 51) dX4_note_52 rfl ?_
    refine e_icmp_ge 83 dX4_note_54 (by decide) (fun h => absurd h (j_more (N := 51) rfl rfl (by omega) (by omega))) (fun c54 => ?_)
    refine e_aload_n dX4_note_57 rfl ?_
    refine e_getR (o := 9) (b := 107) dX4_note_58 lkX4_34 rfl rfl (by decide) rfl ?_
    refine e_bipush (v := 51) dX4_note_61 rfl ?_
    refine e_aload_n dX4_note_63 rfl ?_
    refine e_getI dX4_note_64 lkX4_146 rfl rfl ?_
    rw [show mb 98 18 = nI n from by rw [hmb, jup_n _ _ (by decide)]; exact hc]
    refine e_imul dX4_note_67 ?_
    refine e_iload_n dX4_note_68 rfl ?_
    refine e_iadd dX4_note_69 ?_
    refine e_aload_n dX4_note_70 rfl ?_
    refine e_getR (o := 4) (b := 102) dX4_note_71 lkX4_19 rfl rfl (by decide) rfl ?_
    refine e_iload_n dX4_note_74 rfl ?_
    refine e_iald dX4_note_75 rfl k rfl (by omega) (by decide) ?_
    refine e_iast dX4_note_76 rfl ((51 * n) + k) (j_add (j_mul rfl rfl) rfl) (by omega) (by decide) (fun m2 hm2 => ?_)
    refine e_iinc (v := nI (k + 1)) (L' := [some (.ref 98), some (.int (nI (k + 1)))]) dX4_note_77 rfl (j_inc rfl) (by decide) (jnl_at (i := 0) rfl) rfl ?_
    refine e_goto 51 dX4_note_80 (by decide) ?_
    refine e_start rfl ?_ ih
    rw [hm2, hmb, jup_s, jup_jup, jup_n _ _ (by decide)]
    exact congrArg (jup m 107) (cpy_sd (by rw [Nat.zero_add]))

set_option maxHeartbeats 2000000 in
set_option maxRecDepth 20000 in
theorem s_note (m : jM) (n : Nat) (hn : n ≤ 24) (hc : m 98 18 = nI n) : vX mX4_note [.ref 98] m (fun m1 => jst (jup m 107 (noteA (m 107) (m 102) n)) 98 18 (nI (noteN n)) = m1) := by
  refine jX_of (L := [some (.ref 98), none]) 1 rfl rfl (by decide +kernel) rfl ?_
  refine e_aload_n dX4_note_0 rfl ?_
  refine e_getI dX4_note_1 lkX4_146 rfl rfl ?_
  rw [show m 98 18 = nI n from hc]
  refine e_bipush (v := 24) dX4_note_4 rfl ?_
  refine e_icmp_ne 49 dX4_note_6 (by decide) (fun c6 => ?_) (fun c6 => ?_)
  · have hn2 : ¬ n = 24 := fun q => c6 (by rw [q]; rfl)
    refine e_iconst (v := 0) dX4_note_49 rfl ?_
    refine e_istore_n (L' := [some (.ref 98), some (.int 0)]) dX4_note_50 (Nat.le_of_ble_eq_true rfl) (Nat.le_of_ble_eq_true rfl) (jnl_at (i := 0) rfl) rfl ?_
    have h5 := s_note51 m n (by omega) hc
    unfold noteA noteN
    rw [if_neg hn2, if_neg hn2]
    exact h5
  · have hn2 : n = 24 := (j_eq (by omega) (by decide)).mp c6
    refine e_iconst (v := 0) dX4_note_9 rfl ?_
    refine e_istore_n (L' := [some (.ref 98), some (.int 0)]) dX4_note_10 (Nat.le_of_ble_eq_true rfl) (Nat.le_of_ble_eq_true rfl) (jnl_at (i := 0) rfl) rfl ?_
    refine e_loop 11 1173 (fun k => [some (.ref 98), some (.int (nI k))]) (fun k => jup m 107 (va_cpy (m 107) (m 107) 51 0 k)) 0 (Nat.zero_le _) rfl (by rw [cpy_0, jup_id]) ?_ ?_
    · show jE _ _ 11 [some (.ref 98), some (.int (nI 1173))] [] (jup m 107 (va_cpy (m 107) (m 107) 51 0 1173))
      obtain ⟨me, hme⟩ : ∃ y : jM, y = jup m 107 (va_cpy (m 107) (m 107) 51 0 1173) := ⟨_, rfl⟩
      refine e_start rfl hme.symm ?_
      refine e_iload_n dX4_note_11 rfl ?_
      refine e_sipush (v := 1173) dX4_note_12 rfl ?_
      refine e_icmp_ge 39 dX4_note_15 (by decide) (fun c15 => ?_) (fun h => absurd (j_done rfl rfl) h)
      refine e_aload_n dX4_note_39 rfl ?_
      refine e_dup dX4_note_40 rfl ?_
      refine e_getI dX4_note_41 lkX4_146 rfl rfl ?_
      rw [show me 98 18 = 24 from by rw [hme, jup_n _ _ (by decide), hc, hn2]; rfl]
      refine e_iconst (v := 1) dX4_note_44 rfl ?_
      refine e_isub dX4_note_45 ?_
      refine e_putI dX4_note_46 lkX4_146 rfl rfl fwX4_18 (Or.inl rfl) (fun mf hmf => ?_)
      refine e_iconst (v := 0) dX4_note_49 rfl ?_
      refine e_istore_n (L' := [some (.ref 98), some (.int 0)]) dX4_note_50 (Nat.le_of_ble_eq_true rfl) (Nat.le_of_ble_eq_true rfl) (jnl_at (i := 0) rfl) rfl ?_
      have h5 := s_note51 mf 23 (by decide) (by rw [hmf, jup_s, upd_s]; rfl)
      subst hn2
      unfold noteA noteN
      rw [if_pos rfl, if_pos rfl]
      have e1 : mf 107 = va_cpy (m 107) (m 107) 51 0 1173 := by rw [hmf, jup_n _ _ (by decide), hme, jup_s]
      have e2 : mf 102 = m 102 := by rw [hmf, jup_n _ _ (by decide), hme, jup_n _ _ (by decide)]
      rw [e1, e2] at h5
      have e3 : ∀ f, jst (jup mf 107 f) 98 18 (nI 24) = jst (jup m 107 f) 98 18 (nI 24) := by
        intro f
        rw [hmf]
        have := jst_jup me (c := 98) (d := 107) (by decide) 18 f (24 - 1) (nI 24)
        rw [this, hme, jup_jup]
      rw [e3] at h5
      exact h5
    · intro k hk ih
      show jE _ _ 11 [some (.ref 98), some (.int (nI k))] [] (jup m 107 (va_cpy (m 107) (m 107) 51 0 k))
      obtain ⟨mb, hmb⟩ : ∃ y : jM, y = jup m 107 (va_cpy (m 107) (m 107) 51 0 k) := ⟨_, rfl⟩
      refine e_start rfl hmb.symm ?_
      refine e_iload_n dX4_note_11 rfl ?_
      refine e_sipush (v := 1173) dX4_note_12 rfl ?_
      refine e_icmp_ge 39 dX4_note_15 (by decide) (fun h => absurd h (j_more (N := 1173) rfl rfl (by omega) (by omega))) (fun c15 => ?_)
      refine e_aload_n dX4_note_18 rfl ?_
      refine e_getR (o := 9) (b := 107) dX4_note_19 lkX4_34 rfl rfl (by decide) rfl ?_
      refine e_iload_n dX4_note_22 rfl ?_
      refine e_aload_n dX4_note_23 rfl ?_
      refine e_getR (o := 9) (b := 107) dX4_note_24 lkX4_34 rfl rfl (by decide) rfl ?_
      refine e_iload_n dX4_note_27 rfl ?_
      refine e_bipush (v := 51) dX4_note_28 rfl ?_
      refine e_iadd dX4_note_30 ?_
      refine e_iald dX4_note_31 rfl (k + 51) (j_add rfl rfl) (by omega) (by decide) ?_
      refine e_iast dX4_note_32 rfl k rfl (by omega) (by decide) (fun m2 hm2 => ?_)
      refine e_iinc (v := nI (k + 1)) (L' := [some (.ref 98), some (.int (nI (k + 1)))]) dX4_note_33 rfl (j_inc rfl) (by decide) (jnl_at (i := 0) rfl) rfl ?_
      refine e_goto 11 dX4_note_36 (by decide) ?_
      refine e_start rfl ?_ ih
      rw [hm2, hmb, jup_s, jup_jup]
      exact congrArg (jup m 107) (cpy_s0' (by unfold va_cpy; rw [if_neg (by omega)]; congr 1; omega))
end
section
/-- x is one of n numbers from 0 on -/
def inN (x : Int32) (n : Nat) : Prop := 0 ≤ x ∧ x < nI n
theorem inN_hi {x hi : Int32} {n : Nat} (hn : n < 2 ^ 31) (h : hi.toInt + 1 = (n : Int)) : (0 ≤ x ∧ x ≤ hi) ↔ inN x n := by
  unfold inN
  rw [Int32.le_iff_toInt_le, Int32.le_iff_toInt_le, Int32.lt_iff_toInt_lt, nI_toInt hn]
  constructor
  · rintro ⟨a, b⟩; exact ⟨a, by omega⟩
  · rintro ⟨a, b⟩; exact ⟨a, by omega⟩
theorem nI_m1 {n : Nat} (hn : n < 2 ^ 31) : (nI n - 1).toInt = (n : Int) - 1 := by
  cases n with
  | zero => decide
  | succ k => rw [nI_pred, nI_toInt (by omega)]; omega
theorem inN_pred {x : Int32} {n : Nat} (hn : n < 2 ^ 31) : (0 ≤ x ∧ x ≤ nI n - 1) ↔ inN x n := inN_hi hn (by rw [nI_m1 hn]; omega)
theorem inN_of {x : Int32} {n : Nat} (hn : n < 2 ^ 31) (h : inN x n) : ∃ k : Nat, k < n ∧ x = nI k := j_small (Int32.not_lt.mpr h.1) hn h.2
theorem inN_nI {k n : Nat} (hn : n < 2 ^ 31) (h : k < n) : inN (nI k) n := ⟨nI_pos' (by omega), (j_lt (by omega) hn).mpr h⟩
theorem inN_not {x : Int32} {n : Nat} : ¬ inN x n ↔ x < 0 ∨ nI n ≤ x := by
  unfold inN
  rw [Decidable.not_and_iff_or_not, Int32.not_le, Int32.not_lt]
theorem s_inN (x hi : Int32) (n : Nat) (hn : n < 2 ^ 31) (h : hi.toInt + 1 = (n : Int)) (m : jM) : iX mX4_in [.long x.toInt64, .long (0 : Int32).toInt64, .long hi.toInt64] m (fun v m1 => m = m1 ∧ isB v (inN x n)) := by
  have h1 := s_in32 x 0 hi m
  rw [inN_hi hn h] at h1
  exact h1
theorem s_rowN (x : Int32) (m : jM) : iX mX4_isRow [.int x] m (fun v m1 => m = m1 ∧ isB v (inN x 8)) := by
  have h1 := s_isRow x m
  rw [inN_hi (n := 8) (by decide) (by decide)] at h1
  exact h1
theorem s_panN (x : Int32) (m : jM) (P : Nat) (hP : P ≤ 5) (h2 : m 102 2 = nI P) : iX mX4_isPan [.ref 98, .int x] m (fun v m1 => m = m1 ∧ isB v (inN x P)) := by
  have h1 := s_isPan x m
  rw [h2, inN_pred (by omega)] at h1
  exact h1
theorem s_sngN (x : Int32) (m : jM) (V : Nat) (hV : V ≤ 3) (h2 : m 102 1 = nI V) : iX mX4_isSinger [.ref 98, .int x] m (fun v m1 => m = m1 ∧ isB v (inN x V)) := by
  have h1 := s_isSinger x m
  rw [h2, inN_pred (by omega)] at h1
  exact h1
theorem jrefl {α : Sort _} {P : Prop} {x : α} (h : P) : P ∧ x = x := ⟨h, rfl⟩
/-- what a pan, a singer is asked for -/
def panV (st : Nat → Int32) (p : Nat) (w : Int32) : Int32 := if w = 0 then st (21 + p) else if w = 1 then st (26 + p) else if w = 2 then st (31 + p) else if w = 3 then st (36 + p) else if w = 4 then st (41 + p) else if w = 5 then st (46 + p) else -1000001
def sngV (st : Nat → Int32) (p : Nat) (w : Int32) : Int32 := if w = 0 then st (4 + p) else if w = 1 then st (7 + p) else if w = 2 then st (10 + p) else if w = 3 then st (13 + p) else -1000001
theorem j_out6 {x : Int32} (h0 : ¬ x = 0) (h1 : ¬ x = 1) (h2 : ¬ x = 2) (h3 : ¬ x = 3) (h4 : ¬ x = 4) (h5 : ¬ x = 5) : x.toInt < 0 ∨ 5 < x.toInt := by
  have := lv_neT h0 (a := 0) rfl
  have := lv_neT h1 (a := 1) rfl
  have := lv_neT h2 (a := 2) rfl
  have := lv_neT h3 (a := 3) rfl
  have := lv_neT h4 (a := 4) rfl
  have := lv_neT h5 (a := 5) rfl
  omega
theorem j_out4 {x : Int32} (h0 : ¬ x = 0) (h1 : ¬ x = 1) (h2 : ¬ x = 2) (h3 : ¬ x = 3) : x.toInt < 0 ∨ 3 < x.toInt := by
  have := lv_neT h0 (a := 0) rfl
  have := lv_neT h1 (a := 1) rfl
  have := lv_neT h2 (a := 2) rfl
  have := lv_neT h3 (a := 3) rfl
  omega
theorem j_out8 {x : Int32} (h0 : ¬ x = 0) (h1 : ¬ x = 1) (h2 : ¬ x = 2) (h3 : ¬ x = 3) (h4 : ¬ x = 4) (h5 : ¬ x = 5) (h6 : ¬ x = 6) (h7 : ¬ x = 7) : x.toInt < 0 ∨ 7 < x.toInt := by
  have := j_out6 h0 h1 h2 h3 h4 h5
  have := lv_neT h6 (a := 6) rfl
  have := lv_neT h7 (a := 7) rfl
  omega
/-- is one kind another -/
def kindP (k a : Int32) : Prop := a = 0 ∨ k = a ∨ (a = 1 ∧ k < 4) ∨ (a = 4 ∧ k = 5)
set_option maxHeartbeats 2000000 in
set_option maxRecDepth 20000 in
theorem s_Dundo0 (m : jM) (hc : m 98 18 = 0) : iX mX4_undo [.ref 98] m (fun v m1 => v = -1000002 ∧ m = m1) := by
  refine jX_of (L := [some (.ref 98), none]) 1 rfl rfl (by decide +kernel) rfl ?_
  refine e_aload_n dX4_undo_0 rfl ?_
  refine e_getI dX4_undo_1 lkX4_146 rfl rfl ?_
  rw [show m 98 18 = 0 from hc]
  refine e_if_ne 10 dX4_undo_4 (by decide) (fun h => absurd rfl h) (fun c4 => ?_)
  refine e_ldc dX4_undo_7 kkX4_157 ?_
  exact e_iret dX4_undo_9 rfl (⟨rfl, rfl⟩)

set_option maxHeartbeats 2000000 in
set_option maxRecDepth 20000 in
theorem s_Dundo (m : jM) (n : Nat) (hn : n < 24) (hc : m 98 18 = nI (n + 1)) : iX mX4_undo [.ref 98] m (fun v m1 => v = nI n ∧ jup (jst m 98 18 (nI n)) 102 (va_cpy (m 107) (m 102) (51 * n) 0 51) = m1) := by
  refine jX_of (L := [some (.ref 98), none]) 1 rfl rfl (by decide +kernel) rfl ?_
  refine e_aload_n dX4_undo_0 rfl ?_
  refine e_getI dX4_undo_1 lkX4_146 rfl rfl ?_
  rw [show m 98 18 = nI (n + 1) from hc]
  refine e_if_ne 10 dX4_undo_4 (by decide) (fun c4 => ?_) (fun h => absurd h (fun q => nI_ne0 (by omega) (by omega) q))
  refine e_aload_n dX4_undo_10 rfl ?_
  refine e_dup dX4_undo_11 rfl ?_
  refine e_getI dX4_undo_12 lkX4_146 rfl rfl ?_
  rw [show m 98 18 = nI (n + 1) from hc]
  refine e_iconst (v := 1) dX4_undo_15 rfl ?_
  refine e_isub dX4_undo_16 ?_
  rw [show (nI (n + 1)) - 1 = nI n from nI_pred n]
  refine e_putI dX4_undo_17 lkX4_146 rfl rfl fwX4_18 (Or.inl rfl) (fun ma hma => ?_)
  refine e_iconst (v := 0) dX4_undo_20 rfl ?_
  refine e_istore_n (L' := [some (.ref 98), some (.int 0)]) dX4_undo_21 (Nat.le_of_ble_eq_true rfl) (Nat.le_of_ble_eq_true rfl) (jnl_at (i := 0) rfl) rfl ?_
  refine e_loop 22 51 (fun k => [some (.ref 98), some (.int (nI k))]) (fun k => jup ma 102 (va_cpy (ma 107) (ma 102) (51 * n) 0 k)) 0 (Nat.zero_le _) rfl (by rw [cpy_0, jup_id]) ?_ ?_
  · show jE _ _ 22 [some (.ref 98), some (.int (nI 51))] [] (jup ma 102 (va_cpy (ma 107) (ma 102) (51 * n) 0 51))
    obtain ⟨me, hme⟩ : ∃ y : jM, y = jup ma 102 (va_cpy (ma 107) (ma 102) (51 * n) 0 51) := ⟨_, rfl⟩
    refine e_start rfl hme.symm ?_
    refine e_iload_n dX4_undo_22 rfl ?_
    refine e_bipush (v := 51) dX4_undo_23 rfl ?_
    refine e_icmp_ge 54 dX4_undo_25 (by decide) (fun c25 => ?_) (fun h => absurd (j_done rfl rfl) h)
    refine e_aload_n dX4_undo_54 rfl ?_
    refine e_getI dX4_undo_55 lkX4_146 rfl rfl ?_
    rw [show me 98 18 = nI n from by rw [hme, jup_n _ _ (by decide), hma, jup_s, upd_s]]
    exact e_iret dX4_undo_58 rfl (⟨rfl, by rw [hme, hma, jup_n _ _ (by decide), jup_n _ _ (by decide)]⟩)
  · intro k hk ih
    show jE _ _ 22 [some (.ref 98), some (.int (nI k))] [] (jup ma 102 (va_cpy (ma 107) (ma 102) (51 * n) 0 k))
    obtain ⟨mb, hmb⟩ : ∃ y : jM, y = jup ma 102 (va_cpy (ma 107) (ma 102) (51 * n) 0 k) := ⟨_, rfl⟩
    refine e_start rfl hmb.symm ?_
    refine e_iload_n dX4_undo_22 rfl ?_
    refine e_bipush (v := 51) dX4_undo_23 rfl ?_
    refine e_icmp_ge 54 dX4_undo_25 (by decide) (fun h => absurd h (j_more (N := 51) rfl rfl (by omega) (by omega))) (fun c25 => ?_)
    refine e_aload_n dX4_undo_28 rfl ?_
    refine e_getR (o := 4) (b := 102) dX4_undo_29 lkX4_19 rfl rfl (by decide) rfl ?_
    refine e_iload_n dX4_undo_32 rfl ?_
    refine e_aload_n dX4_undo_33 rfl ?_
    refine e_getR (o := 9) (b := 107) dX4_undo_34 lkX4_34 rfl rfl (by decide) rfl ?_
    refine e_bipush (v := 51) dX4_undo_37 rfl ?_
    refine e_aload_n dX4_undo_39 rfl ?_
    refine e_getI dX4_undo_40 lkX4_146 rfl rfl ?_
    rw [show mb 98 18 = nI n from by rw [hmb, jup_n _ _ (by decide), hma, jup_s, upd_s]]
    refine e_imul dX4_undo_43 ?_
    refine e_iload_n dX4_undo_44 rfl ?_
    refine e_iadd dX4_undo_45 ?_
    refine e_iald dX4_undo_46 rfl ((51 * n) + k) (j_add (j_mul rfl rfl) rfl) (by omega) (by decide) ?_
    refine e_iast dX4_undo_47 rfl k rfl (by omega) (by decide) (fun m2 hm2 => ?_)
    refine e_iinc (v := nI (k + 1)) (L' := [some (.ref 98), some (.int (nI (k + 1)))]) dX4_undo_48 rfl (j_inc rfl) (by decide) (jnl_at (i := 0) rfl) rfl ?_
    refine e_goto 22 dX4_undo_51 (by decide) ?_
    refine e_start rfl ?_ ih
    rw [hm2, hmb, jup_s, jup_jup, jup_n _ _ (by decide)]
    exact congrArg (jup ma 102) (cpy_s0' rfl)

set_option maxHeartbeats 2000000 in
set_option maxRecDepth 20000 in
theorem s_Dpan_b (m : jM) (x w : Int32) (P : Nat) (hP : P ≤ 5) (h2 : m 102 2 = nI P) (hb : ¬ inN x P) : iX mX4_pan [.ref 98, .int x, .int w] m (fun v m1 => v = -1000001 ∧ m = m1) := by
  refine jX_of (L := [some (.ref 98), some (.int x), some (.int w)]) 0 rfl rfl (by decide +kernel) rfl ?_
  refine e_aload_n dX4_pan_0 rfl ?_
  refine e_iload_n dX4_pan_1 rfl ?_
  refine e_callVi (n := 1) mX4_isPan [.int x] dX4_pan_2 ckX4_171 rfl (by decide +kernel) rfl rfl rfl rfl (by decide) ⟨Nat.zero_le _, Nat.zero_le _⟩ (s_panN x m P hP h2) (fun v2 m1 hm1 => ?_)
  rcases hm1 with ⟨rfl, ⟨rfl, q⟩ | ⟨rfl, q⟩⟩
  · exact False.elim (hb q)
  · refine e_if_ne 11 dX4_pan_5 (by decide) (fun h => absurd h (by decide)) (fun c5 => ?_)
    refine e_ldc dX4_pan_8 kkX4_70 ?_
    exact e_iret dX4_pan_10 rfl (⟨rfl, rfl⟩)

set_option maxHeartbeats 2000000 in
set_option maxRecDepth 20000 in
theorem s_Dpan (m : jM) (p : Nat) (w : Int32) (P : Nat) (hP : P ≤ 5) (h2 : m 102 2 = nI P) (hp : p < P) : iX mX4_pan [.ref 98, .int (nI p), .int w] m (fun v m1 => v = panV (m 102) p w ∧ m = m1) := by
  refine jX_of (L := [some (.ref 98), some (.int (nI p)), some (.int w)]) 0 rfl rfl (by decide +kernel) rfl ?_
  refine e_aload_n dX4_pan_0 rfl ?_
  refine e_iload_n dX4_pan_1 rfl ?_
  refine e_callVi (n := 1) mX4_isPan [.int (nI p)] dX4_pan_2 ckX4_171 rfl (by decide +kernel) rfl rfl rfl rfl (by decide) ⟨Nat.zero_le _, Nat.zero_le _⟩ (s_panN (nI p) m P hP h2) (fun v2 m1 hm1 => ?_)
  rcases hm1 with ⟨rfl, ⟨rfl, q⟩ | ⟨rfl, q⟩⟩
  · refine e_if_ne 11 dX4_pan_5 (by decide) (fun c5 => ?_) (fun h => absurd h (by decide))
    refine e_iload_n dX4_pan_11 rfl ?_
    by_cases z12_0 : w = 0
    · subst z12_0
      refine e_tsIn 52 dX4_pan_12 (by decide) (by decide) rfl (by decide) ?_
      refine e_aload_n dX4_pan_52 rfl ?_
      refine e_getR (o := 4) (b := 102) dX4_pan_53 lkX4_19 rfl rfl (by decide) rfl ?_
      refine e_bipush (v := 21) dX4_pan_56 rfl ?_
      refine e_iload_n dX4_pan_58 rfl ?_
      refine e_iadd dX4_pan_59 ?_
      refine e_iald dX4_pan_60 rfl (21 + p) (j_add rfl rfl) (by omega) (by decide) ?_
      exact e_iret dX4_pan_61 rfl (⟨by unfold panV; simp_all, rfl⟩)
    by_cases z12_1 : w = 1
    · subst z12_1
      refine e_tsIn 62 dX4_pan_12 (by decide) (by decide) rfl (by decide) ?_
      refine e_aload_n dX4_pan_62 rfl ?_
      refine e_getR (o := 4) (b := 102) dX4_pan_63 lkX4_19 rfl rfl (by decide) rfl ?_
      refine e_bipush (v := 26) dX4_pan_66 rfl ?_
      refine e_iload_n dX4_pan_68 rfl ?_
      refine e_iadd dX4_pan_69 ?_
      refine e_iald dX4_pan_70 rfl (26 + p) (j_add rfl rfl) (by omega) (by decide) ?_
      exact e_iret dX4_pan_71 rfl (⟨by unfold panV; simp_all, rfl⟩)
    by_cases z12_2 : w = 2
    · subst z12_2
      refine e_tsIn 72 dX4_pan_12 (by decide) (by decide) rfl (by decide) ?_
      refine e_aload_n dX4_pan_72 rfl ?_
      refine e_getR (o := 4) (b := 102) dX4_pan_73 lkX4_19 rfl rfl (by decide) rfl ?_
      refine e_bipush (v := 31) dX4_pan_76 rfl ?_
      refine e_iload_n dX4_pan_78 rfl ?_
      refine e_iadd dX4_pan_79 ?_
      refine e_iald dX4_pan_80 rfl (31 + p) (j_add rfl rfl) (by omega) (by decide) ?_
      exact e_iret dX4_pan_81 rfl (⟨by unfold panV; simp_all, rfl⟩)
    by_cases z12_3 : w = 3
    · subst z12_3
      refine e_tsIn 82 dX4_pan_12 (by decide) (by decide) rfl (by decide) ?_
      refine e_aload_n dX4_pan_82 rfl ?_
      refine e_getR (o := 4) (b := 102) dX4_pan_83 lkX4_19 rfl rfl (by decide) rfl ?_
      refine e_bipush (v := 36) dX4_pan_86 rfl ?_
      refine e_iload_n dX4_pan_88 rfl ?_
      refine e_iadd dX4_pan_89 ?_
      refine e_iald dX4_pan_90 rfl (36 + p) (j_add rfl rfl) (by omega) (by decide) ?_
      exact e_iret dX4_pan_91 rfl (⟨by unfold panV; simp_all, rfl⟩)
    by_cases z12_4 : w = 4
    · subst z12_4
      refine e_tsIn 92 dX4_pan_12 (by decide) (by decide) rfl (by decide) ?_
      refine e_aload_n dX4_pan_92 rfl ?_
      refine e_getR (o := 4) (b := 102) dX4_pan_93 lkX4_19 rfl rfl (by decide) rfl ?_
      refine e_bipush (v := 41) dX4_pan_96 rfl ?_
      refine e_iload_n dX4_pan_98 rfl ?_
      refine e_iadd dX4_pan_99 ?_
      refine e_iald dX4_pan_100 rfl (41 + p) (j_add rfl rfl) (by omega) (by decide) ?_
      exact e_iret dX4_pan_101 rfl (⟨by unfold panV; simp_all, rfl⟩)
    by_cases z12_5 : w = 5
    · subst z12_5
      refine e_tsIn 102 dX4_pan_12 (by decide) (by decide) rfl (by decide) ?_
      refine e_aload_n dX4_pan_102 rfl ?_
      refine e_getR (o := 4) (b := 102) dX4_pan_103 lkX4_19 rfl rfl (by decide) rfl ?_
      refine e_bipush (v := 46) dX4_pan_106 rfl ?_
      refine e_iload_n dX4_pan_108 rfl ?_
      refine e_iadd dX4_pan_109 ?_
      refine e_iald dX4_pan_110 rfl (46 + p) (j_add rfl rfl) (by omega) (by decide) ?_
      exact e_iret dX4_pan_111 rfl (⟨by unfold panV; simp_all, rfl⟩)
    refine e_tsOut 112 dX4_pan_12 (j_out6 z12_0 z12_1 z12_2 z12_3 z12_4 z12_5) (by decide) ?_
    refine e_ldc dX4_pan_112 kkX4_70 ?_
    exact e_iret dX4_pan_114 rfl (⟨by unfold panV; simp_all, rfl⟩)
  · exact False.elim (q (inN_nI (by omega) hp))

set_option maxHeartbeats 2000000 in
set_option maxRecDepth 20000 in
theorem s_Dsinger_b (m : jM) (x w : Int32) (V : Nat) (hV : V ≤ 3) (h1 : m 102 1 = nI V) (hb : ¬ inN x V) : iX mX4_singer [.ref 98, .int x, .int w] m (fun v m1 => v = -1000001 ∧ m = m1) := by
  refine jX_of (L := [some (.ref 98), some (.int x), some (.int w)]) 0 rfl rfl (by decide +kernel) rfl ?_
  refine e_aload_n dX4_singer_0 rfl ?_
  refine e_iload_n dX4_singer_1 rfl ?_
  refine e_callVi (n := 1) mX4_isSinger [.int x] dX4_singer_2 ckX4_174 rfl (by decide +kernel) rfl rfl rfl rfl (by decide) ⟨Nat.zero_le _, Nat.zero_le _⟩ (s_sngN x m V hV h1) (fun v2 m1 hm1 => ?_)
  rcases hm1 with ⟨rfl, ⟨rfl, q⟩ | ⟨rfl, q⟩⟩
  · exact False.elim (hb q)
  · refine e_if_ne 11 dX4_singer_5 (by decide) (fun h => absurd h (by decide)) (fun c5 => ?_)
    refine e_ldc dX4_singer_8 kkX4_70 ?_
    exact e_iret dX4_singer_10 rfl (⟨rfl, rfl⟩)

set_option maxHeartbeats 2000000 in
set_option maxRecDepth 20000 in
theorem s_Dsinger (m : jM) (p : Nat) (w : Int32) (V : Nat) (hV : V ≤ 3) (h1 : m 102 1 = nI V) (hp : p < V) : iX mX4_singer [.ref 98, .int (nI p), .int w] m (fun v m1 => v = sngV (m 102) p w ∧ m = m1) := by
  refine jX_of (L := [some (.ref 98), some (.int (nI p)), some (.int w)]) 0 rfl rfl (by decide +kernel) rfl ?_
  refine e_aload_n dX4_singer_0 rfl ?_
  refine e_iload_n dX4_singer_1 rfl ?_
  refine e_callVi (n := 1) mX4_isSinger [.int (nI p)] dX4_singer_2 ckX4_174 rfl (by decide +kernel) rfl rfl rfl rfl (by decide) ⟨Nat.zero_le _, Nat.zero_le _⟩ (s_sngN (nI p) m V hV h1) (fun v2 m1 hm1 => ?_)
  rcases hm1 with ⟨rfl, ⟨rfl, q⟩ | ⟨rfl, q⟩⟩
  · refine e_if_ne 11 dX4_singer_5 (by decide) (fun c5 => ?_) (fun h => absurd h (by decide))
    refine e_iload_n dX4_singer_11 rfl ?_
    by_cases z12_0 : w = 0
    · subst z12_0
      refine e_tsIn 44 dX4_singer_12 (by decide) (by decide) rfl (by decide) ?_
      refine e_aload_n dX4_singer_44 rfl ?_
      refine e_getR (o := 4) (b := 102) dX4_singer_45 lkX4_19 rfl rfl (by decide) rfl ?_
      refine e_iconst (v := 4) dX4_singer_48 rfl ?_
      refine e_iload_n dX4_singer_49 rfl ?_
      refine e_iadd dX4_singer_50 ?_
      refine e_iald dX4_singer_51 rfl (4 + p) (j_add rfl rfl) (by omega) (by decide) ?_
      exact e_iret dX4_singer_52 rfl (⟨by unfold sngV; simp_all, rfl⟩)
    by_cases z12_1 : w = 1
    · subst z12_1
      refine e_tsIn 53 dX4_singer_12 (by decide) (by decide) rfl (by decide) ?_
      refine e_aload_n dX4_singer_53 rfl ?_
      refine e_getR (o := 4) (b := 102) dX4_singer_54 lkX4_19 rfl rfl (by decide) rfl ?_
      refine e_bipush (v := 7) dX4_singer_57 rfl ?_
      refine e_iload_n dX4_singer_59 rfl ?_
      refine e_iadd dX4_singer_60 ?_
      refine e_iald dX4_singer_61 rfl (7 + p) (j_add rfl rfl) (by omega) (by decide) ?_
      exact e_iret dX4_singer_62 rfl (⟨by unfold sngV; simp_all, rfl⟩)
    by_cases z12_2 : w = 2
    · subst z12_2
      refine e_tsIn 63 dX4_singer_12 (by decide) (by decide) rfl (by decide) ?_
      refine e_aload_n dX4_singer_63 rfl ?_
      refine e_getR (o := 4) (b := 102) dX4_singer_64 lkX4_19 rfl rfl (by decide) rfl ?_
      refine e_bipush (v := 10) dX4_singer_67 rfl ?_
      refine e_iload_n dX4_singer_69 rfl ?_
      refine e_iadd dX4_singer_70 ?_
      refine e_iald dX4_singer_71 rfl (10 + p) (j_add rfl rfl) (by omega) (by decide) ?_
      exact e_iret dX4_singer_72 rfl (⟨by unfold sngV; simp_all, rfl⟩)
    by_cases z12_3 : w = 3
    · subst z12_3
      refine e_tsIn 73 dX4_singer_12 (by decide) (by decide) rfl (by decide) ?_
      refine e_aload_n dX4_singer_73 rfl ?_
      refine e_getR (o := 4) (b := 102) dX4_singer_74 lkX4_19 rfl rfl (by decide) rfl ?_
      refine e_bipush (v := 13) dX4_singer_77 rfl ?_
      refine e_iload_n dX4_singer_79 rfl ?_
      refine e_iadd dX4_singer_80 ?_
      refine e_iald dX4_singer_81 rfl (13 + p) (j_add rfl rfl) (by omega) (by decide) ?_
      exact e_iret dX4_singer_82 rfl (⟨by unfold sngV; simp_all, rfl⟩)
    refine e_tsOut 83 dX4_singer_12 (j_out4 z12_0 z12_1 z12_2 z12_3) (by decide) ?_
    refine e_ldc dX4_singer_83 kkX4_70 ?_
    exact e_iret dX4_singer_85 rfl (⟨by unfold sngV; simp_all, rfl⟩)
  · exact False.elim (q (inN_nI (by omega) hp))

set_option maxHeartbeats 2000000 in
set_option maxRecDepth 20000 in
theorem s_Dimage_b (m : jM) (x : Int32) (hb : ¬ inN x 2) : iX mX4_image [.ref 98, .int x] m (fun v m1 => v = -1000001 ∧ m = m1) := by
  refine jX_of (L := [some (.ref 98), some (.int x), none]) 1 rfl rfl (by decide +kernel) rfl ?_
  refine e_iload_n dX4_image_0 rfl ?_
  refine e_i2l dX4_image_1 ?_
  refine e_lconst (v := 0) dX4_image_2 rfl ?_
  refine e_lconst (v := 1) dX4_image_3 rfl ?_
  refine e_callSi (n := 3) mX4_in [.long x.toInt64, .long 0, .long 1] dX4_image_4 ckX4_60 rfl (by decide +kernel) rfl rfl (by decide) ⟨Nat.zero_le _, Nat.zero_le _⟩ (s_inN x 1 2 (by decide) (by decide) m) (fun v4 m1 hm1 => ?_)
  rcases hm1 with ⟨rfl, ⟨rfl, q⟩ | ⟨rfl, q⟩⟩
  · exact False.elim (hb q)
  · refine e_if_ne 13 dX4_image_7 (by decide) (fun h => absurd h (by decide)) (fun c7 => ?_)
    refine e_ldc dX4_image_10 kkX4_70 ?_
    exact e_iret dX4_image_12 rfl (⟨rfl, rfl⟩)

set_option maxHeartbeats 2000000 in
set_option maxRecDepth 20000 in
theorem s_Dimage_s (m : jM) (x : Int32) (hb : inN x 2) (h0 : m 98 4 = 0) : iX mX4_image [.ref 98, .int x] m (fun v m1 => v = -1000002 ∧ m = m1) := by
  refine jX_of (L := [some (.ref 98), some (.int x), none]) 1 rfl rfl (by decide +kernel) rfl ?_
  refine e_iload_n dX4_image_0 rfl ?_
  refine e_i2l dX4_image_1 ?_
  refine e_lconst (v := 0) dX4_image_2 rfl ?_
  refine e_lconst (v := 1) dX4_image_3 rfl ?_
  refine e_callSi (n := 3) mX4_in [.long x.toInt64, .long 0, .long 1] dX4_image_4 ckX4_60 rfl (by decide +kernel) rfl rfl (by decide) ⟨Nat.zero_le _, Nat.zero_le _⟩ (s_inN x 1 2 (by decide) (by decide) m) (fun v4 m1 hm1 => ?_)
  rcases hm1 with ⟨rfl, ⟨rfl, q⟩ | ⟨rfl, q⟩⟩
  · refine e_if_ne 13 dX4_image_7 (by decide) (fun c7 => ?_) (fun h => absurd h (by decide))
    refine e_aload_n dX4_image_13 rfl ?_
    refine e_getI dX4_image_14 lkX4_142 rfl rfl ?_
    rw [show m 98 4 = 0 from h0]
    refine e_if_ne 23 dX4_image_17 (by decide) (fun h => absurd rfl h) (fun c17 => ?_)
    refine e_ldc dX4_image_20 kkX4_157 ?_
    exact e_iret dX4_image_22 rfl (⟨rfl, rfl⟩)
  · exact False.elim (q hb)

set_option maxHeartbeats 2000000 in
set_option maxRecDepth 20000 in
theorem s_Dimage (m : jM) (c : Nat) (hc : c < 2) (h0 : m 98 4 = 1) : iX mX4_image [.ref 98, .int (nI c)] m (fun v m1 => v = 1 ∧ jst (jup m 111 (va_cpy (m 102) (m 111) 0 (51 * c) 51)) 110 c 1 = m1) := by
  refine jX_of (L := [some (.ref 98), some (.int (nI c)), none]) 1 rfl rfl (by decide +kernel) rfl ?_
  refine e_iload_n dX4_image_0 rfl ?_
  refine e_i2l dX4_image_1 ?_
  refine e_lconst (v := 0) dX4_image_2 rfl ?_
  refine e_lconst (v := 1) dX4_image_3 rfl ?_
  refine e_callSi (n := 3) mX4_in [.long ((nI c).toInt64), .long 0, .long 1] dX4_image_4 ckX4_60 rfl (by decide +kernel) rfl rfl (by decide) ⟨Nat.zero_le _, Nat.zero_le _⟩ (s_inN (nI c) 1 2 (by decide) (by decide) m) (fun v4 m1 hm1 => ?_)
  rcases hm1 with ⟨rfl, ⟨rfl, q⟩ | ⟨rfl, q⟩⟩
  · refine e_if_ne 13 dX4_image_7 (by decide) (fun c7 => ?_) (fun h => absurd h (by decide))
    refine e_aload_n dX4_image_13 rfl ?_
    refine e_getI dX4_image_14 lkX4_142 rfl rfl ?_
    rw [show m 98 4 = 1 from h0]
    refine e_if_ne 23 dX4_image_17 (by decide) (fun c17 => ?_) (fun h => absurd h (by decide))
    refine e_iconst (v := 0) dX4_image_23 rfl ?_
    refine e_istore_n (L' := [some (.ref 98), some (.int (nI c)), some (.int 0)]) dX4_image_24 (Nat.le_of_ble_eq_true rfl) (Nat.le_of_ble_eq_true rfl) (jnl_at (i := 1) rfl) rfl ?_
    refine e_loop 25 51 (fun k => [some (.ref 98), some (.int (nI c)), some (.int (nI k))]) (fun k => jup m 111 (va_cpy (m 102) (m 111) 0 (51 * c) k)) 0 (Nat.zero_le _) rfl (by rw [cpy_0, jup_id]) ?_ ?_
    · show jE _ _ 25 [some (.ref 98), some (.int (nI c)), some (.int (nI 51))] [] (jup m 111 (va_cpy (m 102) (m 111) 0 (51 * c) 51))
      obtain ⟨me, hme⟩ : ∃ y : jM, y = jup m 111 (va_cpy (m 102) (m 111) 0 (51 * c) 51) := ⟨_, rfl⟩
      refine e_start rfl hme.symm ?_
      refine e_iload_n dX4_image_25 rfl ?_
      refine e_bipush (v := 51) dX4_image_26 rfl ?_
      refine e_icmp_ge 54 dX4_image_28 (by decide) (fun c28 => ?_) (fun h => absurd (j_done rfl rfl) h)
      refine e_aload_n dX4_image_54 rfl ?_
      refine e_getR (o := 12) (b := 110) dX4_image_55 lkX4_43 rfl rfl (by decide) rfl ?_
      refine e_iload_n dX4_image_58 rfl ?_
      refine e_iconst (v := 1) dX4_image_59 rfl ?_
      refine e_zast dX4_image_60 rfl c rfl (by omega) (by decide) (by decide) (fun mf hmf => ?_)
      refine e_iconst (v := 1) dX4_image_61 rfl ?_
      exact e_iret dX4_image_62 rfl (⟨rfl, by rw [hmf, hme]⟩)
    · intro k hk ih
      show jE _ _ 25 [some (.ref 98), some (.int (nI c)), some (.int (nI k))] [] (jup m 111 (va_cpy (m 102) (m 111) 0 (51 * c) k))
      obtain ⟨mb, hmb⟩ : ∃ y : jM, y = jup m 111 (va_cpy (m 102) (m 111) 0 (51 * c) k) := ⟨_, rfl⟩
      refine e_start rfl hmb.symm ?_
      refine e_iload_n dX4_image_25 rfl ?_
      refine e_bipush (v := 51) dX4_image_26 rfl ?_
      refine e_icmp_ge 54 dX4_image_28 (by decide) (fun h => absurd h (j_more (N := 51) rfl rfl (by omega) (by omega))) (fun c28 => ?_)
      refine e_aload_n dX4_image_31 rfl ?_
      refine e_getR (o := 13) (b := 111) dX4_image_32 lkX4_47 rfl rfl (by decide) rfl ?_
      refine e_bipush (v := 51) dX4_image_35 rfl ?_
      refine e_iload_n dX4_image_37 rfl ?_
      refine e_imul dX4_image_38 ?_
      refine e_iload_n dX4_image_39 rfl ?_
      refine e_iadd dX4_image_40 ?_
      refine e_aload_n dX4_image_41 rfl ?_
      refine e_getR (o := 4) (b := 102) dX4_image_42 lkX4_19 rfl rfl (by decide) rfl ?_
      refine e_iload_n dX4_image_45 rfl ?_
      refine e_iald dX4_image_46 rfl k rfl (by omega) (by decide) ?_
      refine e_iast dX4_image_47 rfl ((51 * c) + k) (j_add (j_mul rfl rfl) rfl) (by omega) (by decide) (fun m3 hm3 => ?_)
      refine e_iinc (v := nI (k + 1)) (L' := [some (.ref 98), some (.int (nI c)), some (.int (nI (k + 1)))]) dX4_image_48 rfl (j_inc rfl) (by decide) (jnl_at (i := 1) rfl) rfl ?_
      refine e_goto 25 dX4_image_51 (by decide) ?_
      refine e_start rfl ?_ ih
      rw [hm3, hmb, jup_s, jup_jup, jup_n _ _ (by decide)]
      exact congrArg (jup m 111) (cpy_sd (by rw [Nat.zero_add]))
  · exact False.elim (q (inN_nI (by omega) hc))

set_option maxHeartbeats 2000000 in
set_option maxRecDepth 20000 in
theorem s_Drestore_b (m : jM) (x : Int32) (hb : ¬ inN x 2) : iX mX4_restore [.ref 98, .int x] m (fun v m1 => v = -1000001 ∧ m = m1) := by
  refine jX_of (L := [some (.ref 98), some (.int x), none]) 1 rfl rfl (by decide +kernel) rfl ?_
  refine e_iload_n dX4_restore_0 rfl ?_
  refine e_i2l dX4_restore_1 ?_
  refine e_lconst (v := 0) dX4_restore_2 rfl ?_
  refine e_lconst (v := 1) dX4_restore_3 rfl ?_
  refine e_callSi (n := 3) mX4_in [.long x.toInt64, .long 0, .long 1] dX4_restore_4 ckX4_60 rfl (by decide +kernel) rfl rfl (by decide) ⟨Nat.zero_le _, Nat.zero_le _⟩ (s_inN x 1 2 (by decide) (by decide) m) (fun v4 m1 hm1 => ?_)
  rcases hm1 with ⟨rfl, ⟨rfl, q⟩ | ⟨rfl, q⟩⟩
  · exact False.elim (hb q)
  · refine e_if_ne 13 dX4_restore_7 (by decide) (fun h => absurd h (by decide)) (fun c7 => ?_)
    refine e_ldc dX4_restore_10 kkX4_70 ?_
    exact e_iret dX4_restore_12 rfl (⟨rfl, rfl⟩)

set_option maxHeartbeats 2000000 in
set_option maxRecDepth 20000 in
theorem s_Drestore_s (m : jM) (c : Nat) (hc : c < 2) (h0 : m 110 c = 0) : iX mX4_restore [.ref 98, .int (nI c)] m (fun v m1 => v = -1000002 ∧ m = m1) := by
  refine jX_of (L := [some (.ref 98), some (.int (nI c)), none]) 1 rfl rfl (by decide +kernel) rfl ?_
  refine e_iload_n dX4_restore_0 rfl ?_
  refine e_i2l dX4_restore_1 ?_
  refine e_lconst (v := 0) dX4_restore_2 rfl ?_
  refine e_lconst (v := 1) dX4_restore_3 rfl ?_
  refine e_callSi (n := 3) mX4_in [.long ((nI c).toInt64), .long 0, .long 1] dX4_restore_4 ckX4_60 rfl (by decide +kernel) rfl rfl (by decide) ⟨Nat.zero_le _, Nat.zero_le _⟩ (s_inN (nI c) 1 2 (by decide) (by decide) m) (fun v4 m1 hm1 => ?_)
  rcases hm1 with ⟨rfl, ⟨rfl, q⟩ | ⟨rfl, q⟩⟩
  · refine e_if_ne 13 dX4_restore_7 (by decide) (fun c7 => ?_) (fun h => absurd h (by decide))
    refine e_aload_n dX4_restore_13 rfl ?_
    refine e_getR (o := 12) (b := 110) dX4_restore_14 lkX4_43 rfl rfl (by decide) rfl ?_
    refine e_iload_n dX4_restore_17 rfl ?_
    refine e_zald dX4_restore_18 rfl c rfl (by omega) (by decide) ?_
    rw [show m 110 c = 0 from h0]
    refine e_if_ne 25 dX4_restore_19 (by decide) (fun h => absurd rfl h) (fun c19 => ?_)
    refine e_ldc dX4_restore_22 kkX4_157 ?_
    exact e_iret dX4_restore_24 rfl (⟨rfl, rfl⟩)
  · exact False.elim (q (inN_nI (by omega) hc))

set_option maxHeartbeats 2000000 in
set_option maxRecDepth 20000 in
theorem s_Drestore (m : jM) (c : Nat) (hc : c < 2) (h0 : m 110 c = 1) : iX mX4_restore [.ref 98, .int (nI c)] m (fun v m1 => v = 1 ∧ jst (jup m 102 (va_cpy (m 111) (m 102) (51 * c) 0 51)) 98 18 0 = m1) := by
  refine jX_of (L := [some (.ref 98), some (.int (nI c)), none]) 1 rfl rfl (by decide +kernel) rfl ?_
  refine e_iload_n dX4_restore_0 rfl ?_
  refine e_i2l dX4_restore_1 ?_
  refine e_lconst (v := 0) dX4_restore_2 rfl ?_
  refine e_lconst (v := 1) dX4_restore_3 rfl ?_
  refine e_callSi (n := 3) mX4_in [.long ((nI c).toInt64), .long 0, .long 1] dX4_restore_4 ckX4_60 rfl (by decide +kernel) rfl rfl (by decide) ⟨Nat.zero_le _, Nat.zero_le _⟩ (s_inN (nI c) 1 2 (by decide) (by decide) m) (fun v4 m1 hm1 => ?_)
  rcases hm1 with ⟨rfl, ⟨rfl, q⟩ | ⟨rfl, q⟩⟩
  · refine e_if_ne 13 dX4_restore_7 (by decide) (fun c7 => ?_) (fun h => absurd h (by decide))
    refine e_aload_n dX4_restore_13 rfl ?_
    refine e_getR (o := 12) (b := 110) dX4_restore_14 lkX4_43 rfl rfl (by decide) rfl ?_
    refine e_iload_n dX4_restore_17 rfl ?_
    refine e_zald dX4_restore_18 rfl c rfl (by omega) (by decide) ?_
    rw [show m 110 c = 1 from h0]
    refine e_if_ne 25 dX4_restore_19 (by decide) (fun c19 => ?_) (fun h => absurd h (by decide))
    refine e_iconst (v := 0) dX4_restore_25 rfl ?_
    refine e_istore_n (L' := [some (.ref 98), some (.int (nI c)), some (.int 0)]) dX4_restore_26 (Nat.le_of_ble_eq_true rfl) (Nat.le_of_ble_eq_true rfl) (jnl_at (i := 1) rfl) rfl ?_
    refine e_loop 27 51 (fun k => [some (.ref 98), some (.int (nI c)), some (.int (nI k))]) (fun k => jup m 102 (va_cpy (m 111) (m 102) (51 * c) 0 k)) 0 (Nat.zero_le _) rfl (by rw [cpy_0, jup_id]) ?_ ?_
    · show jE _ _ 27 [some (.ref 98), some (.int (nI c)), some (.int (nI 51))] [] (jup m 102 (va_cpy (m 111) (m 102) (51 * c) 0 51))
      obtain ⟨me, hme⟩ : ∃ y : jM, y = jup m 102 (va_cpy (m 111) (m 102) (51 * c) 0 51) := ⟨_, rfl⟩
      refine e_start rfl hme.symm ?_
      refine e_iload_n dX4_restore_27 rfl ?_
      refine e_bipush (v := 51) dX4_restore_28 rfl ?_
      refine e_icmp_ge 56 dX4_restore_30 (by decide) (fun c30 => ?_) (fun h => absurd (j_done rfl rfl) h)
      refine e_aload_n dX4_restore_56 rfl ?_
      refine e_iconst (v := 0) dX4_restore_57 rfl ?_
      refine e_putI dX4_restore_58 lkX4_146 rfl rfl fwX4_18 (Or.inl rfl) (fun mf hmf => ?_)
      refine e_iconst (v := 1) dX4_restore_61 rfl ?_
      exact e_iret dX4_restore_62 rfl (⟨rfl, by rw [hmf, hme]⟩)
    · intro k hk ih
      show jE _ _ 27 [some (.ref 98), some (.int (nI c)), some (.int (nI k))] [] (jup m 102 (va_cpy (m 111) (m 102) (51 * c) 0 k))
      obtain ⟨mb, hmb⟩ : ∃ y : jM, y = jup m 102 (va_cpy (m 111) (m 102) (51 * c) 0 k) := ⟨_, rfl⟩
      refine e_start rfl hmb.symm ?_
      refine e_iload_n dX4_restore_27 rfl ?_
      refine e_bipush (v := 51) dX4_restore_28 rfl ?_
      refine e_icmp_ge 56 dX4_restore_30 (by decide) (fun h => absurd h (j_more (N := 51) rfl rfl (by omega) (by omega))) (fun c30 => ?_)
      refine e_aload_n dX4_restore_33 rfl ?_
      refine e_getR (o := 4) (b := 102) dX4_restore_34 lkX4_19 rfl rfl (by decide) rfl ?_
      refine e_iload_n dX4_restore_37 rfl ?_
      refine e_aload_n dX4_restore_38 rfl ?_
      refine e_getR (o := 13) (b := 111) dX4_restore_39 lkX4_47 rfl rfl (by decide) rfl ?_
      refine e_bipush (v := 51) dX4_restore_42 rfl ?_
      refine e_iload_n dX4_restore_44 rfl ?_
      refine e_imul dX4_restore_45 ?_
      refine e_iload_n dX4_restore_46 rfl ?_
      refine e_iadd dX4_restore_47 ?_
      refine e_iald dX4_restore_48 rfl ((51 * c) + k) (j_add (j_mul rfl rfl) rfl) (by omega) (by decide) ?_
      refine e_iast dX4_restore_49 rfl k rfl (by omega) (by decide) (fun m3 hm3 => ?_)
      refine e_iinc (v := nI (k + 1)) (L' := [some (.ref 98), some (.int (nI c)), some (.int (nI (k + 1)))]) dX4_restore_50 rfl (j_inc rfl) (by decide) (jnl_at (i := 1) rfl) rfl ?_
      refine e_goto 27 dX4_restore_53 (by decide) ?_
      refine e_start rfl ?_ ih
      rw [hm3, hmb, jup_s, jup_jup, jup_n _ _ (by decide)]
      exact congrArg (jup m 102) (cpy_s0' rfl)
  · exact False.elim (q (inN_nI (by omega) hc))

set_option maxHeartbeats 2000000 in
set_option maxRecDepth 20000 in
theorem s_Dkind_b (m : jM) (x : Int32) (P : Nat) (hP : P ≤ 5) (h2 : m 102 2 = nI P) (hb : ¬ inN x P) : iX mX4_kind [.ref 98, .int x] m (fun v m1 => v = -1000001 ∧ m = m1) := by
  refine jX_of (L := [some (.ref 98), some (.int x)]) 0 rfl rfl (by decide +kernel) rfl ?_
  refine e_aload_n dX4_kind_0 rfl ?_
  refine e_iload_n dX4_kind_1 rfl ?_
  refine e_callVi (n := 1) mX4_isPan [.int x] dX4_kind_2 ckX4_171 rfl (by decide +kernel) rfl rfl rfl rfl (by decide) ⟨Nat.zero_le _, Nat.zero_le _⟩ (s_panN x m P hP h2) (fun v2 m1 hm1 => ?_)
  rcases hm1 with ⟨rfl, ⟨rfl, q⟩ | ⟨rfl, q⟩⟩
  · exact False.elim (hb q)
  · refine e_if_eq 20 dX4_kind_5 (by decide) (fun c5 => ?_) (fun h => absurd h (by decide))
    refine e_ldc dX4_kind_20 kkX4_70 ?_
    exact e_iret dX4_kind_22 rfl (⟨rfl, rfl⟩)

set_option maxHeartbeats 2000000 in
set_option maxRecDepth 20000 in
theorem s_Dkind (m : jM) (p : Nat) (P : Nat) (hP : P ≤ 5) (h2 : m 102 2 = nI P) (hp : p < P) : iX mX4_kind [.ref 98, .int (nI p)] m (fun v m1 => v = m 102 (16 + p) ∧ m = m1) := by
  refine jX_of (L := [some (.ref 98), some (.int (nI p))]) 0 rfl rfl (by decide +kernel) rfl ?_
  refine e_aload_n dX4_kind_0 rfl ?_
  refine e_iload_n dX4_kind_1 rfl ?_
  refine e_callVi (n := 1) mX4_isPan [.int (nI p)] dX4_kind_2 ckX4_171 rfl (by decide +kernel) rfl rfl rfl rfl (by decide) ⟨Nat.zero_le _, Nat.zero_le _⟩ (s_panN (nI p) m P hP h2) (fun v2 m1 hm1 => ?_)
  rcases hm1 with ⟨rfl, ⟨rfl, q⟩ | ⟨rfl, q⟩⟩
  · refine e_if_eq 20 dX4_kind_5 (by decide) (fun h => absurd h (by decide)) (fun c5 => ?_)
    refine e_aload_n dX4_kind_8 rfl ?_
    refine e_getR (o := 4) (b := 102) dX4_kind_9 lkX4_19 rfl rfl (by decide) rfl ?_
    refine e_bipush (v := 16) dX4_kind_12 rfl ?_
    refine e_iload_n dX4_kind_14 rfl ?_
    refine e_iadd dX4_kind_15 ?_
    refine e_iald dX4_kind_16 rfl (16 + p) (j_add rfl rfl) (by omega) (by decide) ?_
    refine e_goto 22 dX4_kind_17 (by decide) ?_
    exact e_iret dX4_kind_22 rfl (⟨rfl, rfl⟩)
  · exact False.elim (q (inN_nI (by omega) hp))

set_option maxHeartbeats 2000000 in
set_option maxRecDepth 20000 in
theorem s_isKind (m : jM) (k a : Int32) : iX mX4_isKind [.int k, .int a] m (fun v m1 => m = m1 ∧ isB v (kindP k a)) := by
  refine jX_of (L := [some (.int k), some (.int a)]) 0 rfl rfl (by decide +kernel) rfl ?_
  refine e_iload_n dX4_isKind_0 rfl ?_
  refine e_if_eq 29 dX4_isKind_1 (by decide) (fun c1 => ?_) (fun c1 => ?_)
  · refine e_iconst (v := 1) dX4_isKind_29 rfl ?_
    refine e_goto 34 dX4_isKind_30 (by decide) ?_
    exact e_zret dX4_isKind_34 rfl (by decide) (⟨rfl, by unfold kindP; first | (refine isB.t ?_; simp_all; done) | (refine isB.f ?_; simp_all; done)⟩)
  · refine e_iload_n dX4_isKind_4 rfl ?_
    refine e_iload_n dX4_isKind_5 rfl ?_
    refine e_icmp_eq 29 dX4_isKind_6 (by decide) (fun c6 => ?_) (fun c6 => ?_)
    · refine e_iconst (v := 1) dX4_isKind_29 rfl ?_
      refine e_goto 34 dX4_isKind_30 (by decide) ?_
      exact e_zret dX4_isKind_34 rfl (by decide) (⟨rfl, by unfold kindP; first | (refine isB.t ?_; simp_all; done) | (refine isB.f ?_; simp_all; done)⟩)
    · refine e_iload_n dX4_isKind_9 rfl ?_
      refine e_iconst (v := 1) dX4_isKind_10 rfl ?_
      refine e_icmp_ne 19 dX4_isKind_11 (by decide) (fun c11 => ?_) (fun c11 => ?_)
      · refine e_iload_n dX4_isKind_19 rfl ?_
        refine e_iconst (v := 4) dX4_isKind_20 rfl ?_
        refine e_icmp_ne 33 dX4_isKind_21 (by decide) (fun c21 => ?_) (fun c21 => ?_)
        · refine e_iconst (v := 0) dX4_isKind_33 rfl ?_
          exact e_zret dX4_isKind_34 rfl (by decide) (⟨rfl, by unfold kindP; first | (refine isB.t ?_; simp_all; done) | (refine isB.f ?_; simp_all; done)⟩)
        · refine e_iload_n dX4_isKind_24 rfl ?_
          refine e_iconst (v := 5) dX4_isKind_25 rfl ?_
          refine e_icmp_ne 33 dX4_isKind_26 (by decide) (fun c26 => ?_) (fun c26 => ?_)
          · refine e_iconst (v := 0) dX4_isKind_33 rfl ?_
            exact e_zret dX4_isKind_34 rfl (by decide) (⟨rfl, by unfold kindP; first | (refine isB.t ?_; simp_all; done) | (refine isB.f ?_; simp_all; done)⟩)
          · refine e_iconst (v := 1) dX4_isKind_29 rfl ?_
            refine e_goto 34 dX4_isKind_30 (by decide) ?_
            exact e_zret dX4_isKind_34 rfl (by decide) (⟨rfl, by unfold kindP; first | (refine isB.t ?_; simp_all; done) | (refine isB.f ?_; simp_all; done)⟩)
      · refine e_iload_n dX4_isKind_14 rfl ?_
        refine e_iconst (v := 4) dX4_isKind_15 rfl ?_
        refine e_icmp_lt 29 dX4_isKind_16 (by decide) (fun c16 => ?_) (fun c16 => ?_)
        · refine e_iconst (v := 1) dX4_isKind_29 rfl ?_
          refine e_goto 34 dX4_isKind_30 (by decide) ?_
          exact e_zret dX4_isKind_34 rfl (by decide) (⟨rfl, by unfold kindP; first | (refine isB.t ?_; simp_all; done) | (refine isB.f ?_; simp_all; done)⟩)
        · refine e_iload_n dX4_isKind_19 rfl ?_
          refine e_iconst (v := 4) dX4_isKind_20 rfl ?_
          refine e_icmp_ne 33 dX4_isKind_21 (by decide) (fun c21 => ?_) (fun c21 => ?_)
          · refine e_iconst (v := 0) dX4_isKind_33 rfl ?_
            exact e_zret dX4_isKind_34 rfl (by decide) (⟨rfl, by unfold kindP; first | (refine isB.t ?_; simp_all; done) | (refine isB.f ?_; simp_all; done)⟩)
          · refine e_iload_n dX4_isKind_24 rfl ?_
            refine e_iconst (v := 5) dX4_isKind_25 rfl ?_
            refine e_icmp_ne 33 dX4_isKind_26 (by decide) (fun c26 => ?_) (fun c26 => ?_)
            · refine e_iconst (v := 0) dX4_isKind_33 rfl ?_
              exact e_zret dX4_isKind_34 rfl (by decide) (⟨rfl, by unfold kindP; first | (refine isB.t ?_; simp_all; done) | (refine isB.f ?_; simp_all; done)⟩)
            · refine e_iconst (v := 1) dX4_isKind_29 rfl ?_
              refine e_goto 34 dX4_isKind_30 (by decide) ?_
              exact e_zret dX4_isKind_34 rfl (by decide) (⟨rfl, by unfold kindP; first | (refine isB.t ?_; simp_all; done) | (refine isB.f ?_; simp_all; done)⟩)

set_option maxHeartbeats 2000000 in
set_option maxRecDepth 20000 in
theorem s_Das_b (m : jM) (x a : Int32) (P : Nat) (hP : P ≤ 5) (h2 : m 102 2 = nI P) (hb : ¬ (inN x P ∧ inN a 6)) : iX mX4_as [.ref 98, .int x, .int a] m (fun v m1 => v = -1000001 ∧ m = m1) := by
  refine jX_of (L := [some (.ref 98), some (.int x), some (.int a)]) 0 rfl rfl (by decide +kernel) rfl ?_
  refine e_aload_n dX4_as_0 rfl ?_
  refine e_iload_n dX4_as_1 rfl ?_
  refine e_callVi (n := 1) mX4_isPan [.int x] dX4_as_2 ckX4_171 rfl (by decide +kernel) rfl rfl rfl rfl (by decide) ⟨Nat.zero_le _, Nat.zero_le _⟩ (s_panN x m P hP h2) (fun v2 m1 hm1 => ?_)
  rcases hm1 with ⟨rfl, ⟨rfl, q⟩ | ⟨rfl, q⟩⟩
  · refine e_if_eq 20 dX4_as_5 (by decide) (fun h => absurd h (by decide)) (fun c5 => ?_)
    refine e_iload_n dX4_as_8 rfl ?_
    refine e_i2l dX4_as_9 ?_
    refine e_lconst (v := 0) dX4_as_10 rfl ?_
    refine e_ldc2 dX4_as_11 kkX4_219 ?_
    refine e_callSi (n := 3) mX4_in [.long a.toInt64, .long 0, .long (5)] dX4_as_14 ckX4_60 rfl (by decide +kernel) rfl rfl (by decide) ⟨Nat.zero_le _, Nat.zero_le _⟩ (s_inN a (5) 6 (by decide) (by decide) m) (fun v14 m2 hm2 => ?_)
    rcases hm2 with ⟨rfl, ⟨rfl, q2⟩ | ⟨rfl, q2⟩⟩
    · exact False.elim (hb ⟨q, q2⟩)
    · refine e_if_ne 23 dX4_as_17 (by decide) (fun h => absurd h (by decide)) (fun c17 => ?_)
      refine e_ldc dX4_as_20 kkX4_70 ?_
      exact e_iret dX4_as_22 rfl (⟨rfl, rfl⟩)
  · refine e_if_eq 20 dX4_as_5 (by decide) (fun c5 => ?_) (fun h => absurd h (by decide))
    refine e_ldc dX4_as_20 kkX4_70 ?_
    exact e_iret dX4_as_22 rfl (⟨rfl, rfl⟩)

set_option maxHeartbeats 2000000 in
set_option maxRecDepth 20000 in
theorem s_Das (m : jM) (p : Nat) (a : Int32) (P : Nat) (hP : P ≤ 5) (h2 : m 102 2 = nI P) (hp : p < P) (ha : inN a 6) : iX mX4_as [.ref 98, .int (nI p), .int a] m (fun v m1 => (kindP (m 102 (16 + p)) a ∧ v = nI p ∧ jst m 98 3 0 = m1) ∨ (¬ kindP (m 102 (16 + p)) a ∧ v = -1000013 ∧ jst m 98 3 3 = m1)) := by
  refine jX_of (L := [some (.ref 98), some (.int (nI p)), some (.int a)]) 0 rfl rfl (by decide +kernel) rfl ?_
  refine e_aload_n dX4_as_0 rfl ?_
  refine e_iload_n dX4_as_1 rfl ?_
  refine e_callVi (n := 1) mX4_isPan [.int (nI p)] dX4_as_2 ckX4_171 rfl (by decide +kernel) rfl rfl rfl rfl (by decide) ⟨Nat.zero_le _, Nat.zero_le _⟩ (s_panN (nI p) m P hP h2) (fun v2 m1 hm1 => ?_)
  rcases hm1 with ⟨rfl, ⟨rfl, q⟩ | ⟨rfl, q⟩⟩
  · refine e_if_eq 20 dX4_as_5 (by decide) (fun h => absurd h (by decide)) (fun c5 => ?_)
    refine e_iload_n dX4_as_8 rfl ?_
    refine e_i2l dX4_as_9 ?_
    refine e_lconst (v := 0) dX4_as_10 rfl ?_
    refine e_ldc2 dX4_as_11 kkX4_219 ?_
    refine e_callSi (n := 3) mX4_in [.long a.toInt64, .long 0, .long (5)] dX4_as_14 ckX4_60 rfl (by decide +kernel) rfl rfl (by decide) ⟨Nat.zero_le _, Nat.zero_le _⟩ (s_inN a (5) 6 (by decide) (by decide) m) (fun v14 m2 hm2 => ?_)
    rcases hm2 with ⟨rfl, ⟨rfl, q2⟩ | ⟨rfl, q2⟩⟩
    · refine e_if_ne 23 dX4_as_17 (by decide) (fun c17 => ?_) (fun h => absurd h (by decide))
      refine e_aload_n dX4_as_23 rfl ?_
      refine e_getR (o := 4) (b := 102) dX4_as_24 lkX4_19 rfl rfl (by decide) rfl ?_
      refine e_bipush (v := 16) dX4_as_27 rfl ?_
      refine e_iload_n dX4_as_29 rfl ?_
      refine e_iadd dX4_as_30 ?_
      refine e_iald dX4_as_31 rfl (16 + p) (j_add rfl rfl) (by omega) (by decide) ?_
      refine e_iload_n dX4_as_32 rfl ?_
      refine e_callSi (n := 2) mX4_isKind [.int (m 102 (16 + p)), .int a] dX4_as_33 ckX4_221 rfl (by decide +kernel) rfl rfl (by decide) ⟨Nat.zero_le _, Nat.zero_le _⟩ (s_isKind m (m 102 (16 + p)) a) (fun v33 m3 hm3 => ?_)
      rcases hm3 with ⟨rfl, ⟨rfl, q3⟩ | ⟨rfl, q3⟩⟩
      · refine e_if_eq 47 dX4_as_36 (by decide) (fun h => absurd h (by decide)) (fun c36 => ?_)
        refine e_aload_n dX4_as_39 rfl ?_
        refine e_iload_n dX4_as_40 rfl ?_
        refine e_callVi (n := 1) mX4_well [.int (nI p)] dX4_as_41 ckX4_75 rfl (by decide +kernel) rfl rfl rfl rfl (by decide) ⟨Nat.zero_le _, Nat.zero_le _⟩ (s_well (nI p) m) (fun v41 mw hmw => ?_)
        obtain ⟨rfl, hw⟩ := hmw
        refine e_goto 52 dX4_as_44 (by decide) ?_
        exact e_iret dX4_as_52 rfl (by first | exact Or.inl ⟨q3, rfl, hw⟩ | exact Or.inr ⟨q3, rfl, hw⟩)
      · refine e_if_eq 47 dX4_as_36 (by decide) (fun c36 => ?_) (fun h => absurd h (by decide))
        refine e_aload_n dX4_as_47 rfl ?_
        refine e_iconst (v := 3) dX4_as_48 rfl ?_
        refine e_callVi (n := 1) mX4_find [.int 3] dX4_as_49 ckX4_71 rfl (by decide +kernel) rfl rfl rfl rfl (by decide) ⟨Nat.zero_le _, Nat.zero_le _⟩ (s_find 3 m) (fun v49 mw hmw => ?_)
        obtain ⟨rfl, hw⟩ := hmw
        exact e_iret dX4_as_52 rfl (by first | exact Or.inl ⟨q3, rfl, hw⟩ | exact Or.inr ⟨q3, rfl, hw⟩)
    · exact False.elim (q2 ha)
  · exact False.elim (q (inN_nI (by omega) hp))

set_option maxHeartbeats 2000000 in
set_option maxRecDepth 20000 in
theorem s_Dfault (m : jM) : iX mX4_fault [.ref 98] m (fun v m1 => v = m 98 9 ∧ m = m1) := by
  refine jX_of (L := [some (.ref 98)]) 0 rfl rfl (by decide +kernel) rfl ?_
  refine e_aload_n dX4_fault_0 rfl ?_
  refine e_getI dX4_fault_1 lkX4_138 rfl rfl ?_
  exact e_iret dX4_fault_4 rfl (⟨rfl, rfl⟩)

set_option maxHeartbeats 2000000 in
set_option maxRecDepth 20000 in
theorem s_Dstatus (m : jM) : iX mX4_status [.ref 98] m (fun v m1 => v = m 98 3 ∧ m = m1) := by
  refine jX_of (L := [some (.ref 98)]) 0 rfl rfl (by decide +kernel) rfl ?_
  refine e_aload_n dX4_status_0 rfl ?_
  refine e_getI dX4_status_1 lkX4_53 rfl rfl ?_
  exact e_iret dX4_status_4 rfl (⟨rfl, rfl⟩)
end
